section
-- ===== the model's DAYS =====
def LB (mar top : Nat → Int32) (tel co : Int32) (i L : Int) : Prop := L = cwF mar top tel co.toNatClampNeg (co.toNatClampNeg - co.toNatClampNeg % 6) (i - co.toInt / 6 * 6).toNat
theorem lb_init {mar top : Nat → Int32} {tel co : Int32} {i L : Int} (hi : i = co.toInt / 6 * 6) (hL : L = 0) : LB mar top tel co i L := by
  unfold LB; rw [show (i - co.toInt / 6 * 6).toNat = 0 by omega]; exact hL
theorem lb_no {mar top : Nat → Int32} {tel co o : Int32} {i L R : Int} (q : LB mar top tel co o.toInt L) (hb : crdB mar top tel o.toNatClampNeg co.toNatClampNeg = false) (h0 : 0 ≤ co.toInt) (h1 : co.toInt / 6 * 6 ≤ o.toInt) (hi : i = o.toInt + 1) (hR : R = L) : LB mar top tel co i R := by
  have e := clC (x := co) rfl
  have e2 := clC (x := o) rfl
  unfold LB at q ⊢
  rw [show (i - co.toInt / 6 * 6).toNat = (o.toInt - co.toInt / 6 * 6).toNat + 1 by omega]
  show R = cwF mar top tel co.toNatClampNeg (co.toNatClampNeg - co.toNatClampNeg % 6) (o.toInt - co.toInt / 6 * 6).toNat + (if crdB mar top tel (co.toNatClampNeg - co.toNatClampNeg % 6 + (o.toInt - co.toInt / 6 * 6).toNat) co.toNatClampNeg then 1 else 0)
  rw [show co.toNatClampNeg - co.toNatClampNeg % 6 + (o.toInt - co.toInt / 6 * 6).toNat = o.toNatClampNeg by omega, hb, ← q, hR]; simp
theorem lb_yes {mar top : Nat → Int32} {tel co o : Int32} {i L R : Int} (q : LB mar top tel co o.toInt L) (hb : crdB mar top tel o.toNatClampNeg co.toNatClampNeg = true) (h0 : 0 ≤ co.toInt) (h1 : co.toInt / 6 * 6 ≤ o.toInt) (hi : i = o.toInt + 1) (hR : R = L + 1) : LB mar top tel co i R := by
  have e := clC (x := co) rfl
  have e2 := clC (x := o) rfl
  unfold LB at q ⊢
  rw [show (i - co.toInt / 6 * 6).toNat = (o.toInt - co.toInt / 6 * 6).toNat + 1 by omega]
  show R = cwF mar top tel co.toNatClampNeg (co.toNatClampNeg - co.toNatClampNeg % 6) (o.toInt - co.toInt / 6 * 6).toNat + (if crdB mar top tel (co.toNatClampNeg - co.toNatClampNeg % 6 + (o.toInt - co.toInt / 6 * 6).toNat) co.toNatClampNeg then 1 else 0)
  rw [show co.toNatClampNeg - co.toNatClampNeg % 6 + (o.toInt - co.toInt / 6 * 6).toNat = o.toNatClampNeg by omega, hb, ← q, hR]; rfl
theorem lb_end {mar top : Nat → Int32} {tel co : Int32} {i L : Int} (q : LB mar top tel co i L) (hi : i = co.toInt / 6 * 6 + 6) : L = cwF mar top tel co.toNatClampNeg (co.toNatClampNeg - co.toNatClampNeg % 6) 6 := by
  unfold LB at q; rw [show (i - co.toInt / 6 * 6).toNat = 6 by omega] at q; exact q
theorem crd_noR {mar top : Nat → Int32} {tel o c r : Int32} (e : r = bc (mar (top o.toNatClampNeg).toNatClampNeg &&& mar (top c.toNatClampNeg).toNatClampNeg)) (h : r.toInt < tel.toInt) : crdB mar top tel o.toNatClampNeg c.toNatClampNeg = false := crd_no (e ▸ h)
theorem crd_yesR {mar top : Nat → Int32} {tel o c r : Int32} (e : r = bc (mar (top o.toNatClampNeg).toNatClampNeg &&& mar (top c.toNatClampNeg).toNatClampNeg)) (h : tel.toInt ≤ r.toInt) (h0 : o.toInt ≠ c.toInt) (h1 : 0 ≤ o.toInt) (h2 : 0 ≤ c.toInt) (t1 : ¬ top o.toNatClampNeg = -1) (t2 : 0 ≤ (top c.toNatClampNeg).toInt) : crdB mar top tel o.toNatClampNeg c.toNatClampNeg = true :=
  crd_yes h0 h1 h2 t1 (fun q => by rw [q] at t2; exact absurd t2 (by decide)) (e ▸ h)
def gdV (f mar top : Nat → Int32) (tel : Int32) (y : Nat) (a : Int) : Int := if top y = -1 then 0 else fl f a (cwF mar top tel y (y - y % 6) 6)
def gdS (f mar top : Nat → Int32) (tel : Int32) (o i : Int) (A F A' F' : Nat → Int32) : Prop :=
  ∀ k : Nat, k < 240 → (o ≤ k ∧ (k : Int) < o + i → (A' k).toInt = gdV f mar top tel (k - o.toNat) (A k).toInt ∧ (F' k).toInt = fl f (F k).toInt 0) ∧ (¬ (o ≤ k ∧ (k : Int) < o + i) → A' k = A k ∧ F' k = F k)
theorem gd_init {f mar top A F : Nat → Int32} {tel : Int32} {o i : Int} (hi : i = 0) : gdS f mar top tel o i A F A F := fun k _ => ⟨fun q => by omega, fun _ => ⟨rfl, rfl⟩⟩
theorem gd_step {f mar top A F A1 F1 A2 F2 : Nat → Int32} {tel y v w xr xw : Int32} {o i : Int} (q : gdS f mar top tel o y.toInt A F A1 F1) (eA : A2 = upd A1 xw.toNatClampNeg v) (eF : F2 = upd F1 xw.toNatClampNeg w) (ho : 0 ≤ o) (ho2 : o ≤ 192) (hy : 0 ≤ y.toInt) (hy2 : y.toInt < 48) (hxw : xw.toInt = o + y.toInt) (hxr : xr.toInt = o + y.toInt) (hv : v.toInt = gdV f mar top tel y.toNatClampNeg (A1 xr.toNatClampNeg).toInt) (hw : w.toInt = fl f (F1 xr.toNatClampNeg).toInt 0) (hi : i = y.toInt + 1) : gdS f mar top tel o i A F A2 F2 := by
  subst hi; subst eA; subst eF
  have ew := clC hxw
  have er := clC hxr
  have ey := clC (x := y) rfl
  rw [er] at hv hw; rw [ew]
  have w0 := (q (o + y.toInt).toNat (by omega)).2 (fun z => by omega)
  rw [w0.1] at hv; rw [w0.2] at hw
  intro k hk
  by_cases c : k = (o + y.toInt).toNat
  · subst c
    refine ⟨fun _ => ⟨?_, ?_⟩, fun z => absurd ⟨by omega, by omega⟩ z⟩
    · rw [pk_us, hv, show (o + y.toInt).toNat - o.toNat = y.toNatClampNeg by omega]
    · rw [pk_us, hw]
  · rw [pk_un c, pk_un c]
    exact ⟨fun z => (q k hk).1 (by omega), fun z => (q k hk).2 (by omega)⟩
theorem gv_none {f mar top : Nat → Int32} {tel : Int32} {y : Nat} {a V : Int} (ht : (top y).toInt = -1) (hv : V = 0) : V = gdV f mar top tel y a := by
  unfold gdV; rw [if_pos (Int32.toInt_inj.mp ht)]; exact hv
theorem fl_of {f : Nat → Int32} {x a : Int32} {V m M : Int} (ex : x = a) (hd : (x / 10).toInt = x.toInt / 10) (hm : m = M) (hv : V = max 0 (x.toInt - (f (x / 10).toNatClampNeg).toInt - m)) : V = fl f a.toInt M := by
  subst ex; subst hm; unfold fl; rw [← clC hd]; exact hv
theorem gv_top {f mar top : Nat → Int32} {tel x a : Int32} {y : Nat} {V m : Int} (ht : ¬ top y = -1) (ex : x = a) (hd : (x / 10).toInt = x.toInt / 10) (hm : m = cwF mar top tel y (y - y % 6) 6) (hv : V = max 0 (x.toInt - (f (x / 10).toNatClampNeg).toInt - m)) : V = gdV f mar top tel y a.toInt := by
  unfold gdV; rw [if_neg ht]; exact fl_of ex hd hm hv
set_option maxHeartbeats 4000000 in
set_option maxRecDepth 100000 in
theorem k_X10_likeBeside2 (l : Launch) (dC : Nat → ClassId) (dI : Nat → Nat → Nat) (cI cZ cQ : ClassId) (b : Nat → Nat) (mday : Int32) (mdoo : Int32) (mdA : Nat → Int32) (mdB : Nat → Int32) (mfar : Nat → Int32) (mmar : Nat → Int32) (mtel : Int32) (mgai : Int32) (mfal : Nat → Int32) (mtop : Nat → Int32) (mstr : Nat → Int32) (mgho : Nat → Int32) (mfai : Nat → Int32) (mpto : Nat → Int32) (mwal : Nat → Int32) (mahd : Nat → Int32) (mahf : Nat → Int32) (mcho : Nat → Int32) (mbes : Nat → Int32) (mbyt : Int32) (mtxt : Nat → Int32) (mpos : Int32) (mtka : Int32) (mtok : Int64) (mdig : Int32) (mnum : Int32) (mfau : Int32) (mrdm : Int32) (mrea : Nat → Int32) (mlin : Int32) (mlne : Nat → Int32) (mthg : Nat → Int32) (mord : Nat → Int32) (mbor : Nat → Int32) (mbsm : Int32) (mans : Nat → Int32) (mand : Nat → Int32) (manr : Nat → Int32) (mali : Nat → Int32) (co : Int32) (r_mday : 0 ≤ mday.toInt ∧ mday.toInt ≤ 400) (r_mdoo : 0 ≤ mdoo.toInt ∧ mdoo.toInt ≤ 14) (r_mdA : rg 14 (0) (7) mdA) (r_mdB : rg 14 (0) (7) mdB) (r_mmar : rg 24 (0) (255) mmar) (r_mgai : 0 ≤ mgai.toInt ∧ mgai.toInt ≤ 100) (r_mfal : rg 11 (0) (30) mfal) (r_mtop : rg 48 (-1) (23) mtop) (r_mstr : rg 48 (0) (100) mstr) (r_mgho : rg 48 (-1) (23) mgho) (r_mfai : rg 48 (0) (100) mfai) (r_mahd : rg 240 (0) (100) mahd) (r_mahf : rg 240 (0) (100) mahf) (r_mcho : rg 5 (-1) (9) mcho) (r_mbyt : 0 ≤ mbyt.toInt ∧ mbyt.toInt ≤ 160) (r_mpos : 0 ≤ mpos.toInt ∧ mpos.toInt ≤ 160) (r_mrdm : 0 ≤ mrdm.toInt ∧ mrdm.toInt ≤ 10) (r_mlin : 0 ≤ mlin.toInt ∧ mlin.toInt ≤ 10) (r_mthg : rg 8 (0) (31) mthg) (r_mord : rg 8 (-1) (8) mord) (r_mans : rg 4 (0) (12) mans) (q0 : 0 ≤ co.toInt) (q1 : co.toInt ≤ 47) (q2 : 0 ≤ (mtop co.toNatClampNeg).toInt) : KR l yX10_likeBeside wsX10_likeBeside { frames := 1, cells := 0, slots := 0, locals := 25 } (dC, dI) (TY cI cZ cQ) (wMod cI cZ cQ b mday mdoo mdA mdB mfar mmar mtel mgai mfal mtop mstr mgho mfai mpto mwal mahd mahf mcho mbes mbyt mtxt mpos mtka mtok mdig mnum mfau mrdm mrea mlin mlne mthg mord mbor mbsm mans mand manr mali) [.ref (b 39), .int co] (fun r : Int32 => (0 ≤ r.toInt) ∧ (r.toInt ≤ 6) ∧ (r.toInt = cwF mmar mtop mtel co.toNatClampNeg (co.toNatClampNeg - co.toNatClampNeg % 6) 6)) := by
  refine Met.ofW (cc := cX10_likeBeside) (maxL := 4) (ret := (some .int)) (by decide) rfl ?_
  intro p e s m args below meth c s₁ B hml hv
  obtain ⟨rfl, hP, hK, hN⟩ := hv
  have hx := B.exec
  have hb := B.bytes
  have hr := B.returns
  have hts := atoms_spec (ws := wsX10_likeBeside) B.pre
  have hown : s.vm.findClass RX10 = some m.cls := findClass_of_methodNamed B.named
  have hlocks := B.notSynchronized
  have lf32 := hts (.fieldLink RX10 32 "PalaceOfRoomsModel" "top" "[I") (List.mem_cons_of_mem _ (List.mem_append_left _ (List.mem_of_getElem? (i := 0) rfl)))
  have inX10 : ∀ w ∈ wsX100, w ∈ wsX10_likeBeside := fun w h => List.mem_cons_of_mem _ (List.mem_append_right _ h)
  have lf22 := hts (.fieldLink RX10 22 "PalaceOfRoomsModel" "tell" "I") (List.mem_cons_of_mem _ (List.mem_append_left _ (List.mem_of_getElem? (i := 1) rfl)))
  have hl := lv_entry ([.ref (b 39), .int co]) (n := 4) (Nat.le_of_ble_eq_true rfl)
  rw [lg_entry_eq]
  generalize (lg_sl ([.ref (b 39), .int co]) ++ List.replicate (4 - (lg_sl ([.ref (b 39), .int co])).length) Slot.unset).toArray = ls at hl ⊢
  have hl : lv_has ls 4 [(0, .ref (b 39)), (1, .int co)] := hl
  refine lv_iconst (v := 0) hx hb dX10_likeBeside_0 (by decide) ?_
  refine lv_istore_n (lv' := [(2, .int 0), (0, .ref (b 39)), (1, .int co)]) hx hb dX10_likeBeside_1 rfl hl (by decide) rfl (fun ls hl => ?_)
  refine lv_iload_n hx hb dX10_likeBeside_2 rfl (lv_at hl 2 rfl) ?_
  refine lv_bipush (v := 6) hx hb dX10_likeBeside_3 (by decide) ?_
  refine lv_idiv hx hb dX10_likeBeside_5 (by decide) ?_
  have f1 : (co / 6).toInt = (co.toInt) / (6) := divC rfl (show (6 : Int32).toInt = 6 from rfl) (by omega) (by omega)
  refine lv_bipush (v := 6) hx hb dX10_likeBeside_6 (by decide) ?_
  refine lv_imul hx hb dX10_likeBeside_8 ?_
  have f2 : ((co / 6) * 6).toInt = ((co.toInt) / (6)) * (6) := mulC f1 (show (6 : Int32).toInt = 6 from rfl) (by omega) (by omega)
  refine lv_topi (fun x3 ex3 => ?_)
  have ix3 : x3.toInt = ((co.toInt) / (6)) * (6) := by rw [ex3]; exact f2
  refine lv_istore_n (lv' := [(3, .int x3), (2, .int 0), (0, .ref (b 39)), (1, .int co)]) hx hb dX10_likeBeside_9 rfl hl (by decide) rfl (fun ls hl => ?_)
  have L10 : ∀ (nn : Nat) (y10_2 : Int32) (y10_3 : Int32) (ls : Array Slot), (0 ≤ (y10_3.toInt)) → ((y10_3.toInt) ≤ 48) → (0 ≤ (y10_2.toInt)) → ((y10_2.toInt) ≤ (y10_3.toInt) - (co.toInt) / 6 * 6) → ((y10_2.toInt) ≤ 6) → ((co.toInt) / 6 * 6 ≤ (y10_3.toInt)) → ((y10_3.toInt) ≤ (co.toInt) / 6 * 6 + 6) → (LB mmar mtop mtel co (y10_3.toInt) (y10_2.toInt)) → (48 - (y10_3.toInt)).toNat < nn → lv_has ls 4 [(0, .ref (b 39)), (1, .int co), (2, .int y10_2), (3, .int y10_3)] → W p l e (headSpec wsX10_likeBeside { frames := 1, cells := 0, slots := 0, locals := 25 }).room s m ([.ref (b 39), .int co] : List Value).toArray below meth c s.heap [] 0 0 (MQ below (QR (fun r : Int32 => (0 ≤ r.toInt) ∧ (r.toInt ≤ 6) ∧ (r.toInt = cwF mmar mtop mtel co.toNatClampNeg (co.toNatClampNeg - co.toNatClampNeg % 6) 6))) ([.ref (b 39), .int co] : List Value).toArray s 0 0 (fun _ => False)) (F0 m 10 ls []) := by
    intro nn
    induction nn with
    | zero =>
      intro y10_2 y10_3 ls i10_0 i10_1 i10_2 i10_3 i10_4 i10_5 i10_6 i10_7 hm10
      exact absurd hm10 (Nat.not_lt_zero _)
    | succ nn ih10 =>
      intro y10_2 y10_3 ls i10_0 i10_1 i10_2 i10_3 i10_4 i10_5 i10_6 i10_7 hm10 hl
      refine lv_iload_n hx hb dX10_likeBeside_10 rfl (lv_at hl 3 rfl) ?_
      refine lv_iload_n hx hb dX10_likeBeside_11 rfl (lv_at hl 1 rfl) ?_
      refine lv_bipush (v := 6) hx hb dX10_likeBeside_12 (by decide) ?_
      refine lv_idiv hx hb dX10_likeBeside_14 (by decide) ?_
      have f4 : (co / 6).toInt = (co.toInt) / (6) := divC rfl (show (6 : Int32).toInt = 6 from rfl) (by omega) (by omega)
      refine lv_bipush (v := 6) hx hb dX10_likeBeside_15 (by decide) ?_
      refine lv_imul hx hb dX10_likeBeside_17 ?_
      have f5 : ((co / 6) * 6).toInt = ((co.toInt) / (6)) * (6) := mulC f4 (show (6 : Int32).toInt = 6 from rfl) (by omega) (by omega)
      refine lv_bipush (v := 6) hx hb dX10_likeBeside_18 (by decide) ?_
      refine lv_iadd hx hb dX10_likeBeside_20 ?_
      have f6 : (((co / 6) * 6) + 6).toInt = (((co.toInt) / (6)) * (6)) + (6) := addC f5 (show (6 : Int32).toInt = 6 from rfl) (by omega) (by omega)
      refine lv_icmp_ge (tgt := 76) hx hb dX10_likeBeside_21 (by decide) (fun c7 => ?_) (fun c7 => ?_)
      · have dc7 : (((co.toInt) / (6)) * (6)) + (6) ≤ y10_3.toInt := leC f6 rfl c7
        refine lv_iload_n hx hb dX10_likeBeside_76 rfl (lv_at hl 2 rfl) ?_
        exact W.iret (v := y10_2) hx hb hr (fun tq ht hW => ⟨y10_2, rfl, ⟨(show 0 ≤ y10_2.toInt from by omega), (show y10_2.toInt ≤ 6 from by omega), (show y10_2.toInt = cwF mmar mtop mtel co.toNatClampNeg (co.toNatClampNeg - co.toNatClampNeg % 6) 6 from by exact lb_end i10_7 (by omega))⟩, ht⟩) (fun q h => by cases h) dX10_likeBeside_77
      · have dc7 : y10_3.toInt < (((co.toInt) / (6)) * (6)) + (6) := nleC f6 rfl c7
        refine lv_iload_n hx hb dX10_likeBeside_24 rfl (lv_at hl 2 rfl) ?_
        refine lv_iload_n hx hb dX10_likeBeside_25 rfl (lv_at hl 3 rfl) ?_
        refine lv_iload_n hx hb dX10_likeBeside_26 rfl (lv_at hl 1 rfl) ?_
        refine lv_icmp_eq (tgt := 67) hx hb dX10_likeBeside_27 (by decide) (fun c8 => ?_) (fun c8 => ?_)
        · have dc8 : y10_3.toInt = co.toInt := eqC rfl rfl c8
          refine lv_iconst (v := 0) hx hb dX10_likeBeside_67 (by decide) ?_
          refine lv_iadd hx hb dX10_likeBeside_68 ?_
          have f9 : (y10_2 + 0).toInt = (y10_2.toInt) + (0) := addC rfl (show (0 : Int32).toInt = 0 from rfl) (by omega) (by omega)
          refine lv_topi (fun x10 ex10 => ?_)
          have ix10 : x10.toInt = (y10_2.toInt) + (0) := by rw [ex10]; exact f9
          refine lv_istore_n (lv' := [(2, .int x10), (0, .ref (b 39)), (1, .int co), (3, .int y10_3)]) hx hb dX10_likeBeside_69 rfl hl (by decide) rfl (fun ls hl => ?_)
          obtain ⟨z11, ez11⟩ : ∃ y : Int32, y = y10_3 + 1 := ⟨_, rfl⟩
          have iz11 : z11.toInt = y10_3.toInt + 1 := by rw [ez11]; exact addC rfl rfl (by omega) (by omega)
          refine lv_iinc (v := z11) (lv' := [(3, .int z11), (2, .int x10), (0, .ref (b 39)), (1, .int co)]) hx hb dX10_likeBeside_70 hl (k := 3) rfl (by rw [ez11]; rfl) (by decide) rfl (fun ls hl => ?_)
          refine lv_goto (tgt := 10) hx hb dX10_likeBeside_73 (by decide) ?_
          exact ih10 x10 z11 _ (by omega) (by omega) (by omega) (by omega) (by omega) (by omega) (by omega) (by (first | exact lb_yes i10_7 (crd_yesR (by assumption) (by omega) (by omega) (by omega) (by omega) (by assumption) (by omega)) (by omega) (by omega) (by omega) (by omega) | exact lb_no i10_7 (by first | exact crd_eq (by assumption) | exact crd_t1 (by assumption) | exact crd_noR (by assumption) (by omega)) (by omega) (by omega) (by omega) (by omega) | exact lb_init (by omega) (by first | rfl | omega))) (by omega) (lv_sub hl [2, 3, 1, 0] rfl)
        · have dc8 : y10_3.toInt ≠ co.toInt := neC rfl rfl c8
          refine lv_aload_n hx hb dX10_likeBeside_30 rfl (lv_at hl 0 rfl) ?_
          refine va_get (D := (dC, dI)) (ci := 10) (v := .ref (b 9)) (C := RX10) (T := TX10) (N := 39) hx hb hts inX10 hown hK hP 0 rfl rfl 9 (by decide) lf32 (fun _ h9 => h9) rfl dX10_likeBeside_31 ?_
          refine lv_iload_n hx hb dX10_likeBeside_34 rfl (lv_at hl 3 rfl) ?_
          have b12 : vp_in y10_3 48 := inC rfl (by omega) (by omega)
          refine va_iald hx hb hK hP 6 0 rfl rfl b12 dX10_likeBeside_35 ?_
          have g13 : -1 ≤ (mtop y10_3.toNatClampNeg).toInt ∧ (mtop y10_3.toNatClampNeg).toInt ≤ 23 := rg_at r_mtop b12
          refine lv_iconst (v := (-1)) hx hb dX10_likeBeside_36 (by decide) ?_
          refine lv_icmp_eq (tgt := 67) hx hb dX10_likeBeside_37 (by decide) (fun c14 => ?_) (fun c14 => ?_)
          · have dc14 : (mtop y10_3.toNatClampNeg).toInt = (-1) := eqC rfl (show ((-1) : Int32).toInt = (-1) from rfl) c14
            refine lv_iconst (v := 0) hx hb dX10_likeBeside_67 (by decide) ?_
            refine lv_iadd hx hb dX10_likeBeside_68 ?_
            have f15 : (y10_2 + 0).toInt = (y10_2.toInt) + (0) := addC rfl (show (0 : Int32).toInt = 0 from rfl) (by omega) (by omega)
            refine lv_topi (fun x16 ex16 => ?_)
            have ix16 : x16.toInt = (y10_2.toInt) + (0) := by rw [ex16]; exact f15
            refine lv_istore_n (lv' := [(2, .int x16), (0, .ref (b 39)), (1, .int co), (3, .int y10_3)]) hx hb dX10_likeBeside_69 rfl hl (by decide) rfl (fun ls hl => ?_)
            obtain ⟨z17, ez17⟩ : ∃ y : Int32, y = y10_3 + 1 := ⟨_, rfl⟩
            have iz17 : z17.toInt = y10_3.toInt + 1 := by rw [ez17]; exact addC rfl rfl (by omega) (by omega)
            refine lv_iinc (v := z17) (lv' := [(3, .int z17), (2, .int x16), (0, .ref (b 39)), (1, .int co)]) hx hb dX10_likeBeside_70 hl (k := 3) rfl (by rw [ez17]; rfl) (by decide) rfl (fun ls hl => ?_)
            refine lv_goto (tgt := 10) hx hb dX10_likeBeside_73 (by decide) ?_
            exact ih10 x16 z17 _ (by omega) (by omega) (by omega) (by omega) (by omega) (by omega) (by omega) (by (first | exact lb_yes i10_7 (crd_yesR (by assumption) (by omega) (by omega) (by omega) (by omega) (by assumption) (by omega)) (by omega) (by omega) (by omega) (by omega) | exact lb_no i10_7 (by first | exact crd_eq (by assumption) | exact crd_t1 (by assumption) | exact crd_noR (by assumption) (by omega)) (by omega) (by omega) (by omega) (by omega) | exact lb_init (by omega) (by first | rfl | omega))) (by omega) (lv_sub hl [2, 3, 1, 0] rfl)
          · have dc14 : 0 ≤ (mtop y10_3.toNatClampNeg).toInt := ka_lo (by omega) (neC rfl (show ((-1) : Int32).toInt = (-1) from rfl) c14)
            refine lv_aload_n hx hb dX10_likeBeside_40 rfl (lv_at hl 0 rfl) ?_
            refine lv_aload_n hx hb dX10_likeBeside_41 rfl (lv_at hl 0 rfl) ?_
            refine va_get (D := (dC, dI)) (ci := 10) (v := .ref (b 9)) (C := RX10) (T := TX10) (N := 39) hx hb hts inX10 hown hK hP 0 rfl rfl 9 (by decide) lf32 (fun _ h9 => h9) rfl dX10_likeBeside_42 ?_
            refine lv_iload_n hx hb dX10_likeBeside_45 rfl (lv_at hl 3 rfl) ?_
            have b18 : vp_in y10_3 48 := inC rfl (by omega) (by omega)
            refine va_iald hx hb hK hP 6 0 rfl rfl b18 dX10_likeBeside_46 ?_
            have g19 : -1 ≤ (mtop y10_3.toNatClampNeg).toInt ∧ (mtop y10_3.toNatClampNeg).toInt ≤ 23 := rg_at r_mtop b18
            refine lv_aload_n hx hb dX10_likeBeside_47 rfl (lv_at hl 0 rfl) ?_
            refine va_get (D := (dC, dI)) (ci := 10) (v := .ref (b 9)) (C := RX10) (T := TX10) (N := 39) hx hb hts inX10 hown hK hP 0 rfl rfl 9 (by decide) lf32 (fun _ h9 => h9) rfl dX10_likeBeside_48 ?_
            refine lv_iload_n hx hb dX10_likeBeside_51 rfl (lv_at hl 1 rfl) ?_
            have b20 : vp_in co 48 := inC rfl (by omega) (by omega)
            refine va_iald hx hb hK hP 6 0 rfl rfl b20 dX10_likeBeside_52 ?_
            have g21 : -1 ≤ (mtop co.toNatClampNeg).toInt ∧ (mtop co.toNatClampNeg).toInt ≤ 23 := rg_at r_mtop b20
            refine rdV (As := [.int (mtop y10_3.toNatClampNeg), .int (mtop co.toNatClampNeg)]) (rest := [.int y10_2]) ⟨hx, hb, hml, hown, hts⟩ (k_X10_likeness l dC dI cI cZ cQ b mday mdoo mdA mdB mfar mmar mtel mgai mfal mtop mstr mgho mfai mpto mwal mahd mahf mcho mbes mbyt mtxt mpos mtka mtok mdig mnum mfau mrdm mrea mlin mlne mthg mord mbor mbsm mans mand manr mali (mtop y10_3.toNatClampNeg) (mtop co.toNatClampNeg) r_mday r_mdoo r_mdA r_mdB r_mmar r_mgai r_mfal r_mtop r_mstr r_mgho r_mfai r_mahd r_mahf r_mcho r_mbyt r_mpos r_mrdm r_mlin r_mthg r_mord r_mans (by omega) (by omega) (by omega) (by omega)) (cwV 2 hts gX10_likeBeside_X10_likeness rfl rfl rfl (by decide +kernel) ⟨Nat.le_of_ble_eq_true rfl, Nat.le_of_ble_eq_true rfl⟩) hP hK hN [0, 1, 2, 3, 4, 5, 6, 7, 8, 9, 10, 11, 12, 13, 14, 15, 16, 17, 18, 19, 20, 21, 22, 23, 24, 25] rfl 0 10 rfl rfl rfl hl.1 rfl (Nat.le_of_ble_eq_true rfl) dX10_likeBeside_53 ⟨Nat.le_of_ble_eq_true rfl, Nat.le_of_ble_eq_true rfl⟩ (fun r22 h23 => ?_)
            have h23 : (r22 = bc (mmar (mtop y10_3.toNatClampNeg).toNatClampNeg &&& mmar (mtop co.toNatClampNeg).toNatClampNeg)) := h23
            have h23_0 := h23
            refine lv_aload_n hx hb dX10_likeBeside_56 rfl (lv_at hl 0 rfl) ?_
            refine va_get (D := (dC, dI)) (ci := 10) (v := .int mtel) (C := RX10) (T := TX10) (N := 39) hx hb hts inX10 hown hK hP 0 rfl rfl 6 (by decide) lf22 (fun _ h9 => h9) rfl dX10_likeBeside_57 ?_
            refine lv_icmp_lt (tgt := 67) hx hb dX10_likeBeside_60 (by decide) (fun c24 => ?_) (fun c24 => ?_)
            · have dc24 : r22.toInt < mtel.toInt := ltC rfl rfl c24
              refine lv_iconst (v := 0) hx hb dX10_likeBeside_67 (by decide) ?_
              refine lv_iadd hx hb dX10_likeBeside_68 ?_
              have f25 : (y10_2 + 0).toInt = (y10_2.toInt) + (0) := addC rfl (show (0 : Int32).toInt = 0 from rfl) (by omega) (by omega)
              refine lv_topi (fun x26 ex26 => ?_)
              have ix26 : x26.toInt = (y10_2.toInt) + (0) := by rw [ex26]; exact f25
              refine lv_istore_n (lv' := [(2, .int x26), (0, .ref (b 39)), (1, .int co), (3, .int y10_3)]) hx hb dX10_likeBeside_69 rfl hl (by decide) rfl (fun ls hl => ?_)
              obtain ⟨z27, ez27⟩ : ∃ y : Int32, y = y10_3 + 1 := ⟨_, rfl⟩
              have iz27 : z27.toInt = y10_3.toInt + 1 := by rw [ez27]; exact addC rfl rfl (by omega) (by omega)
              refine lv_iinc (v := z27) (lv' := [(3, .int z27), (2, .int x26), (0, .ref (b 39)), (1, .int co)]) hx hb dX10_likeBeside_70 hl (k := 3) rfl (by rw [ez27]; rfl) (by decide) rfl (fun ls hl => ?_)
              refine lv_goto (tgt := 10) hx hb dX10_likeBeside_73 (by decide) ?_
              exact ih10 x26 z27 _ (by omega) (by omega) (by omega) (by omega) (by omega) (by omega) (by omega) (by (first | exact lb_yes i10_7 (crd_yesR (by assumption) (by omega) (by omega) (by omega) (by omega) (by assumption) (by omega)) (by omega) (by omega) (by omega) (by omega) | exact lb_no i10_7 (by first | exact crd_eq (by assumption) | exact crd_t1 (by assumption) | exact crd_noR (by assumption) (by omega)) (by omega) (by omega) (by omega) (by omega) | exact lb_init (by omega) (by first | rfl | omega))) (by omega) (lv_sub hl [2, 3, 1, 0] rfl)
            · have dc24 : mtel.toInt ≤ r22.toInt := nltC rfl rfl c24
              refine lv_iconst (v := 1) hx hb dX10_likeBeside_63 (by decide) ?_
              refine lv_goto (tgt := 68) hx hb dX10_likeBeside_64 (by decide) ?_
              refine lv_iadd hx hb dX10_likeBeside_68 ?_
              have f28 : (y10_2 + 1).toInt = (y10_2.toInt) + (1) := addC rfl (show (1 : Int32).toInt = 1 from rfl) (by omega) (by omega)
              refine lv_topi (fun x29 ex29 => ?_)
              have ix29 : x29.toInt = (y10_2.toInt) + (1) := by rw [ex29]; exact f28
              refine lv_istore_n (lv' := [(2, .int x29), (0, .ref (b 39)), (1, .int co), (3, .int y10_3)]) hx hb dX10_likeBeside_69 rfl hl (by decide) rfl (fun ls hl => ?_)
              obtain ⟨z30, ez30⟩ : ∃ y : Int32, y = y10_3 + 1 := ⟨_, rfl⟩
              have iz30 : z30.toInt = y10_3.toInt + 1 := by rw [ez30]; exact addC rfl rfl (by omega) (by omega)
              refine lv_iinc (v := z30) (lv' := [(3, .int z30), (2, .int x29), (0, .ref (b 39)), (1, .int co)]) hx hb dX10_likeBeside_70 hl (k := 3) rfl (by rw [ez30]; rfl) (by decide) rfl (fun ls hl => ?_)
              refine lv_goto (tgt := 10) hx hb dX10_likeBeside_73 (by decide) ?_
              exact ih10 x29 z30 _ (by omega) (by omega) (by omega) (by omega) (by omega) (by omega) (by omega) (by (first | exact lb_yes i10_7 (crd_yesR (by assumption) (by omega) (by omega) (by omega) (by omega) (by assumption) (by omega)) (by omega) (by omega) (by omega) (by omega) | exact lb_no i10_7 (by first | exact crd_eq (by assumption) | exact crd_t1 (by assumption) | exact crd_noR (by assumption) (by omega)) (by omega) (by omega) (by omega) (by omega) | exact lb_init (by omega) (by first | rfl | omega))) (by omega) (lv_sub hl [2, 3, 1, 0] rfl)
  have kc31 : (0 : Int32).toInt = 0 := rfl
  exact L10 _ 0 x3 _ (by omega) (by omega) (by omega) (by omega) (by omega) (by omega) (by omega) (by (first | exact lb_init (by omega) (by first | rfl | omega) | exact lb_yes i10_7 (crd_yesR (by assumption) (by omega) (by omega) (by omega) (by omega) (by assumption) (by omega)) (by omega) (by omega) (by omega) (by omega) | exact lb_no i10_7 (by first | exact crd_eq (by assumption) | exact crd_t1 (by assumption) | exact crd_noR (by assumption) (by omega)) (by omega) (by omega) (by omega) (by omega))) (Nat.lt_succ_self _) (lv_sub hl [2, 3, 1, 0] rfl)
set_option maxHeartbeats 4000000 in
set_option maxRecDepth 100000 in
theorem k_X10_goDay2 (l : Launch) (dC : Nat → ClassId) (dI : Nat → Nat → Nat) (cI cZ cQ : ClassId) (b : Nat → Nat) (mday : Int32) (mdoo : Int32) (mdA : Nat → Int32) (mdB : Nat → Int32) (mfar : Nat → Int32) (mmar : Nat → Int32) (mtel : Int32) (mgai : Int32) (mfal : Nat → Int32) (mtop : Nat → Int32) (mstr : Nat → Int32) (mgho : Nat → Int32) (mfai : Nat → Int32) (mpto : Nat → Int32) (mwal : Nat → Int32) (mahd : Nat → Int32) (mahf : Nat → Int32) (mcho : Nat → Int32) (mbes : Nat → Int32) (mbyt : Int32) (mtxt : Nat → Int32) (mpos : Int32) (mtka : Int32) (mtok : Int64) (mdig : Int32) (mnum : Int32) (mfau : Int32) (mrdm : Int32) (mrea : Nat → Int32) (mlin : Int32) (mlne : Nat → Int32) (mthg : Nat → Int32) (mord : Nat → Int32) (mbor : Nat → Int32) (mbsm : Int32) (mans : Nat → Int32) (mand : Nat → Int32) (manr : Nat → Int32) (mali : Nat → Int32) (sz : Nat) (fr : Int32) (to : Int32) (r_mday : 0 ≤ mday.toInt ∧ mday.toInt ≤ 400) (r_mdoo : 0 ≤ mdoo.toInt ∧ mdoo.toInt ≤ 14) (r_mdA : rg 14 (0) (7) mdA) (r_mdB : rg 14 (0) (7) mdB) (r_mmar : rg 24 (0) (255) mmar) (r_mgai : 0 ≤ mgai.toInt ∧ mgai.toInt ≤ 100) (r_mfal : rg 11 (0) (30) mfal) (r_mtop : rg 48 (-1) (23) mtop) (r_mstr : rg 48 (0) (100) mstr) (r_mgho : rg 48 (-1) (23) mgho) (r_mfai : rg 48 (0) (100) mfai) (r_mahd : rg 240 (0) (100) mahd) (r_mahf : rg 240 (0) (100) mahf) (r_mcho : rg 5 (-1) (9) mcho) (r_mbyt : 0 ≤ mbyt.toInt ∧ mbyt.toInt ≤ 160) (r_mpos : 0 ≤ mpos.toInt ∧ mpos.toInt ≤ 160) (r_mrdm : 0 ≤ mrdm.toInt ∧ mrdm.toInt ≤ 10) (r_mlin : 0 ≤ mlin.toInt ∧ mlin.toInt ≤ 10) (r_mthg : rg 8 (0) (31) mthg) (r_mord : rg 8 (-1) (8) mord) (r_mans : rg 4 (0) (12) mans) (q0 : 0 ≤ fr.toInt) (q1 : fr.toInt ≤ 192) (q2 : 0 ≤ to.toInt) (q3 : to.toInt ≤ 192) (q4 : fr.toInt = to.toInt) : KV l yX10_goDay wsX10_goDay { frames := 2, cells := 0, slots := 0, locals := 48 } (dC, dI) (TY cI cZ cQ) (wMod cI cZ cQ b mday mdoo mdA mdB mfar mmar mtel mgai mfal mtop mstr mgho mfai mpto mwal mahd mahf mcho mbes mbyt mtxt mpos mtka mtok mdig mnum mfau mrdm mrea mlin mlne mthg mord mbor mbsm mans mand manr mali) [.ref (b 39), .int fr, .int to] sz 0 0 (fun (u : US) => (gdS mfal mmar mtop mtel to.toInt 48 mahd mahf (u.1 0) (u.1 1)) ∧ (rg 240 (0) (100) (u.1 0)) ∧ (rg 240 (0) (100) (u.1 1))) (fun u : US => (wMod cI cZ cQ b mday mdoo mdA mdB mfar mmar mtel mgai mfal mtop mstr mgho mfai mpto mwal (u.1 0) (u.1 1) mcho mbes mbyt mtxt mpos mtka mtok mdig mnum mfau mrdm mrea mlin mlne mthg mord mbor mbsm mans mand manr mali)) := by
  refine Met.ofW (cc := cX10_goDay) (maxL := 6) (ret := none) (by decide) rfl ?_
  intro p e s m args below meth c s₁ B hml hv
  obtain ⟨rfl, hsz, hP, hK, hD0, hN⟩ := hv
  have hx := B.exec
  have hb := B.bytes
  have hr := B.returns
  have hts := atoms_spec (ws := wsX10_goDay) B.pre
  have hown : s.vm.findClass RX10 = some m.cls := findClass_of_methodNamed B.named
  have hlocks := B.notSynchronized
  have lf50 := hts (.fieldLink RX10 50 "PalaceOfRoomsModel" "ahead" "[I") (List.mem_cons_of_mem _ (List.mem_append_left _ (List.mem_of_getElem? (i := 0) rfl)))
  have inX10 : ∀ w ∈ wsX100, w ∈ wsX10_goDay := fun w h => List.mem_cons_of_mem _ (List.mem_append_right _ h)
  have lf53 := hts (.fieldLink RX10 53 "PalaceOfRoomsModel" "aheadFaint" "[I") (List.mem_cons_of_mem _ (List.mem_append_left _ (List.mem_of_getElem? (i := 1) rfl)))
  have lf32 := hts (.fieldLink RX10 32 "PalaceOfRoomsModel" "top" "[I") (List.mem_cons_of_mem _ (List.mem_append_left _ (List.mem_of_getElem? (i := 2) rfl)))
  have lf29 := hts (.fieldLink RX10 29 "PalaceOfRoomsModel" "falls" "[I") (List.mem_cons_of_mem _ (List.mem_append_left _ (List.mem_of_getElem? (i := 3) rfl)))
  subst hsz
  have hD := hD0.self (sz := s.heap.size)
  generalize hAe : va_A (wMod cI cZ cQ b mday mdoo mdA mdB mfar mmar mtel mgai mfal mtop mstr mgho mfai mpto mwal mahd mahf mcho mbes mbyt mtxt mpos mtka mtok mdig mnum mfau mrdm mrea mlin mlne mthg mord mbor mbsm mans mand manr mali) s.heap.size = A at hD ⊢
  have hA : ∀ q : Nat, s.heap.size ≤ q → A q := fun q h => by rw [← hAe]; exact Or.inr h
  have hS : va_S A s.heap s.heap [] := va_S.rf
  have hl := lv_entry ([.ref (b 39), .int fr, .int to]) (n := 6) (Nat.le_of_ble_eq_true rfl)
  rw [lg_entry_eq]
  generalize (lg_sl ([.ref (b 39), .int fr, .int to]) ++ List.replicate (6 - (lg_sl ([.ref (b 39), .int fr, .int to])).length) Slot.unset).toArray = ls at hl ⊢
  have hl : lv_has ls 6 [(0, .ref (b 39)), (1, .int fr), (2, .int to)] := hl
  refine lv_iconst (v := 0) hx hb dX10_goDay_0 (by decide) ?_
  refine lv_istore_n (lv' := [(3, .int 0), (0, .ref (b 39)), (1, .int fr), (2, .int to)]) hx hb dX10_goDay_1 rfl hl (by decide) rfl (fun ls hl => ?_)
  have L2 : ∀ (nn : Nat) (y2_3 : Int32) (mahd_2 : Nat → Int32) (mahf_2 : Nat → Int32) (H : Heap) (locs : List Loc) (ls : Array Slot), (rg 240 (0) (100) mahd_2) → (rg 240 (0) (100) mahf_2) → (0 ≤ (y2_3.toInt)) → ((y2_3.toInt) ≤ 48) → (gdS mfal mmar mtop mtel to.toInt (y2_3.toInt) mahd mahf mahd_2 mahf_2) → (48 - (y2_3.toInt)).toNat < nn → va_P (dC, dI) vwCl (wMod cI cZ cQ b mday mdoo mdA mdB mfar mmar mtel mgai mfal mtop mstr mgho mfai mpto mwal mahd_2 mahf_2 mcho mbes mbyt mtxt mpos mtka mtok mdig mnum mfau mrdm mrea mlin mlne mthg mord mbor mbsm mans mand manr mali) H → va_D A (wMod cI cZ cQ b mday mdoo mdA mdB mfar mmar mtel mgai mfal mtop mstr mgho mfai mpto mwal mahd_2 mahf_2 mcho mbes mbyt mtxt mpos mtka mtok mdig mnum mfau mrdm mrea mlin mlne mthg mord mbor mbsm mans mand manr mali) → va_S A s.heap H locs → lv_has ls 6 [(0, .ref (b 39)), (1, .int fr), (2, .int to), (3, .int y2_3)] → W p l e (headSpec wsX10_goDay { frames := 2, cells := 0, slots := 0, locals := 48 }).room s m ([.ref (b 39), .int fr, .int to] : List Value).toArray below meth c H locs 0 0 (MQ below (va_Qv (fun (u : US) => (gdS mfal mmar mtop mtel to.toInt 48 mahd mahf (u.1 0) (u.1 1)) ∧ (rg 240 (0) (100) (u.1 0)) ∧ (rg 240 (0) (100) (u.1 1))) (Bw (dC, dI) A (fun u : US => (wMod cI cZ cQ b mday mdoo mdA mdB mfar mmar mtel mgai mfal mtop mstr mgho mfai mpto mwal (u.1 0) (u.1 1) mcho mbes mbyt mtxt mpos mtka mtok mdig mnum mfau mrdm mrea mlin mlne mthg mord mbor mbsm mans mand manr mali))) A) ([.ref (b 39), .int fr, .int to] : List Value).toArray s 0 0 A) (F0 m 2 ls []) := by
    intro nn
    induction nn with
    | zero =>
      intro y2_3 mahd_2 mahf_2 H locs ls r_mahd_2 r_mahf_2 i2_0 i2_1 i2_2 hm2
      exact absurd hm2 (Nat.not_lt_zero _)
    | succ nn ih2 =>
      intro y2_3 mahd_2 mahf_2 H locs ls r_mahd_2 r_mahf_2 i2_0 i2_1 i2_2 hm2 hP hD hS hl
      refine lv_iload_n hx hb dX10_goDay_2 rfl (lv_at hl 3 rfl) ?_
      refine lv_bipush (v := 48) hx hb dX10_goDay_3 (by decide) ?_
      refine lv_icmp_ge (tgt := 122) hx hb dX10_goDay_5 (by decide) (fun c1 => ?_) (fun c1 => ?_)
      · have dc1 : 48 ≤ y2_3.toInt := leC (show (48 : Int32).toInt = 48 from rfl) rfl c1
        exact W.vret hx hb hr (fun tq ht hW => ⟨⟨(uS [mahd_2, mahf_2] 0 (fun _ => 0)), rfl, ⟨(show gdS mfal mmar mtop mtel to.toInt 48 mahd mahf mahd_2 mahf_2 from by (have e48 : _ = (48 : Int) := Int.le_antisymm i2_1 (by assumption); rw [← e48]; exact i2_2)), r_mahd_2, r_mahf_2⟩, by rw [ht]; exact hP, hD⟩, hS.F ht⟩) hS.2.2 dX10_goDay_122
      · have dc1 : y2_3.toInt < 48 := nleC (show (48 : Int32).toInt = 48 from rfl) rfl c1
        refine lv_aload_n hx hb dX10_goDay_8 rfl (lv_at hl 0 rfl) ?_
        refine va_get (D := (dC, dI)) (ci := 10) (v := .ref (b 15)) (C := RX10) (T := TX10) (N := 39) hx hb hts inX10 hown hK hP 0 rfl rfl 15 (by decide) lf50 (fun _ h9 => h9) rfl dX10_goDay_9 ?_
        refine lv_iload_n hx hb dX10_goDay_12 rfl (lv_at hl 1 rfl) ?_
        refine lv_iload_n hx hb dX10_goDay_13 rfl (lv_at hl 3 rfl) ?_
        refine lv_iadd hx hb dX10_goDay_14 ?_
        have f2 : (fr + y2_3).toInt = (fr.toInt) + (y2_3.toInt) := addC rfl rfl (by omega) (by omega)
        have b3 : vp_in (fr + y2_3) 240 := inC f2 (by omega) (by omega)
        refine va_iald hx hb hK hP 12 0 rfl rfl b3 dX10_goDay_15 ?_
        have g4 : 0 ≤ (mahd_2 (fr + y2_3).toNatClampNeg).toInt ∧ (mahd_2 (fr + y2_3).toNatClampNeg).toInt ≤ 100 := rg_at r_mahd_2 b3
        refine lv_topi (fun x5 ex5 => ?_)
        have ix5 : x5.toInt = (mahd_2 (fr + y2_3).toNatClampNeg).toInt := by rw [ex5]
        refine lv_istore (lv' := [(4, .int x5), (0, .ref (b 39)), (1, .int fr), (2, .int to), (3, .int y2_3)]) hx hb dX10_goDay_16 hl (by decide) rfl (fun ls hl => ?_)
        refine lv_aload_n hx hb dX10_goDay_18 rfl (lv_at hl 1 rfl) ?_
        refine va_get (D := (dC, dI)) (ci := 10) (v := .ref (b 16)) (C := RX10) (T := TX10) (N := 39) hx hb hts inX10 hown hK hP 0 rfl rfl 16 (by decide) lf53 (fun _ h9 => h9) rfl dX10_goDay_19 ?_
        refine lv_iload_n hx hb dX10_goDay_22 rfl (lv_at hl 2 rfl) ?_
        refine lv_iload_n hx hb dX10_goDay_23 rfl (lv_at hl 4 rfl) ?_
        refine lv_iadd hx hb dX10_goDay_24 ?_
        have f6 : (fr + y2_3).toInt = (fr.toInt) + (y2_3.toInt) := addC rfl rfl (by omega) (by omega)
        have b7 : vp_in (fr + y2_3) 240 := inC f6 (by omega) (by omega)
        refine va_iald hx hb hK hP 13 0 rfl rfl b7 dX10_goDay_25 ?_
        have g8 : 0 ≤ (mahf_2 (fr + y2_3).toNatClampNeg).toInt ∧ (mahf_2 (fr + y2_3).toNatClampNeg).toInt ≤ 100 := rg_at r_mahf_2 b7
        refine lv_topi (fun x9 ex9 => ?_)
        have ix9 : x9.toInt = (mahf_2 (fr + y2_3).toNatClampNeg).toInt := by rw [ex9]
        refine lv_istore (lv' := [(5, .int x9), (4, .int x5), (0, .ref (b 39)), (1, .int fr), (2, .int to), (3, .int y2_3)]) hx hb dX10_goDay_26 hl (by decide) rfl (fun ls hl => ?_)
        refine lv_aload_n hx hb dX10_goDay_28 rfl (lv_at hl 2 rfl) ?_
        refine va_get (D := (dC, dI)) (ci := 10) (v := .ref (b 9)) (C := RX10) (T := TX10) (N := 39) hx hb hts inX10 hown hK hP 0 rfl rfl 9 (by decide) lf32 (fun _ h9 => h9) rfl dX10_goDay_29 ?_
        refine lv_iload_n hx hb dX10_goDay_32 rfl (lv_at hl 5 rfl) ?_
        have b10 : vp_in y2_3 48 := inC rfl (by omega) (by omega)
        refine va_iald hx hb hK hP 6 0 rfl rfl b10 dX10_goDay_33 ?_
        have g11 : -1 ≤ (mtop y2_3.toNatClampNeg).toInt ∧ (mtop y2_3.toNatClampNeg).toInt ≤ 23 := rg_at r_mtop b10
        refine lv_iconst (v := (-1)) hx hb dX10_goDay_34 (by decide) ?_
        refine lv_icmp_ne (tgt := 42) hx hb dX10_goDay_35 (by decide) (fun c12 => ?_) (fun c12 => ?_)
        · have dc12 : 0 ≤ (mtop y2_3.toNatClampNeg).toInt := ka_lo (by omega) (neC rfl (show ((-1) : Int32).toInt = (-1) from rfl) c12)
          refine lv_iload hx hb dX10_goDay_42 (lv_at hl 1 rfl) ?_
          refine lv_aload_n hx hb dX10_goDay_44 rfl (lv_at hl 2 rfl) ?_
          refine va_get (D := (dC, dI)) (ci := 10) (v := .ref (b 8)) (C := RX10) (T := TX10) (N := 39) hx hb hts inX10 hown hK hP 0 rfl rfl 8 (by decide) lf29 (fun _ h9 => h9) rfl dX10_goDay_45 ?_
          refine lv_iload hx hb dX10_goDay_48 (lv_at hl 1 rfl) ?_
          refine lv_bipush (v := 10) hx hb dX10_goDay_50 (by decide) ?_
          refine lv_idiv hx hb dX10_goDay_52 (by decide) ?_
          have f13 : (x5 / 10).toInt = (x5.toInt) / (10) := divC rfl (show (10 : Int32).toInt = 10 from rfl) (by omega) (by omega)
          have b14 : vp_in (x5 / 10) 11 := inC f13 (by omega) (by omega)
          refine va_iald hx hb hK hP 5 0 rfl rfl b14 dX10_goDay_53 ?_
          have g15 : 0 ≤ (mfal (x5 / 10).toNatClampNeg).toInt ∧ (mfal (x5 / 10).toNatClampNeg).toInt ≤ 30 := rg_at r_mfal b14
          refine lv_isub hx hb dX10_goDay_54 ?_
          have f16 : (x5 - (mfal (x5 / 10).toNatClampNeg)).toInt = (x5.toInt) - ((mfal (x5 / 10).toNatClampNeg).toInt) := subC rfl rfl (by omega) (by omega)
          refine lv_aload_n hx hb dX10_goDay_55 rfl (lv_at hl 2 rfl) ?_
          refine lv_iload_n hx hb dX10_goDay_56 rfl (lv_at hl 5 rfl) ?_
          refine rdV (As := [.int y2_3]) (rest := [.int (x5 - (mfal (x5 / 10).toNatClampNeg))]) ⟨hx, hb, hml, hown, hts⟩ (k_X10_likeBeside2 l dC dI cI cZ cQ b mday mdoo mdA mdB mfar mmar mtel mgai mfal mtop mstr mgho mfai mpto mwal mahd_2 mahf_2 mcho mbes mbyt mtxt mpos mtka mtok mdig mnum mfau mrdm mrea mlin mlne mthg mord mbor mbsm mans mand manr mali y2_3 r_mday r_mdoo r_mdA r_mdB r_mmar r_mgai r_mfal r_mtop r_mstr r_mgho r_mfai r_mahd_2 r_mahf_2 r_mcho r_mbyt r_mpos r_mrdm r_mlin r_mthg r_mord r_mans (by omega) (by omega) (by omega)) (cwV 1 hts gX10_goDay_X10_likeBeside rfl rfl rfl (by decide +kernel) ⟨Nat.le_of_ble_eq_true rfl, Nat.le_of_ble_eq_true rfl⟩) hP hK hN [0, 1, 2, 3, 4, 5, 6, 7, 8, 9, 10, 11, 12, 13, 14, 15, 16, 17, 18, 19, 20, 21, 22, 23, 24, 25] rfl 0 10 rfl rfl rfl hl.1 rfl (Nat.le_of_ble_eq_true rfl) dX10_goDay_57 ⟨Nat.le_of_ble_eq_true rfl, Nat.le_of_ble_eq_true rfl⟩ (fun r17 h18 => ?_)
          have h18 : (0 ≤ r17.toInt) ∧ (r17.toInt ≤ 6) ∧ (r17.toInt = cwF mmar mtop mtel y2_3.toNatClampNeg (y2_3.toNatClampNeg - y2_3.toNatClampNeg % 6) 6) := h18
          obtain ⟨h18_0, h18_1, h18_2⟩ := h18
          refine lv_isub hx hb dX10_goDay_60 ?_
          have f19 : ((x5 - (mfal (x5 / 10).toNatClampNeg)) - r17).toInt = ((x5.toInt) - ((mfal (x5 / 10).toNatClampNeg).toInt)) - (r17.toInt) := subC f16 rfl (by omega) (by omega)
          refine lv_topi (fun x20 ex20 => ?_)
          have ix20 : x20.toInt = ((x5.toInt) - ((mfal (x5 / 10).toNatClampNeg).toInt)) - (r17.toInt) := by rw [ex20]; exact f19
          refine lv_istore (lv' := [(4, .int x20), (5, .int x9), (0, .ref (b 39)), (1, .int fr), (2, .int to), (3, .int y2_3)]) hx hb dX10_goDay_61 hl (by decide) rfl (fun ls hl => ?_)
          refine lv_iload hx hb dX10_goDay_63 (lv_at hl 1 rfl) ?_
          refine lv_aload_n hx hb dX10_goDay_65 rfl (lv_at hl 2 rfl) ?_
          refine va_get (D := (dC, dI)) (ci := 10) (v := .ref (b 8)) (C := RX10) (T := TX10) (N := 39) hx hb hts inX10 hown hK hP 0 rfl rfl 8 (by decide) lf29 (fun _ h9 => h9) rfl dX10_goDay_66 ?_
          refine lv_iload hx hb dX10_goDay_69 (lv_at hl 1 rfl) ?_
          refine lv_bipush (v := 10) hx hb dX10_goDay_71 (by decide) ?_
          refine lv_idiv hx hb dX10_goDay_73 (by decide) ?_
          have f21 : (x9 / 10).toInt = (x9.toInt) / (10) := divC rfl (show (10 : Int32).toInt = 10 from rfl) (by omega) (by omega)
          have b22 : vp_in (x9 / 10) 11 := inC f21 (by omega) (by omega)
          refine va_iald hx hb hK hP 5 0 rfl rfl b22 dX10_goDay_74 ?_
          have g23 : 0 ≤ (mfal (x9 / 10).toNatClampNeg).toInt ∧ (mfal (x9 / 10).toNatClampNeg).toInt ≤ 30 := rg_at r_mfal b22
          refine lv_isub hx hb dX10_goDay_75 ?_
          have f24 : (x9 - (mfal (x9 / 10).toNatClampNeg)).toInt = (x9.toInt) - ((mfal (x9 / 10).toNatClampNeg).toInt) := subC rfl rfl (by omega) (by omega)
          refine lv_topi (fun x25 ex25 => ?_)
          have ix25 : x25.toInt = (x9.toInt) - ((mfal (x9 / 10).toNatClampNeg).toInt) := by rw [ex25]; exact f24
          refine lv_istore (lv' := [(5, .int x25), (4, .int x20), (0, .ref (b 39)), (1, .int fr), (2, .int to), (3, .int y2_3)]) hx hb dX10_goDay_76 hl (by decide) rfl (fun ls hl => ?_)
          refine lv_aload_n hx hb dX10_goDay_78 rfl (lv_at hl 2 rfl) ?_
          refine va_get (D := (dC, dI)) (ci := 10) (v := .ref (b 15)) (C := RX10) (T := TX10) (N := 39) hx hb hts inX10 hown hK hP 0 rfl rfl 15 (by decide) lf50 (fun _ h9 => h9) rfl dX10_goDay_79 ?_
          refine lv_iload_n hx hb dX10_goDay_82 rfl (lv_at hl 4 rfl) ?_
          refine lv_iload_n hx hb dX10_goDay_83 rfl (lv_at hl 5 rfl) ?_
          refine lv_iadd hx hb dX10_goDay_84 ?_
          have f26 : (to + y2_3).toInt = (to.toInt) + (y2_3.toInt) := addC rfl rfl (by omega) (by omega)
          refine lv_iload hx hb dX10_goDay_85 (lv_at hl 1 rfl) ?_
          refine lv_if_ge (tgt := 94) hx hb dX10_goDay_87 (by decide) (fun c27 => ?_) (fun c27 => ?_)
          · have dc27 : 0 ≤ x20.toInt := leC (show (0 : Int32).toInt = 0 from rfl) rfl c27
            refine lv_iload hx hb dX10_goDay_94 (lv_at hl 1 rfl) ?_
            have b28 : vp_in (to + y2_3) 240 := inC f26 (by omega) (by omega)
            have g29 : rg 240 (0) (100) (upd mahd_2 (to + y2_3).toNatClampNeg x20) := rg_upd r_mahd_2 rfl (by omega) (by omega)
            refine va_iast hx hb hK hP hD hS 12 0 rfl rfl b28 dX10_goDay_96 (fun H locs hP hD hS => ?_)
            obtain ⟨mahd_u30, emahd_u30⟩ : ∃ f : Nat → Int32, f = upd mahd_2 (to + y2_3).toNatClampNeg x20 := ⟨_, rfl⟩
            have rmahd_u30 : rg 240 (0) (100) mahd_u30 := by rw [emahd_u30]; exact g29
            have hP : va_P (dC, dI) vwCl (wMod cI cZ cQ b mday mdoo mdA mdB mfar mmar mtel mgai mfal mtop mstr mgho mfai mpto mwal mahd_u30 mahf_2 mcho mbes mbyt mtxt mpos mtka mtok mdig mnum mfau mrdm mrea mlin mlne mthg mord mbor mbsm mans mand manr mali) H := by rw [emahd_u30]; exact hP
            have hD : va_D A (wMod cI cZ cQ b mday mdoo mdA mdB mfar mmar mtel mgai mfal mtop mstr mgho mfai mpto mwal mahd_u30 mahf_2 mcho mbes mbyt mtxt mpos mtka mtok mdig mnum mfau mrdm mrea mlin mlne mthg mord mbor mbsm mans mand manr mali) := by rw [emahd_u30]; exact hD
            refine lv_aload_n hx hb dX10_goDay_97 rfl (lv_at hl 2 rfl) ?_
            refine va_get (D := (dC, dI)) (ci := 10) (v := .ref (b 16)) (C := RX10) (T := TX10) (N := 39) hx hb hts inX10 hown hK hP 0 rfl rfl 16 (by decide) lf53 (fun _ h9 => h9) rfl dX10_goDay_98 ?_
            refine lv_iload_n hx hb dX10_goDay_101 rfl (lv_at hl 4 rfl) ?_
            refine lv_iload_n hx hb dX10_goDay_102 rfl (lv_at hl 5 rfl) ?_
            refine lv_iadd hx hb dX10_goDay_103 ?_
            have f31 : (to + y2_3).toInt = (to.toInt) + (y2_3.toInt) := addC rfl rfl (by omega) (by omega)
            refine lv_iload hx hb dX10_goDay_104 (lv_at hl 0 rfl) ?_
            refine lv_if_ge (tgt := 113) hx hb dX10_goDay_106 (by decide) (fun c32 => ?_) (fun c32 => ?_)
            · have dc32 : 0 ≤ x25.toInt := leC (show (0 : Int32).toInt = 0 from rfl) rfl c32
              refine lv_iload hx hb dX10_goDay_113 (lv_at hl 0 rfl) ?_
              have b33 : vp_in (to + y2_3) 240 := inC f31 (by omega) (by omega)
              have g34 : rg 240 (0) (100) (upd mahf_2 (to + y2_3).toNatClampNeg x25) := rg_upd r_mahf_2 rfl (by omega) (by omega)
              refine va_iast hx hb hK hP hD hS 13 0 rfl rfl b33 dX10_goDay_115 (fun H locs hP hD hS => ?_)
              obtain ⟨mahf_u35, emahf_u35⟩ : ∃ f : Nat → Int32, f = upd mahf_2 (to + y2_3).toNatClampNeg x25 := ⟨_, rfl⟩
              have rmahf_u35 : rg 240 (0) (100) mahf_u35 := by rw [emahf_u35]; exact g34
              have hP : va_P (dC, dI) vwCl (wMod cI cZ cQ b mday mdoo mdA mdB mfar mmar mtel mgai mfal mtop mstr mgho mfai mpto mwal mahd_u30 mahf_u35 mcho mbes mbyt mtxt mpos mtka mtok mdig mnum mfau mrdm mrea mlin mlne mthg mord mbor mbsm mans mand manr mali) H := by rw [emahf_u35]; exact hP
              have hD : va_D A (wMod cI cZ cQ b mday mdoo mdA mdB mfar mmar mtel mgai mfal mtop mstr mgho mfai mpto mwal mahd_u30 mahf_u35 mcho mbes mbyt mtxt mpos mtka mtok mdig mnum mfau mrdm mrea mlin mlne mthg mord mbor mbsm mans mand manr mali) := by rw [emahf_u35]; exact hD
              obtain ⟨z36, ez36⟩ : ∃ y : Int32, y = y2_3 + 1 := ⟨_, rfl⟩
              have iz36 : z36.toInt = y2_3.toInt + 1 := by rw [ez36]; exact addC rfl rfl (by omega) (by omega)
              refine lv_iinc (v := z36) (lv' := [(3, .int z36), (5, .int x25), (4, .int x20), (0, .ref (b 39)), (1, .int fr), (2, .int to)]) hx hb dX10_goDay_116 hl (k := 5) rfl (by rw [ez36]; rfl) (by decide) rfl (fun ls hl => ?_)
              refine lv_goto (tgt := 2) hx hb dX10_goDay_119 (by decide) ?_
              exact ih2 z36 mahd_u30 mahf_u35 _ _ _ rmahd_u30 rmahf_u35 (by omega) (by omega) (by (first | exact gd_step (xr := fr + y2_3) (xw := to + y2_3) i2_2 (by assumption) (by assumption) (by omega) (by omega) (by omega) (by omega) (by assumption) (by omega) (by first | exact gv_none (by omega) (by first | rfl | omega | (rw [Int32.toInt_zero]; omega)) | exact gv_top (by assumption) (by assumption) (by assumption) (by assumption) (by first | rfl | omega | (rw [Int32.toInt_zero]; omega))) (fl_of (m := 0) (by assumption) (by assumption) rfl (by first | rfl | omega | (rw [Int32.toInt_zero]; omega))) (by omega) | exact gd_init (by first | rfl | omega))) (by omega) hP hD hS (lv_sub hl [3, 4, 5, 0] rfl)
            · have dc32 : x25.toInt < 0 := nleC (show (0 : Int32).toInt = 0 from rfl) rfl c32
              refine lv_iconst (v := 0) hx hb dX10_goDay_109 (by decide) ?_
              refine lv_goto (tgt := 115) hx hb dX10_goDay_110 (by decide) ?_
              have b37 : vp_in (to + y2_3) 240 := inC f31 (by omega) (by omega)
              have g38 : rg 240 (0) (100) (upd mahf_2 (to + y2_3).toNatClampNeg 0) := rg_upd r_mahf_2 (show (0 : Int32).toInt = 0 from rfl) (by omega) (by omega)
              refine va_iast hx hb hK hP hD hS 13 0 rfl rfl b37 dX10_goDay_115 (fun H locs hP hD hS => ?_)
              obtain ⟨mahf_u39, emahf_u39⟩ : ∃ f : Nat → Int32, f = upd mahf_2 (to + y2_3).toNatClampNeg 0 := ⟨_, rfl⟩
              have rmahf_u39 : rg 240 (0) (100) mahf_u39 := by rw [emahf_u39]; exact g38
              have hP : va_P (dC, dI) vwCl (wMod cI cZ cQ b mday mdoo mdA mdB mfar mmar mtel mgai mfal mtop mstr mgho mfai mpto mwal mahd_u30 mahf_u39 mcho mbes mbyt mtxt mpos mtka mtok mdig mnum mfau mrdm mrea mlin mlne mthg mord mbor mbsm mans mand manr mali) H := by rw [emahf_u39]; exact hP
              have hD : va_D A (wMod cI cZ cQ b mday mdoo mdA mdB mfar mmar mtel mgai mfal mtop mstr mgho mfai mpto mwal mahd_u30 mahf_u39 mcho mbes mbyt mtxt mpos mtka mtok mdig mnum mfau mrdm mrea mlin mlne mthg mord mbor mbsm mans mand manr mali) := by rw [emahf_u39]; exact hD
              obtain ⟨z40, ez40⟩ : ∃ y : Int32, y = y2_3 + 1 := ⟨_, rfl⟩
              have iz40 : z40.toInt = y2_3.toInt + 1 := by rw [ez40]; exact addC rfl rfl (by omega) (by omega)
              refine lv_iinc (v := z40) (lv' := [(3, .int z40), (5, .int x25), (4, .int x20), (0, .ref (b 39)), (1, .int fr), (2, .int to)]) hx hb dX10_goDay_116 hl (k := 5) rfl (by rw [ez40]; rfl) (by decide) rfl (fun ls hl => ?_)
              refine lv_goto (tgt := 2) hx hb dX10_goDay_119 (by decide) ?_
              exact ih2 z40 mahd_u30 mahf_u39 _ _ _ rmahd_u30 rmahf_u39 (by omega) (by omega) (by (first | exact gd_step (xr := fr + y2_3) (xw := to + y2_3) i2_2 (by assumption) (by assumption) (by omega) (by omega) (by omega) (by omega) (by assumption) (by omega) (by first | exact gv_none (by omega) (by first | rfl | omega | (rw [Int32.toInt_zero]; omega)) | exact gv_top (by assumption) (by assumption) (by assumption) (by assumption) (by first | rfl | omega | (rw [Int32.toInt_zero]; omega))) (fl_of (m := 0) (by assumption) (by assumption) rfl (by first | rfl | omega | (rw [Int32.toInt_zero]; omega))) (by omega) | exact gd_init (by first | rfl | omega))) (by omega) hP hD hS (lv_sub hl [3, 4, 5, 0] rfl)
          · have dc27 : x20.toInt < 0 := nleC (show (0 : Int32).toInt = 0 from rfl) rfl c27
            refine lv_iconst (v := 0) hx hb dX10_goDay_90 (by decide) ?_
            refine lv_goto (tgt := 96) hx hb dX10_goDay_91 (by decide) ?_
            have b41 : vp_in (to + y2_3) 240 := inC f26 (by omega) (by omega)
            have g42 : rg 240 (0) (100) (upd mahd_2 (to + y2_3).toNatClampNeg 0) := rg_upd r_mahd_2 (show (0 : Int32).toInt = 0 from rfl) (by omega) (by omega)
            refine va_iast hx hb hK hP hD hS 12 0 rfl rfl b41 dX10_goDay_96 (fun H locs hP hD hS => ?_)
            obtain ⟨mahd_u43, emahd_u43⟩ : ∃ f : Nat → Int32, f = upd mahd_2 (to + y2_3).toNatClampNeg 0 := ⟨_, rfl⟩
            have rmahd_u43 : rg 240 (0) (100) mahd_u43 := by rw [emahd_u43]; exact g42
            have hP : va_P (dC, dI) vwCl (wMod cI cZ cQ b mday mdoo mdA mdB mfar mmar mtel mgai mfal mtop mstr mgho mfai mpto mwal mahd_u43 mahf_2 mcho mbes mbyt mtxt mpos mtka mtok mdig mnum mfau mrdm mrea mlin mlne mthg mord mbor mbsm mans mand manr mali) H := by rw [emahd_u43]; exact hP
            have hD : va_D A (wMod cI cZ cQ b mday mdoo mdA mdB mfar mmar mtel mgai mfal mtop mstr mgho mfai mpto mwal mahd_u43 mahf_2 mcho mbes mbyt mtxt mpos mtka mtok mdig mnum mfau mrdm mrea mlin mlne mthg mord mbor mbsm mans mand manr mali) := by rw [emahd_u43]; exact hD
            refine lv_aload_n hx hb dX10_goDay_97 rfl (lv_at hl 2 rfl) ?_
            refine va_get (D := (dC, dI)) (ci := 10) (v := .ref (b 16)) (C := RX10) (T := TX10) (N := 39) hx hb hts inX10 hown hK hP 0 rfl rfl 16 (by decide) lf53 (fun _ h9 => h9) rfl dX10_goDay_98 ?_
            refine lv_iload_n hx hb dX10_goDay_101 rfl (lv_at hl 4 rfl) ?_
            refine lv_iload_n hx hb dX10_goDay_102 rfl (lv_at hl 5 rfl) ?_
            refine lv_iadd hx hb dX10_goDay_103 ?_
            have f44 : (to + y2_3).toInt = (to.toInt) + (y2_3.toInt) := addC rfl rfl (by omega) (by omega)
            refine lv_iload hx hb dX10_goDay_104 (lv_at hl 0 rfl) ?_
            refine lv_if_ge (tgt := 113) hx hb dX10_goDay_106 (by decide) (fun c45 => ?_) (fun c45 => ?_)
            · have dc45 : 0 ≤ x25.toInt := leC (show (0 : Int32).toInt = 0 from rfl) rfl c45
              refine lv_iload hx hb dX10_goDay_113 (lv_at hl 0 rfl) ?_
              have b46 : vp_in (to + y2_3) 240 := inC f44 (by omega) (by omega)
              have g47 : rg 240 (0) (100) (upd mahf_2 (to + y2_3).toNatClampNeg x25) := rg_upd r_mahf_2 rfl (by omega) (by omega)
              refine va_iast hx hb hK hP hD hS 13 0 rfl rfl b46 dX10_goDay_115 (fun H locs hP hD hS => ?_)
              obtain ⟨mahf_u48, emahf_u48⟩ : ∃ f : Nat → Int32, f = upd mahf_2 (to + y2_3).toNatClampNeg x25 := ⟨_, rfl⟩
              have rmahf_u48 : rg 240 (0) (100) mahf_u48 := by rw [emahf_u48]; exact g47
              have hP : va_P (dC, dI) vwCl (wMod cI cZ cQ b mday mdoo mdA mdB mfar mmar mtel mgai mfal mtop mstr mgho mfai mpto mwal mahd_u43 mahf_u48 mcho mbes mbyt mtxt mpos mtka mtok mdig mnum mfau mrdm mrea mlin mlne mthg mord mbor mbsm mans mand manr mali) H := by rw [emahf_u48]; exact hP
              have hD : va_D A (wMod cI cZ cQ b mday mdoo mdA mdB mfar mmar mtel mgai mfal mtop mstr mgho mfai mpto mwal mahd_u43 mahf_u48 mcho mbes mbyt mtxt mpos mtka mtok mdig mnum mfau mrdm mrea mlin mlne mthg mord mbor mbsm mans mand manr mali) := by rw [emahf_u48]; exact hD
              obtain ⟨z49, ez49⟩ : ∃ y : Int32, y = y2_3 + 1 := ⟨_, rfl⟩
              have iz49 : z49.toInt = y2_3.toInt + 1 := by rw [ez49]; exact addC rfl rfl (by omega) (by omega)
              refine lv_iinc (v := z49) (lv' := [(3, .int z49), (5, .int x25), (4, .int x20), (0, .ref (b 39)), (1, .int fr), (2, .int to)]) hx hb dX10_goDay_116 hl (k := 5) rfl (by rw [ez49]; rfl) (by decide) rfl (fun ls hl => ?_)
              refine lv_goto (tgt := 2) hx hb dX10_goDay_119 (by decide) ?_
              exact ih2 z49 mahd_u43 mahf_u48 _ _ _ rmahd_u43 rmahf_u48 (by omega) (by omega) (by (first | exact gd_step (xr := fr + y2_3) (xw := to + y2_3) i2_2 (by assumption) (by assumption) (by omega) (by omega) (by omega) (by omega) (by assumption) (by omega) (by first | exact gv_none (by omega) (by first | rfl | omega | (rw [Int32.toInt_zero]; omega)) | exact gv_top (by assumption) (by assumption) (by assumption) (by assumption) (by first | rfl | omega | (rw [Int32.toInt_zero]; omega))) (fl_of (m := 0) (by assumption) (by assumption) rfl (by first | rfl | omega | (rw [Int32.toInt_zero]; omega))) (by omega) | exact gd_init (by first | rfl | omega))) (by omega) hP hD hS (lv_sub hl [3, 4, 5, 0] rfl)
            · have dc45 : x25.toInt < 0 := nleC (show (0 : Int32).toInt = 0 from rfl) rfl c45
              refine lv_iconst (v := 0) hx hb dX10_goDay_109 (by decide) ?_
              refine lv_goto (tgt := 115) hx hb dX10_goDay_110 (by decide) ?_
              have b50 : vp_in (to + y2_3) 240 := inC f44 (by omega) (by omega)
              have g51 : rg 240 (0) (100) (upd mahf_2 (to + y2_3).toNatClampNeg 0) := rg_upd r_mahf_2 (show (0 : Int32).toInt = 0 from rfl) (by omega) (by omega)
              refine va_iast hx hb hK hP hD hS 13 0 rfl rfl b50 dX10_goDay_115 (fun H locs hP hD hS => ?_)
              obtain ⟨mahf_u52, emahf_u52⟩ : ∃ f : Nat → Int32, f = upd mahf_2 (to + y2_3).toNatClampNeg 0 := ⟨_, rfl⟩
              have rmahf_u52 : rg 240 (0) (100) mahf_u52 := by rw [emahf_u52]; exact g51
              have hP : va_P (dC, dI) vwCl (wMod cI cZ cQ b mday mdoo mdA mdB mfar mmar mtel mgai mfal mtop mstr mgho mfai mpto mwal mahd_u43 mahf_u52 mcho mbes mbyt mtxt mpos mtka mtok mdig mnum mfau mrdm mrea mlin mlne mthg mord mbor mbsm mans mand manr mali) H := by rw [emahf_u52]; exact hP
              have hD : va_D A (wMod cI cZ cQ b mday mdoo mdA mdB mfar mmar mtel mgai mfal mtop mstr mgho mfai mpto mwal mahd_u43 mahf_u52 mcho mbes mbyt mtxt mpos mtka mtok mdig mnum mfau mrdm mrea mlin mlne mthg mord mbor mbsm mans mand manr mali) := by rw [emahf_u52]; exact hD
              obtain ⟨z53, ez53⟩ : ∃ y : Int32, y = y2_3 + 1 := ⟨_, rfl⟩
              have iz53 : z53.toInt = y2_3.toInt + 1 := by rw [ez53]; exact addC rfl rfl (by omega) (by omega)
              refine lv_iinc (v := z53) (lv' := [(3, .int z53), (5, .int x25), (4, .int x20), (0, .ref (b 39)), (1, .int fr), (2, .int to)]) hx hb dX10_goDay_116 hl (k := 5) rfl (by rw [ez53]; rfl) (by decide) rfl (fun ls hl => ?_)
              refine lv_goto (tgt := 2) hx hb dX10_goDay_119 (by decide) ?_
              exact ih2 z53 mahd_u43 mahf_u52 _ _ _ rmahd_u43 rmahf_u52 (by omega) (by omega) (by (first | exact gd_step (xr := fr + y2_3) (xw := to + y2_3) i2_2 (by assumption) (by assumption) (by omega) (by omega) (by omega) (by omega) (by assumption) (by omega) (by first | exact gv_none (by omega) (by first | rfl | omega | (rw [Int32.toInt_zero]; omega)) | exact gv_top (by assumption) (by assumption) (by assumption) (by assumption) (by first | rfl | omega | (rw [Int32.toInt_zero]; omega))) (fl_of (m := 0) (by assumption) (by assumption) rfl (by first | rfl | omega | (rw [Int32.toInt_zero]; omega))) (by omega) | exact gd_init (by first | rfl | omega))) (by omega) hP hD hS (lv_sub hl [3, 4, 5, 0] rfl)
        · have dc12 : (mtop y2_3.toNatClampNeg).toInt = (-1) := eqC rfl (show ((-1) : Int32).toInt = (-1) from rfl) c12
          refine lv_iconst (v := 0) hx hb dX10_goDay_38 (by decide) ?_
          refine lv_goto (tgt := 61) hx hb dX10_goDay_39 (by decide) ?_
          refine lv_istore (lv' := [(4, .int 0), (5, .int x9), (0, .ref (b 39)), (1, .int fr), (2, .int to), (3, .int y2_3)]) hx hb dX10_goDay_61 hl (by decide) rfl (fun ls hl => ?_)
          refine lv_iload hx hb dX10_goDay_63 (lv_at hl 1 rfl) ?_
          refine lv_aload_n hx hb dX10_goDay_65 rfl (lv_at hl 2 rfl) ?_
          refine va_get (D := (dC, dI)) (ci := 10) (v := .ref (b 8)) (C := RX10) (T := TX10) (N := 39) hx hb hts inX10 hown hK hP 0 rfl rfl 8 (by decide) lf29 (fun _ h9 => h9) rfl dX10_goDay_66 ?_
          refine lv_iload hx hb dX10_goDay_69 (lv_at hl 1 rfl) ?_
          refine lv_bipush (v := 10) hx hb dX10_goDay_71 (by decide) ?_
          refine lv_idiv hx hb dX10_goDay_73 (by decide) ?_
          have f54 : (x9 / 10).toInt = (x9.toInt) / (10) := divC rfl (show (10 : Int32).toInt = 10 from rfl) (by omega) (by omega)
          have b55 : vp_in (x9 / 10) 11 := inC f54 (by omega) (by omega)
          refine va_iald hx hb hK hP 5 0 rfl rfl b55 dX10_goDay_74 ?_
          have g56 : 0 ≤ (mfal (x9 / 10).toNatClampNeg).toInt ∧ (mfal (x9 / 10).toNatClampNeg).toInt ≤ 30 := rg_at r_mfal b55
          refine lv_isub hx hb dX10_goDay_75 ?_
          have f57 : (x9 - (mfal (x9 / 10).toNatClampNeg)).toInt = (x9.toInt) - ((mfal (x9 / 10).toNatClampNeg).toInt) := subC rfl rfl (by omega) (by omega)
          refine lv_topi (fun x58 ex58 => ?_)
          have ix58 : x58.toInt = (x9.toInt) - ((mfal (x9 / 10).toNatClampNeg).toInt) := by rw [ex58]; exact f57
          refine lv_istore (lv' := [(5, .int x58), (4, .int 0), (0, .ref (b 39)), (1, .int fr), (2, .int to), (3, .int y2_3)]) hx hb dX10_goDay_76 hl (by decide) rfl (fun ls hl => ?_)
          refine lv_aload_n hx hb dX10_goDay_78 rfl (lv_at hl 2 rfl) ?_
          refine va_get (D := (dC, dI)) (ci := 10) (v := .ref (b 15)) (C := RX10) (T := TX10) (N := 39) hx hb hts inX10 hown hK hP 0 rfl rfl 15 (by decide) lf50 (fun _ h9 => h9) rfl dX10_goDay_79 ?_
          refine lv_iload_n hx hb dX10_goDay_82 rfl (lv_at hl 4 rfl) ?_
          refine lv_iload_n hx hb dX10_goDay_83 rfl (lv_at hl 5 rfl) ?_
          refine lv_iadd hx hb dX10_goDay_84 ?_
          have f59 : (to + y2_3).toInt = (to.toInt) + (y2_3.toInt) := addC rfl rfl (by omega) (by omega)
          refine lv_iload hx hb dX10_goDay_85 (lv_at hl 1 rfl) ?_
          refine lv_if_ge (tgt := 94) hx hb dX10_goDay_87 (by decide) (fun _ => ?_) (fun c9 => absurd (by decide) c9)
          refine lv_iload hx hb dX10_goDay_94 (lv_at hl 1 rfl) ?_
          have b60 : vp_in (to + y2_3) 240 := inC f59 (by omega) (by omega)
          have g61 : rg 240 (0) (100) (upd mahd_2 (to + y2_3).toNatClampNeg 0) := rg_upd r_mahd_2 (show (0 : Int32).toInt = 0 from rfl) (by omega) (by omega)
          refine va_iast hx hb hK hP hD hS 12 0 rfl rfl b60 dX10_goDay_96 (fun H locs hP hD hS => ?_)
          obtain ⟨mahd_u62, emahd_u62⟩ : ∃ f : Nat → Int32, f = upd mahd_2 (to + y2_3).toNatClampNeg 0 := ⟨_, rfl⟩
          have rmahd_u62 : rg 240 (0) (100) mahd_u62 := by rw [emahd_u62]; exact g61
          have hP : va_P (dC, dI) vwCl (wMod cI cZ cQ b mday mdoo mdA mdB mfar mmar mtel mgai mfal mtop mstr mgho mfai mpto mwal mahd_u62 mahf_2 mcho mbes mbyt mtxt mpos mtka mtok mdig mnum mfau mrdm mrea mlin mlne mthg mord mbor mbsm mans mand manr mali) H := by rw [emahd_u62]; exact hP
          have hD : va_D A (wMod cI cZ cQ b mday mdoo mdA mdB mfar mmar mtel mgai mfal mtop mstr mgho mfai mpto mwal mahd_u62 mahf_2 mcho mbes mbyt mtxt mpos mtka mtok mdig mnum mfau mrdm mrea mlin mlne mthg mord mbor mbsm mans mand manr mali) := by rw [emahd_u62]; exact hD
          refine lv_aload_n hx hb dX10_goDay_97 rfl (lv_at hl 2 rfl) ?_
          refine va_get (D := (dC, dI)) (ci := 10) (v := .ref (b 16)) (C := RX10) (T := TX10) (N := 39) hx hb hts inX10 hown hK hP 0 rfl rfl 16 (by decide) lf53 (fun _ h9 => h9) rfl dX10_goDay_98 ?_
          refine lv_iload_n hx hb dX10_goDay_101 rfl (lv_at hl 4 rfl) ?_
          refine lv_iload_n hx hb dX10_goDay_102 rfl (lv_at hl 5 rfl) ?_
          refine lv_iadd hx hb dX10_goDay_103 ?_
          have f63 : (to + y2_3).toInt = (to.toInt) + (y2_3.toInt) := addC rfl rfl (by omega) (by omega)
          refine lv_iload hx hb dX10_goDay_104 (lv_at hl 0 rfl) ?_
          refine lv_if_ge (tgt := 113) hx hb dX10_goDay_106 (by decide) (fun c64 => ?_) (fun c64 => ?_)
          · have dc64 : 0 ≤ x58.toInt := leC (show (0 : Int32).toInt = 0 from rfl) rfl c64
            refine lv_iload hx hb dX10_goDay_113 (lv_at hl 0 rfl) ?_
            have b65 : vp_in (to + y2_3) 240 := inC f63 (by omega) (by omega)
            have g66 : rg 240 (0) (100) (upd mahf_2 (to + y2_3).toNatClampNeg x58) := rg_upd r_mahf_2 rfl (by omega) (by omega)
            refine va_iast hx hb hK hP hD hS 13 0 rfl rfl b65 dX10_goDay_115 (fun H locs hP hD hS => ?_)
            obtain ⟨mahf_u67, emahf_u67⟩ : ∃ f : Nat → Int32, f = upd mahf_2 (to + y2_3).toNatClampNeg x58 := ⟨_, rfl⟩
            have rmahf_u67 : rg 240 (0) (100) mahf_u67 := by rw [emahf_u67]; exact g66
            have hP : va_P (dC, dI) vwCl (wMod cI cZ cQ b mday mdoo mdA mdB mfar mmar mtel mgai mfal mtop mstr mgho mfai mpto mwal mahd_u62 mahf_u67 mcho mbes mbyt mtxt mpos mtka mtok mdig mnum mfau mrdm mrea mlin mlne mthg mord mbor mbsm mans mand manr mali) H := by rw [emahf_u67]; exact hP
            have hD : va_D A (wMod cI cZ cQ b mday mdoo mdA mdB mfar mmar mtel mgai mfal mtop mstr mgho mfai mpto mwal mahd_u62 mahf_u67 mcho mbes mbyt mtxt mpos mtka mtok mdig mnum mfau mrdm mrea mlin mlne mthg mord mbor mbsm mans mand manr mali) := by rw [emahf_u67]; exact hD
            obtain ⟨z68, ez68⟩ : ∃ y : Int32, y = y2_3 + 1 := ⟨_, rfl⟩
            have iz68 : z68.toInt = y2_3.toInt + 1 := by rw [ez68]; exact addC rfl rfl (by omega) (by omega)
            refine lv_iinc (v := z68) (lv' := [(3, .int z68), (5, .int x58), (4, .int 0), (0, .ref (b 39)), (1, .int fr), (2, .int to)]) hx hb dX10_goDay_116 hl (k := 5) rfl (by rw [ez68]; rfl) (by decide) rfl (fun ls hl => ?_)
            refine lv_goto (tgt := 2) hx hb dX10_goDay_119 (by decide) ?_
            exact ih2 z68 mahd_u62 mahf_u67 _ _ _ rmahd_u62 rmahf_u67 (by omega) (by omega) (by (first | exact gd_step (xr := fr + y2_3) (xw := to + y2_3) i2_2 (by assumption) (by assumption) (by omega) (by omega) (by omega) (by omega) (by assumption) (by omega) (by first | exact gv_none (by omega) (by first | rfl | omega | (rw [Int32.toInt_zero]; omega)) | exact gv_top (by assumption) (by assumption) (by assumption) (by assumption) (by first | rfl | omega | (rw [Int32.toInt_zero]; omega))) (fl_of (m := 0) (by assumption) (by assumption) rfl (by first | rfl | omega | (rw [Int32.toInt_zero]; omega))) (by omega) | exact gd_init (by first | rfl | omega))) (by omega) hP hD hS (lv_sub hl [3, 4, 5, 0] rfl)
          · have dc64 : x58.toInt < 0 := nleC (show (0 : Int32).toInt = 0 from rfl) rfl c64
            refine lv_iconst (v := 0) hx hb dX10_goDay_109 (by decide) ?_
            refine lv_goto (tgt := 115) hx hb dX10_goDay_110 (by decide) ?_
            have b69 : vp_in (to + y2_3) 240 := inC f63 (by omega) (by omega)
            have g70 : rg 240 (0) (100) (upd mahf_2 (to + y2_3).toNatClampNeg 0) := rg_upd r_mahf_2 (show (0 : Int32).toInt = 0 from rfl) (by omega) (by omega)
            refine va_iast hx hb hK hP hD hS 13 0 rfl rfl b69 dX10_goDay_115 (fun H locs hP hD hS => ?_)
            obtain ⟨mahf_u71, emahf_u71⟩ : ∃ f : Nat → Int32, f = upd mahf_2 (to + y2_3).toNatClampNeg 0 := ⟨_, rfl⟩
            have rmahf_u71 : rg 240 (0) (100) mahf_u71 := by rw [emahf_u71]; exact g70
            have hP : va_P (dC, dI) vwCl (wMod cI cZ cQ b mday mdoo mdA mdB mfar mmar mtel mgai mfal mtop mstr mgho mfai mpto mwal mahd_u62 mahf_u71 mcho mbes mbyt mtxt mpos mtka mtok mdig mnum mfau mrdm mrea mlin mlne mthg mord mbor mbsm mans mand manr mali) H := by rw [emahf_u71]; exact hP
            have hD : va_D A (wMod cI cZ cQ b mday mdoo mdA mdB mfar mmar mtel mgai mfal mtop mstr mgho mfai mpto mwal mahd_u62 mahf_u71 mcho mbes mbyt mtxt mpos mtka mtok mdig mnum mfau mrdm mrea mlin mlne mthg mord mbor mbsm mans mand manr mali) := by rw [emahf_u71]; exact hD
            obtain ⟨z72, ez72⟩ : ∃ y : Int32, y = y2_3 + 1 := ⟨_, rfl⟩
            have iz72 : z72.toInt = y2_3.toInt + 1 := by rw [ez72]; exact addC rfl rfl (by omega) (by omega)
            refine lv_iinc (v := z72) (lv' := [(3, .int z72), (5, .int x58), (4, .int 0), (0, .ref (b 39)), (1, .int fr), (2, .int to)]) hx hb dX10_goDay_116 hl (k := 5) rfl (by rw [ez72]; rfl) (by decide) rfl (fun ls hl => ?_)
            refine lv_goto (tgt := 2) hx hb dX10_goDay_119 (by decide) ?_
            exact ih2 z72 mahd_u62 mahf_u71 _ _ _ rmahd_u62 rmahf_u71 (by omega) (by omega) (by (first | exact gd_step (xr := fr + y2_3) (xw := to + y2_3) i2_2 (by assumption) (by assumption) (by omega) (by omega) (by omega) (by omega) (by assumption) (by omega) (by first | exact gv_none (by omega) (by first | rfl | omega | (rw [Int32.toInt_zero]; omega)) | exact gv_top (by assumption) (by assumption) (by assumption) (by assumption) (by first | rfl | omega | (rw [Int32.toInt_zero]; omega))) (fl_of (m := 0) (by assumption) (by assumption) rfl (by first | rfl | omega | (rw [Int32.toInt_zero]; omega))) (by omega) | exact gd_init (by first | rfl | omega))) (by omega) hP hD hS (lv_sub hl [3, 4, 5, 0] rfl)
  have kc73 : (0 : Int32).toInt = 0 := rfl
  exact L2 _ 0 mahd mahf _ _ _ r_mahd r_mahf (by omega) (by omega) (by (first | exact gd_init (by first | rfl | omega) | exact gd_step (xr := fr + y2_3) (xw := to + y2_3) i2_2 (by assumption) (by assumption) (by omega) (by omega) (by omega) (by omega) (by assumption) (by omega) (by first | exact gv_none (by omega) (by first | rfl | omega | (rw [Int32.toInt_zero]; omega)) | exact gv_top (by assumption) (by assumption) (by assumption) (by assumption) (by first | rfl | omega | (rw [Int32.toInt_zero]; omega))) (fl_of (m := 0) (by assumption) (by assumption) rfl (by first | rfl | omega | (rw [Int32.toInt_zero]; omega))) (by omega))) (Nat.lt_succ_self _) hP hD hS (lv_sub hl [1, 2, 3, 0] rfl)
end
section
-- ===== CORNERS: the class's and the model's =====
theorem it_pos {c : Int32} {V X : Int} (h : c = -1) (hV : V = 0) : V = (if c = -1 then 0 else X) := by rw [if_pos h]; exact hV
theorem it_neg {c : Int32} {V X : Int} (h : ¬ c = -1) (hV : V = X) : V = (if c = -1 then 0 else X) := by rw [if_neg h]; exact hV
def fnt (gho fai : Nat → Int32) (j : Nat) : Int := if gho j = -1 then 0 else (fai j).toInt
def laI (top str gho fai : Nat → Int32) (i : Int) (A F : Nat → Int32) : Prop := ∀ j : Nat, (j : Int) < i → (A j).toInt = (if top j = -1 then 0 else (str j).toInt) ∧ (F j).toInt = (if gho j = -1 then 0 else (fai j).toInt)
theorem la_init {top str gho fai A F : Nat → Int32} {i : Int} (hi : i = 0) : laI top str gho fai i A F := fun j hj => by omega
theorem la_step {top str gho fai A F A2 F2 : Nat → Int32} {y v w : Int32} {i : Int} (q : laI top str gho fai y.toInt A F) (eA : A2 = upd A y.toNatClampNeg v) (eF : F2 = upd F y.toNatClampNeg w) (hy : 0 ≤ y.toInt) (hv : v.toInt = (if top y.toNatClampNeg = -1 then 0 else (str y.toNatClampNeg).toInt)) (hw : w.toInt = (if gho y.toNatClampNeg = -1 then 0 else (fai y.toNatClampNeg).toInt)) (hi : i = y.toInt + 1) : laI top str gho fai i A2 F2 := by
  subst hi; subst eA; subst eF
  have ey := clC (x := y) rfl
  intro j hj
  by_cases c : j = y.toNatClampNeg
  · subst c; rw [pk_us, pk_us]; exact ⟨hv, hw⟩
  · rw [pk_un c, pk_un c]; exact q j (by omega)
def laS (f mar top str gho fai : Nat → Int32) (tel : Int32) (n : Nat) (A F : Nat → Int32) : Prop := ∀ j : Nat, j < 48 → (top j ≠ -1 → (A j).toInt = itf f (cwF mar top tel j (j - j % 6) 6) (str j).toInt n) ∧ (F j).toInt = itf f 0 (fnt gho fai j) n
theorem la_zero {f mar top str gho fai A F : Nat → Int32} {tel : Int32} {i : Int} {n : Nat} (q : laI top str gho fai i A F) (hi : 48 ≤ i) (hn : n = 0) : laS f mar top str gho fai tel n A F := by
  subst hn
  intro j hj
  have w := q j (by omega)
  refine ⟨fun z => ?_, w.2⟩
  have := w.1; rw [if_neg z] at this; exact this
theorem la_day {f mar top str gho fai A F A2 F2 : Nat → Int32} {tel : Int32} {n n2 : Nat} {o : Int} (q : laS f mar top str gho fai tel n A F) (g : gdS f mar top tel o 48 A F A2 F2) (ho : o = 0) (hn : n2 = n + 1) : laS f mar top str gho fai tel n2 A2 F2 := by
  subst hn; subst ho
  intro j hj
  have w := (g j (by omega)).1 ⟨by omega, by omega⟩
  have z := q j hj
  refine ⟨fun t => ?_, ?_⟩
  · have w1 := w.1
    unfold gdV at w1
    rw [show j - (0 : Int).toNat = j from rfl, if_neg t, z.1 t] at w1
    exact w1
  · have w2 := w.2
    rw [z.2] at w2
    exact w2
def dyI (gho A F : Nat → Int32) (i : Int) (S Fa G : Nat → Int32) : Prop := ∀ j : Nat, j < 48 → ((j : Int) < i → S j = A j ∧ Fa j = F j ∧ ((F j).toInt = 0 → G j = -1) ∧ ((F j).toInt ≠ 0 → G j = gho j)) ∧ (i ≤ j → G j = gho j)
theorem dy_init {gho A F S Fa : Nat → Int32} {i : Int} (hi : i = 0) : dyI gho A F i S Fa gho := fun j _ => ⟨fun q => by omega, fun _ => rfl⟩
theorem dy_step {gho A F S Fa G S2 Fa2 G2 : Nat → Int32} {y x w g : Int32} {i : Int} (q : dyI gho A F y.toInt S Fa G) (eS : S2 = upd S y.toNatClampNeg x) (hx : x = A y.toNatClampNeg) (eF : Fa2 = upd Fa y.toNatClampNeg w) (hw : w = F y.toNatClampNeg) (eG : G2 = upd G y.toNatClampNeg g) (hy : 0 ≤ y.toInt) (hy2 : y.toInt < 48) (hg : ((Fa2 y.toNatClampNeg).toInt = 0 ∧ g = -1) ∨ ((Fa2 y.toNatClampNeg).toInt ≠ 0 ∧ g = G y.toNatClampNeg)) (hi : i = y.toInt + 1) : dyI gho A F i S2 Fa2 G2 := by
  subst hi; subst eS; subst eF; subst eG; subst hx; subst hw
  have ey := clC (x := y) rfl
  rw [pk_us] at hg
  have w0 := (q y.toNatClampNeg (by omega)).2 (by omega)
  intro j hj
  by_cases c : j = y.toNatClampNeg
  · subst c
    refine ⟨fun _ => ⟨pk_us, pk_us, fun z => ?_, fun z => ?_⟩, fun z => by omega⟩
    · rcases hg with h | h
      · rw [pk_us]; exact h.2
      · exact absurd z h.1
    · rcases hg with h | h
      · exact absurd h.1 z
      · rw [pk_us, h.2]; exact w0
  · rw [pk_un c, pk_un c, pk_un c]
    exact ⟨fun z => (q j hj).1 (by omega), fun z => (q j hj).2 (by omega)⟩
def dyM (mar f top str gho fai : Nat → Int32) (tel : Int32) (n : Nat) (S G Fa : Nat → Int32) : Prop := ∀ j : Nat, j < 48 → (top j ≠ -1 → (S j).toInt = itf f (cwF mar top tel j (j - j % 6) 6) (str j).toInt n) ∧ (Fa j).toInt = itf f 0 (fnt gho fai j) n ∧ ((Fa j).toInt = 0 → G j = -1) ∧ ((Fa j).toInt ≠ 0 → G j = gho j)
theorem dy_end {mar f top str gho fai A F S Fa G : Nat → Int32} {tel : Int32} {n m : Nat} {i : Int} (q : laS f mar top str gho fai tel n A F) (d : dyI gho A F i S Fa G) (hi : 48 ≤ i) (hn : m = n) : dyM mar f top str gho fai tel m S G Fa := by
  subst hn
  intro j hj
  have w := (d j hj).1 (by omega)
  have z := q j hj
  rw [w.1, w.2.1]
  exact ⟨z.1, z.2, w.2.2⟩
-- walking
def gwF (top A : Nat → Int32) (g : Int) (o lo : Nat) : Nat → Int
  | 0 => 0
  | k + 1 => gwF top A g o lo k + (if top (lo + k) = -1 then 0 else gn g (A (o + (lo + k))).toInt)
def gwS (top : Nat → Int32) (g o lo i : Int) (A A2 : Nat → Int32) (came : Int) : Prop :=
  (∀ k : Nat, k < 240 → (o + lo ≤ k ∧ (k : Int) < o + i ∧ top (k - o.toNat) ≠ -1 → (A2 k).toInt = (A k).toInt + gn g (A k).toInt) ∧ (¬ (o + lo ≤ k ∧ (k : Int) < o + i ∧ top (k - o.toNat) ≠ -1) → A2 k = A k)) ∧ came = gwF top A g o.toNat lo.toNat (i - lo).toNat
theorem gw_init {top A : Nat → Int32} {g o lo i c : Int} (hi : i = lo) (hc : c = 0) : gwS top g o lo i A A c := by
  subst hi; subst hc
  refine ⟨fun j _ => ⟨fun q => by omega, fun _ => rfl⟩, ?_⟩
  rw [show (i - i).toNat = 0 by omega]; rfl
theorem gw_step {top A A1 A2 : Nat → Int32} {g o lo i c c2 r : Int} {y x xr : Int32} (q : gwS top g o lo y.toInt A A1 c) (ho : 0 ≤ o) (ho2 : o ≤ 192) (h0 : 0 ≤ lo) (h1 : lo ≤ y.toInt) (h2 : y.toInt < 48) (hxr : xr.toInt = o + y.toInt) (es : A2 = upd A1 xr.toNatClampNeg x) (hr : r = (if top y.toNatClampNeg = -1 then 0 else gn g (A1 xr.toNatClampNeg).toInt)) (hx : x.toInt = (A1 xr.toNatClampNeg).toInt + r) (hc : c2 = c + r) (hi : i = y.toInt + 1) : gwS top g o lo i A A2 c2 := by
  subst hi; subst es
  have e := clC (x := y) rfl
  have ex := clC hxr
  rw [ex] at hr hx ⊢
  have w0 := (q.1 (o + y.toInt).toNat (by omega)).2 (fun z => by omega)
  rw [w0] at hr hx
  refine ⟨fun j hj => ?_, ?_⟩
  · have w := q.1 j hj
    by_cases c : j = (o + y.toInt).toNat
    · subst c
      have et : (o + y.toInt).toNat - o.toNat = y.toNatClampNeg := by omega
      rw [et, pk_us]
      by_cases t : top y.toNatClampNeg = -1
      · rw [if_pos t] at hr
        refine ⟨fun z => absurd t z.2.2, fun _ => ?_⟩
        apply Int32.toInt_inj.mp; rw [hx, hr]; omega
      · rw [if_neg t] at hr
        exact ⟨fun _ => by rw [hx, hr], fun z => absurd ⟨by omega, by omega, t⟩ z⟩
    · rw [pk_un c]
      exact ⟨fun z => w.1 ⟨z.1, by omega, z.2.2⟩, fun z => w.2 (fun t => z ⟨t.1, by omega, t.2.2⟩)⟩
  · have w := q.2
    rw [show (y.toInt + 1 - lo).toNat = (y.toInt - lo).toNat + 1 by omega]
    show _ = gwF top A g o.toNat lo.toNat (y.toInt - lo).toNat + (if top (lo.toNat + (y.toInt - lo).toNat) = -1 then 0 else gn g (A (o.toNat + (lo.toNat + (y.toInt - lo).toNat))).toInt)
    rw [show o.toNat + (lo.toNat + (y.toInt - lo).toNat) = (o + y.toInt).toNat by omega, show lo.toNat + (y.toInt - lo).toNat = y.toNatClampNeg by omega, ← w, hc, hr]
theorem gw_end {top A A2 : Nat → Int32} {g o lo i lo' i' c : Int} (q : gwS top g o lo i A A2 c) (h : lo' = lo) (hi : i' = i) : gwS top g o lo' i' A A2 c := by
  subst h; subst hi; exact q
def wlI (str A : Nat → Int32) (lo i : Int) (S : Nat → Int32) : Prop := ∀ j : Nat, j < 48 → (lo ≤ j ∧ (j : Int) < i → S j = A j) ∧ (¬ (lo ≤ j ∧ (j : Int) < i) → S j = str j)
theorem wl_init {str A : Nat → Int32} {lo i : Int} (hi : i = lo) : wlI str A lo i str := fun j _ => ⟨fun q => by omega, fun _ => rfl⟩
theorem wl_step {str A S S2 : Nat → Int32} {lo i : Int} {y x : Int32} (q : wlI str A lo y.toInt S) (es : S2 = upd S y.toNatClampNeg x) (hx : x = A y.toNatClampNeg) (h0 : 0 ≤ lo) (h1 : lo ≤ y.toInt) (hi : i = y.toInt + 1) : wlI str A lo i S2 := by
  subst hi; subst es; subst hx
  have e := clC (x := y) rfl
  intro j hj
  by_cases c : j = y.toNatClampNeg
  · subst c; exact ⟨fun _ => pk_us, fun z => absurd ⟨by omega, by omega⟩ z⟩
  · rw [pk_un c]; exact ⟨fun z => (q j hj).1 (by omega), fun z => (q j hj).2 (by omega)⟩
def wkM (top str : Nat → Int32) (g lo i : Int) (S : Nat → Int32) (came : Int) : Prop :=
  (∀ j : Nat, j < 48 → top j ≠ -1 → (lo ≤ j ∧ (j : Int) < i → (S j).toInt = (str j).toInt + gn g (str j).toInt) ∧ (¬ (lo ≤ j ∧ (j : Int) < i) → S j = str j)) ∧ came = wkF top str g lo.toNat (i - lo).toNat
theorem gwF_eq {top str gho fai A F : Nat → Int32} {g : Int} {lo : Nat} {i : Int} (q : laI top str gho fai i A F) (hi : 48 ≤ i) : ∀ k, lo + k ≤ 48 → gwF top A g 0 lo k = wkF top str g lo k
  | 0, _ => rfl
  | k + 1, hk => by
    show gwF top A g 0 lo k + (if top (lo + k) = -1 then 0 else gn g (A (0 + (lo + k))).toInt) = wkF top str g lo k + (if top (lo + k) = -1 then 0 else gn g (str (lo + k)).toInt)
    rw [gwF_eq q hi k (by omega), Nat.zero_add]
    by_cases t : top (lo + k) = -1
    · rw [if_pos t, if_pos t]
    · have w := (q (lo + k) (by omega)).1
      rw [if_neg t] at w
      rw [if_neg t, if_neg t, w]
theorem wl_end {top str gho fai A F A2 S : Nat → Int32} {g o lo lo2 i i0 i2 : Int} {c : Int} (q : laI top str gho fai i A F) (hi : 48 ≤ i) (g1 : gwS top g o lo i0 A A2 c) (ho : o = 0) (h0 : 0 ≤ lo) (h1 : i0 = lo + 6) (h2 : i0 ≤ 48) (w : wlI str A2 lo2 i2 S) (e1 : lo2 = lo) (e2 : i2 = i0) : wkM top str g lo i0 S c := by
  subst ho; subst e1; subst e2
  refine ⟨fun j hj t => ?_, ?_⟩
  · have a := q j (by omega)
    have b := g1.1 j (by omega)
    rw [show j - (0 : Int).toNat = j from rfl] at b
    have d := w j hj
    have a1 := a.1; rw [if_neg t] at a1
    refine ⟨fun z => ?_, fun z => d.2 z⟩
    rw [d.1 z, b.1 ⟨by omega, by omega, t⟩, a1]
  · rw [g1.2]; exact gwF_eq q hi _ (by omega)
-- ===== the relation of the CORNERS =====
def crR (top str gho ghs pto wal mt ms mg mf mp mw : Nat → Int32) : Prop :=
  (∀ j : Nat, j < 48 → top j = mt j ∧ gho j = mg j ∧ pto j = mp j ∧ (top j ≠ -1 → str j = ms j) ∧ (gho j ≠ -1 → ghs j = mf j)) ∧ (∀ j : Nat, j < 8 → wal j = mw j)
def crI (top gho ghs : Nat → Int32) : Prop := ∀ j : Nat, j < 48 → (top j = -1 → gho j = -1) ∧ (gho j = -1 ∨ 0 < (ghs j).toInt)
theorem cr_init {top gho ghs : Nat → Int32} (h : ∀ j, j < 48 → gho j = -1) : crI top gho ghs := fun j hj => ⟨fun _ => h j hj, .inl (h j hj)⟩
theorem nn_m1 {t : Int32} (ht : 0 ≤ t.toInt) : ¬ t = -1 := fun e => by rw [e] at ht; exact absurd ht (by decide)
-- put
def cvC (top str gho ghs pto : Nat → Int32) (day c : Int32) (str' gho' ghs' pto' : Nat → Int32) : Prop :=
  str' = upd str c.toNatClampNeg 100 ∧ pto' = upd pto c.toNatClampNeg day ∧ ((top c.toNatClampNeg = -1 ∧ gho' = gho ∧ ghs' = ghs) ∨ (top c.toNatClampNeg ≠ -1 ∧ 0 < (str c.toNatClampNeg).toInt ∧ gho' = upd gho c.toNatClampNeg (top c.toNatClampNeg) ∧ ghs' = upd ghs c.toNatClampNeg (str c.toNatClampNeg)) ∨ (top c.toNatClampNeg ≠ -1 ∧ (str c.toNatClampNeg).toInt ≤ 0 ∧ gho' = upd gho c.toNatClampNeg (-1) ∧ ghs' = upd ghs c.toNatClampNeg (str c.toNatClampNeg)))
def cvM (mt ms mg mf mp : Nat → Int32) (day c : Int32) (ms' mg' mf' mp' : Nat → Int32) : Prop :=
  ms' = upd ms c.toNatClampNeg 100 ∧ mp' = upd mp c.toNatClampNeg day ∧ ((mt c.toNatClampNeg ≠ -1 ∧ 0 < (ms c.toNatClampNeg).toInt ∧ mg' = upd mg c.toNatClampNeg (mt c.toNatClampNeg) ∧ mf' = upd mf c.toNatClampNeg (ms c.toNatClampNeg)) ∨ ((mt c.toNatClampNeg = -1 ∨ (ms c.toNatClampNeg).toInt ≤ 0) ∧ mg' = upd mg c.toNatClampNeg (-1) ∧ mf' = upd mf c.toNatClampNeg 0))
def spPutC (top str gho ghs pto : Nat → Int32) (day t c r : Int32) (top' str' gho' ghs' pto' : Nat → Int32) : Prop :=
  ((t.toInt < 0 ∨ 23 < t.toInt ∨ c.toInt < 0 ∨ 47 < c.toInt) ∧ r = -2 ∧ top' = top ∧ str' = str ∧ gho' = gho ∧ ghs' = ghs ∧ pto' = pto) ∨ ((0 ≤ t.toInt ∧ t.toInt ≤ 23 ∧ 0 ≤ c.toInt ∧ c.toInt ≤ 47) ∧ (∃ j : Nat, j < 48 ∧ top j = t) ∧ r = -4 ∧ top' = top ∧ str' = str ∧ gho' = gho ∧ ghs' = ghs ∧ pto' = pto) ∨ ((0 ≤ t.toInt ∧ t.toInt ≤ 23 ∧ 0 ≤ c.toInt ∧ c.toInt ≤ 47) ∧ (∀ j : Nat, j < 48 → top j ≠ t) ∧ r = top c.toNatClampNeg ∧ top' = upd top c.toNatClampNeg t ∧ cvC top str gho ghs pto day c str' gho' ghs' pto')
def spPutM (mt ms mg mf mp : Nat → Int32) (day t c r : Int32) (mt' ms' mg' mf' mp' : Nat → Int32) : Prop :=
  ((t.toInt < 0 ∨ 23 < t.toInt ∨ c.toInt < 0 ∨ 47 < c.toInt) ∧ r = -2 ∧ mt' = mt ∧ ms' = ms ∧ mg' = mg ∧ mf' = mf ∧ mp' = mp) ∨ ((0 ≤ t.toInt ∧ t.toInt ≤ 23 ∧ 0 ≤ c.toInt ∧ c.toInt ≤ 47) ∧ (∃ j : Nat, j < 48 ∧ mt j = t) ∧ r = -4 ∧ mt' = mt ∧ ms' = ms ∧ mg' = mg ∧ mf' = mf ∧ mp' = mp) ∨ ((0 ≤ t.toInt ∧ t.toInt ≤ 23 ∧ 0 ≤ c.toInt ∧ c.toInt ≤ 47) ∧ (∀ j : Nat, j < 48 → mt j ≠ t) ∧ r = mt c.toNatClampNeg ∧ mt' = upd mt c.toNatClampNeg t ∧ cvM mt ms mg mf mp day c ms' mg' mf' mp')
theorem putC_bad {top str gho ghs pto : Nat → Int32} {day t c : Int32} (h : t.toInt < 0 ∨ 23 < t.toInt ∨ c.toInt < 0 ∨ 47 < c.toInt) : spPutC top str gho ghs pto day t c (-2) top str gho ghs pto := Or.inl ⟨h, rfl, rfl, rfl, rfl, rfl, rfl⟩
theorem putC_no {top str gho ghs pto pla : Nat → Int32} {day t c : Int32} (h : plOK top pla) (h0 : 0 ≤ t.toInt ∧ t.toInt ≤ 23 ∧ 0 ≤ c.toInt ∧ c.toInt ≤ 47) (hp : ¬ pla t.toNatClampNeg = -1) : spPutC top str gho ghs pto day t c (-4) top str gho ghs pto := Or.inr (Or.inl ⟨h0, whu_y (pl_u h h0.1 h0.2.1) hp, rfl, rfl, rfl, rfl, rfl, rfl⟩)
theorem putC_ok {top str gho ghs pto pla top' str' gho' ghs' pto' : Nat → Int32} {day t c r : Int32} (h : plOK top pla) (h0 : 0 ≤ t.toInt ∧ t.toInt ≤ 23 ∧ 0 ≤ c.toInt ∧ c.toInt ≤ 47) (hp : pla t.toNatClampNeg = -1) (hr : r = top c.toNatClampNeg) (h1 : top' = upd top c.toNatClampNeg t) (h2 : cvC top str gho ghs pto day c str' gho' ghs' pto') : spPutC top str gho ghs pto day t c r top' str' gho' ghs' pto' := Or.inr (Or.inr ⟨h0, whu_n (pl_u h h0.1 h0.2.1) hp, hr, h1, h2⟩)
theorem putM_bad {top str gho ghs pto : Nat → Int32} {day t c : Int32} (h : t.toInt < 0 ∨ 23 < t.toInt ∨ c.toInt < 0 ∨ 47 < c.toInt) : spPutM top str gho ghs pto day t c (-2) top str gho ghs pto := Or.inl ⟨h, rfl, rfl, rfl, rfl, rfl, rfl⟩
theorem putM_no {top str gho ghs pto : Nat → Int32} {day t c q : Int32} (h : whr top t q) (h0 : 0 ≤ t.toInt ∧ t.toInt ≤ 23 ∧ 0 ≤ c.toInt ∧ c.toInt ≤ 47) (hp : ¬ q = -1) : spPutM top str gho ghs pto day t c (-4) top str gho ghs pto := Or.inr (Or.inl ⟨h0, whr_y h hp, rfl, rfl, rfl, rfl, rfl, rfl⟩)
theorem putM_ok {top str gho ghs pto top' str' gho' ghs' pto' : Nat → Int32} {day t c r q : Int32} (h : whr top t q) (h0 : 0 ≤ t.toInt ∧ t.toInt ≤ 23 ∧ 0 ≤ c.toInt ∧ c.toInt ≤ 47) (hp : q = -1) (hr : r = top c.toNatClampNeg) (h1 : top' = upd top c.toNatClampNeg t) (h2 : cvM top str gho ghs pto day c str' gho' ghs' pto') : spPutM top str gho ghs pto day t c r top' str' gho' ghs' pto' := Or.inr (Or.inr ⟨h0, whr_n h hp, hr, h1, h2⟩)
theorem crI_put {top str gho ghs pto top' str' gho' ghs' pto' : Nat → Int32} {day t c : Int32} (h : crI top gho ghs) (ht : 0 ≤ t.toInt) (et : top' = upd top c.toNatClampNeg t) (q : cvC top str gho ghs pto day c str' gho' ghs' pto') : crI top' gho' ghs' := by
  subst et
  obtain ⟨-, -, q⟩ := q
  intro j hj
  by_cases e : j = c.toNatClampNeg
  · subst e
    refine ⟨fun z => absurd (pk_us.symm.trans z) (nn_m1 ht), ?_⟩
    rcases q with ⟨a, b, d⟩ | ⟨a, b, d, f⟩ | ⟨a, b, d, f⟩
    · rw [b]; exact .inl ((h _ hj).1 a)
    · rw [f, pk_us]; exact .inr b
    · rw [d]; exact .inl pk_us
  · rcases q with ⟨a, b, d⟩ | ⟨a, b, d, f⟩ | ⟨a, b, d, f⟩
    · rw [b, d, pk_un e]; exact h j hj
    · rw [d, f, pk_un e, pk_un e, pk_un e]; exact h j hj
    · rw [d, f, pk_un e, pk_un e, pk_un e]; exact h j hj
theorem cv_rel {top str gho ghs pto mt ms mg mf mp str' gho' ghs' pto' ms' mg' mf' mp' : Nat → Int32} {day t c : Int32} (R : ∀ j : Nat, j < 48 → top j = mt j ∧ gho j = mg j ∧ pto j = mp j ∧ (top j ≠ -1 → str j = ms j) ∧ (gho j ≠ -1 → ghs j = mf j)) (I : crI top gho ghs) (hc : c.toNatClampNeg < 48) (h1 : cvC top str gho ghs pto day c str' gho' ghs' pto') (h2 : cvM mt ms mg mf mp day c ms' mg' mf' mp') : ∀ j : Nat, j < 48 → upd top c.toNatClampNeg t j = upd mt c.toNatClampNeg t j ∧ gho' j = mg' j ∧ pto' j = mp' j ∧ (upd top c.toNatClampNeg t j ≠ -1 → str' j = ms' j) ∧ (gho' j ≠ -1 → ghs' j = mf' j) := by
  obtain ⟨e1, e2, q1⟩ := h1
  obtain ⟨d1, d2, q2⟩ := h2
  subst e1; subst e2; subst d1; subst d2
  have rc := R _ hc
  intro j hj
  by_cases e : j = c.toNatClampNeg
  · subst e
    rw [pk_us, pk_us, pk_us, pk_us, pk_us, pk_us]
    refine ⟨rfl, ?_, rfl, fun _ => rfl, ?_⟩
    · rcases q1 with ⟨a, b, d⟩ | ⟨a, b, d, f⟩ | ⟨a, b, d, f⟩
      · rw [b, (I _ hc).1 a]
        rcases q2 with ⟨z, -, w, -⟩ | ⟨-, w, -⟩
        · exact absurd (rc.1.symm.trans a) z
        · rw [w, pk_us]
      · rw [d, pk_us]
        rcases q2 with ⟨z, z2, w, -⟩ | ⟨z, w, -⟩
        · rw [w, pk_us]; exact rc.1
        · exfalso
          rcases z with z | z
          · exact a (rc.1.trans z)
          · rw [rc.2.2.2.1 a] at b; omega
      · rw [d, pk_us]
        rcases q2 with ⟨z, z2, w, -⟩ | ⟨z, w, -⟩
        · exfalso; rw [rc.2.2.2.1 a] at b; omega
        · rw [w, pk_us]
    · rcases q1 with ⟨a, b, d⟩ | ⟨a, b, d, f⟩ | ⟨a, b, d, f⟩
      · intro z; rw [b] at z; exact absurd ((I _ hc).1 a) z
      · intro _
        rw [f, pk_us]
        rcases q2 with ⟨z, z2, -, w⟩ | ⟨z, w, -⟩
        · rw [w, pk_us]; exact rc.2.2.2.1 a
        · exfalso
          rcases z with z | z
          · exact a (rc.1.trans z)
          · rw [rc.2.2.2.1 a] at b; omega
      · intro z; rw [d, pk_us] at z; exact absurd rfl z
  · rw [pk_un e, pk_un e, pk_un e, pk_un e, pk_un e, pk_un e]
    have r := R j hj
    have g1 : gho' j = gho j ∧ ghs' j = ghs j := by
      rcases q1 with ⟨a, b, d⟩ | ⟨a, b, d, f⟩ | ⟨a, b, d, f⟩
      · rw [b, d]; exact ⟨rfl, rfl⟩
      · rw [d, f, pk_un e, pk_un e]; exact ⟨rfl, rfl⟩
      · rw [d, f, pk_un e, pk_un e]; exact ⟨rfl, rfl⟩
    have g2 : mg' j = mg j ∧ mf' j = mf j := by
      rcases q2 with ⟨z, z2, w, w2⟩ | ⟨z, w, w2⟩
      · rw [w, w2, pk_un e, pk_un e]; exact ⟨rfl, rfl⟩
      · rw [w, w2, pk_un e, pk_un e]; exact ⟨rfl, rfl⟩
    rw [g1.1, g1.2, g2.1, g2.2]; exact r
theorem spPutC_rel {top str gho ghs pto wal mt ms mg mf mp mw top' str' gho' ghs' pto' mt' ms' mg' mf' mp' : Nat → Int32} {day mday t c r r2 : Int32} (R : crR top str gho ghs pto wal mt ms mg mf mp mw) (I : crI top gho ghs) (ed : day = mday) (h1 : spPutC top str gho ghs pto day t c r top' str' gho' ghs' pto') (h2 : spPutM mt ms mg mf mp mday t c r2 mt' ms' mg' mf' mp') : r = r2 ∧ crR top' str' gho' ghs' pto' wal mt' ms' mg' mf' mp' mw := by
  subst ed
  have h := fun j hj => (R.1 j hj).1
  rcases h1 with ⟨a, b, e1, e2, e3, e4, e5⟩ | ⟨a, ⟨k, hk, ek⟩, b, e1, e2, e3, e4, e5⟩ | ⟨a, f, b, e1, v1⟩
  · rcases h2 with ⟨a2, b2, d1, d2, d3, d4, d5⟩ | ⟨a2, b2⟩ | ⟨a2, b2⟩
    · rw [b, b2, e1, e2, e3, e4, e5, d1, d2, d3, d4, d5]; exact ⟨rfl, R⟩
    · exfalso; omega
    · exfalso; omega
  · rcases h2 with ⟨a2, b2⟩ | ⟨a2, -, b2, d1, d2, d3, d4, d5⟩ | ⟨a2, f2, -⟩
    · exfalso; omega
    · rw [b, b2, e1, e2, e3, e4, e5, d1, d2, d3, d4, d5]; exact ⟨rfl, R⟩
    · exact absurd ((h k hk).symm.trans ek) (f2 k hk)
  · rcases h2 with ⟨a2, b2⟩ | ⟨a2, ⟨k, hk, ek⟩, -⟩ | ⟨a2, f2, b2, d1, v2⟩
    · exfalso; omega
    · exact absurd ((h k hk).trans ek) (f k hk)
    · have hc : c.toNatClampNeg < 48 := by rw [clC (x := c) rfl]; omega
      rw [b, b2, e1, d1]
      exact ⟨h _ hc, cv_rel R.1 I hc v1 v2, R.2⟩
-- clear
def spClrC (top gho : Nat → Int32) (c r : Int32) (top' gho' : Nat → Int32) : Prop := ((c.toInt < 0 ∨ 47 < c.toInt) ∧ r = -2 ∧ top' = top ∧ gho' = gho) ∨ ((0 ≤ c.toInt ∧ c.toInt ≤ 47) ∧ top c.toNatClampNeg = -1 ∧ r = -4 ∧ top' = top ∧ gho' = gho) ∨ ((0 ≤ c.toInt ∧ c.toInt ≤ 47) ∧ top c.toNatClampNeg ≠ -1 ∧ r = top c.toNatClampNeg ∧ top' = upd top c.toNatClampNeg (-1) ∧ gho' = upd gho c.toNatClampNeg (-1))
def spClrM (mt ms mg mf : Nat → Int32) (c r : Int32) (mt' ms' mg' mf' : Nat → Int32) : Prop := ((c.toInt < 0 ∨ 47 < c.toInt) ∧ r = -2 ∧ mt' = mt ∧ ms' = ms ∧ mg' = mg ∧ mf' = mf) ∨ ((0 ≤ c.toInt ∧ c.toInt ≤ 47) ∧ mt c.toNatClampNeg = -1 ∧ r = -4 ∧ mt' = mt ∧ ms' = ms ∧ mg' = mg ∧ mf' = mf) ∨ ((0 ≤ c.toInt ∧ c.toInt ≤ 47) ∧ mt c.toNatClampNeg ≠ -1 ∧ r = mt c.toNatClampNeg ∧ mt' = upd mt c.toNatClampNeg (-1) ∧ ms' = upd ms c.toNatClampNeg 0 ∧ mg' = upd mg c.toNatClampNeg (-1) ∧ mf' = upd mf c.toNatClampNeg 0)
theorem clrC_no {top gho : Nat → Int32} {c x : Int32} (h0 : 0 ≤ c.toInt ∧ c.toInt ≤ 47) (hx : x = top c.toNatClampNeg) (hc : x = -1) : spClrC top gho c (-4) top gho := Or.inr (Or.inl ⟨h0, hx.symm.trans hc, rfl, rfl, rfl⟩)
theorem clrC_ok {top gho top' gho' : Nat → Int32} {c r : Int32} (h0 : 0 ≤ c.toInt ∧ c.toInt ≤ 47) (hx : r = top c.toNatClampNeg) (hc : ¬ r = -1) (h1 : top' = upd top c.toNatClampNeg (-1)) (h2 : gho' = upd gho c.toNatClampNeg (-1)) : spClrC top gho c r top' gho' := Or.inr (Or.inr ⟨h0, fun q => hc (hx.trans q), hx, h1, h2⟩)
theorem clrM_no {mt ms mg mf : Nat → Int32} {c : Int32} (h0 : 0 ≤ c.toInt ∧ c.toInt ≤ 47) (hc : mt c.toNatClampNeg = -1) : spClrM mt ms mg mf c (-4) mt ms mg mf := Or.inr (Or.inl ⟨h0, hc, rfl, rfl, rfl, rfl, rfl⟩)
theorem clrM_ok {mt ms mg mf mt' ms' mg' mf' : Nat → Int32} {c r : Int32} (h0 : 0 ≤ c.toInt ∧ c.toInt ≤ 47) (hx : r = mt c.toNatClampNeg) (hc : ¬ mt c.toNatClampNeg = -1) (h1 : mt' = upd mt c.toNatClampNeg (-1)) (h2 : ms' = upd ms c.toNatClampNeg 0) (h3 : mg' = upd mg c.toNatClampNeg (-1)) (h4 : mf' = upd mf c.toNatClampNeg 0) : spClrM mt ms mg mf c r mt' ms' mg' mf' := Or.inr (Or.inr ⟨h0, hc, hx, h1, h2, h3, h4⟩)
theorem crI_clr {top gho ghs top' gho' : Nat → Int32} {c : Int32} (h : crI top gho ghs) (et : top' = upd top c.toNatClampNeg (-1)) (eg : gho' = upd gho c.toNatClampNeg (-1)) : crI top' gho' ghs := by
  subst et; subst eg
  intro j hj
  by_cases e : j = c.toNatClampNeg
  · subst e; rw [pk_us, pk_us]; exact ⟨fun _ => rfl, .inl rfl⟩
  · rw [pk_un e, pk_un e]; exact h j hj
theorem spClrC_rel {top str gho ghs pto wal mt ms mg mf mp mw top' gho' mt' ms' mg' mf' : Nat → Int32} {c r r2 : Int32} (R : crR top str gho ghs pto wal mt ms mg mf mp mw) (h1 : spClrC top gho c r top' gho') (h2 : spClrM mt ms mg mf c r2 mt' ms' mg' mf') : r = r2 ∧ crR top' str gho' ghs pto wal mt' ms' mg' mf' mp mw := by
  have hc : (0 ≤ c.toInt ∧ c.toInt ≤ 47) → c.toNatClampNeg < 48 := fun q => by rw [clC (x := c) rfl]; omega
  rcases h1 with ⟨a, b, e1, e2⟩ | ⟨a, f, b, e1, e2⟩ | ⟨a, f, b, e1, e2⟩
  · rcases h2 with ⟨a2, b2, d1, d2, d3, d4⟩ | ⟨a2, b2⟩ | ⟨a2, b2⟩
    · rw [b, b2, e1, e2, d1, d2, d3, d4]; exact ⟨rfl, R⟩
    · exfalso; omega
    · exfalso; omega
  · rcases h2 with ⟨a2, b2⟩ | ⟨a2, f2, b2, d1, d2, d3, d4⟩ | ⟨a2, f2, -⟩
    · exfalso; omega
    · rw [b, b2, e1, e2, d1, d2, d3, d4]; exact ⟨rfl, R⟩
    · exact absurd ((R.1 _ (hc a)).1.symm.trans f) f2
  · rcases h2 with ⟨a2, b2⟩ | ⟨a2, f2, -⟩ | ⟨a2, f2, b2, d1, d2, d3, d4⟩
    · exfalso; omega
    · exact absurd ((R.1 _ (hc a)).1.trans f2) f
    · rw [b, b2, e1, e2, d1, d2, d3, d4]
      refine ⟨(R.1 _ (hc a)).1, fun j hj => ?_, R.2⟩
      by_cases e : j = c.toNatClampNeg
      · subst e
        rw [pk_us, pk_us, pk_us, pk_us, pk_us, pk_us]
        exact ⟨rfl, rfl, (R.1 _ hj).2.2.1, fun z => absurd rfl z, fun z => absurd rfl z⟩
      · rw [pk_un e, pk_un e, pk_un e, pk_un e, pk_un e, pk_un e]; exact R.1 j hj
-- days
def spDysC (mar f top str gho ghs : Nat → Int32) (tel day n r day' : Int32) (str' gho' ghs' : Nat → Int32) : Prop := spDays day n r day' ∧ (((n.toInt < 1 ∨ 60 < n.toInt ∨ 400 < day.toInt + n.toInt) ∧ str' = str ∧ gho' = gho ∧ ghs' = ghs) ∨ ((1 ≤ n.toInt ∧ n.toInt ≤ 60 ∧ day.toInt + n.toInt ≤ 400) ∧ dyC mar f top str gho ghs tel n.toInt.toNat str' gho' ghs'))
def spDysM (mar f top str gho fai : Nat → Int32) (tel day n r day' : Int32) (str' gho' fai' : Nat → Int32) : Prop := spDays day n r day' ∧ (((n.toInt < 1 ∨ 60 < n.toInt ∨ 400 < day.toInt + n.toInt) ∧ str' = str ∧ gho' = gho ∧ fai' = fai) ∨ ((1 ≤ n.toInt ∧ n.toInt ≤ 60 ∧ day.toInt + n.toInt ≤ 400) ∧ dyM mar f top str gho fai tel n.toInt.toNat str' gho' fai'))
theorem cw_nn {mar top : Nat → Int32} {tel : Int32} {c lo : Nat} : ∀ k, 0 ≤ cwF mar top tel c lo k
  | 0 => Int.le_refl 0
  | k + 1 => by
    have := cw_nn (mar := mar) (top := top) (tel := tel) (c := c) (lo := lo) k
    show 0 ≤ cwF mar top tel c lo k + (if crdB mar top tel (lo + k) c then 1 else 0)
    cases crdB mar top tel (lo + k) c
    · show 0 ≤ cwF mar top tel c lo k + 0
      omega
    · show 0 ≤ cwF mar top tel c lo k + 1
      omega
theorem cw_eq {mar t t2 : Nat → Int32} {tel : Int32} {c lo : Nat} (h : ∀ j : Nat, j < 48 → t j = t2 j) (hc : c < 48) : ∀ k, lo + k ≤ 48 → cwF mar t tel c lo k = cwF mar t2 tel c lo k
  | 0, _ => rfl
  | k + 1, hk => by
    show cwF mar t tel c lo k + (if crdB mar t tel (lo + k) c then 1 else 0) = cwF mar t2 tel c lo k + (if crdB mar t2 tel (lo + k) c then 1 else 0)
    have e : crdB mar t tel (lo + k) c = crdB mar t2 tel (lo + k) c := by unfold crdB; rw [h (lo + k) (by omega), h c hc]
    rw [cw_eq h hc k (by omega), e]
theorem crI_days {mar f top str gho ghs str' gho' ghs' : Nat → Int32} {tel : Int32} {n : Nat} (h : crI top gho ghs) (q : dyC mar f top str gho ghs tel n str' gho' ghs') : crI top gho' ghs' := by
  intro j hj
  rcases (q j hj).2 with ⟨a, b⟩ | ⟨a, b, -⟩ | ⟨a, b, d, e⟩
  · exact ⟨fun _ => b, .inl b⟩
  · exact ⟨fun _ => b, .inl b⟩
  · exact ⟨fun z => absurd ((h j hj).1 z) a, .inr (by rw [e]; exact d)⟩
theorem spDays_one {d n r d' r2 d2 : Int32} (h1 : spDays d n r d') (h2 : spDays d n r2 d2) : r = r2 ∧ d' = d2 := by
  unfold spDays at h1 h2
  rcases h1 with ⟨a, rfl, rfl⟩ | ⟨a, rfl, rfl⟩ <;> rcases h2 with ⟨c, rfl, rfl⟩ | ⟨c, rfl, rfl⟩ <;> first | exact ⟨rfl, rfl⟩ | (exfalso; omega)
theorem spDysC_rel {mar mm f mfl top str gho ghs pto wal mt ms mg mf mp mw str' gho' ghs' ms' mg' mf' : Nat → Int32} {tel mtel day mday n r r2 day' mday' : Int32} (R : crR top str gho ghs pto wal mt ms mg mf mp mw) (em : mar = mm) (et : tel = mtel) (ed : day = mday) (ef : ∀ j, j < 11 → f j = mfl j) (hf : rg 11 0 30 f) (hs : rg 48 0 100 str) (hg : rg 48 0 100 ghs) (h1 : spDysC mar f top str gho ghs tel day n r day' str' gho' ghs') (h2 : spDysM mm mfl mt ms mg mf mtel mday n r2 mday' ms' mg' mf') : r = r2 ∧ day' = mday' ∧ crR top str' gho' ghs' pto wal mt ms' mg' mf' mp mw := by
  subst em; subst et; subst ed
  have d := spDays_one h1.1 h2.1
  refine ⟨d.1, d.2, fun j hj => ?_, R.2⟩
  have R1 := R.1 j hj
  rcases h1.2 with ⟨a, e1, e2, e3⟩ | ⟨a, q1⟩
  · rcases h2.2 with ⟨-, d1, d2, d3⟩ | ⟨b, -⟩
    · rw [e1, e2, e3, d1, d2, d3]; exact R1
    · exfalso; omega
  · rcases h2.2 with ⟨b, -⟩ | ⟨-, q2⟩
    · exfalso; omega
    · have w1 := q1 j hj
      have w2 := q2 j hj
      have hsj := hs j hj
      have hgj := hg j hj
      refine ⟨R1.1, ?_, R1.2.2.1, fun t => ?_, fun z => ?_⟩
      · rcases w1.2 with ⟨u1, u2⟩ | ⟨u1, u2, u3⟩ | ⟨u1, u2, u3, u4⟩
        · rw [u2, w2.2.2.1]
          rw [w2.2.1]
          unfold fnt
          rw [if_pos (R1.2.1.symm.trans u1)]
          exact itf_zero (fun k hk => by rw [← ef k hk]; exact hf k hk) _
        · rw [u2, w2.2.2.1]
          rw [w2.2.1]
          unfold fnt
          rw [if_neg (fun z => u1 (R1.2.1.trans z)), ← R1.2.2.2.2 u1, ← itf_eq ef hf hgj.1 hgj.2 (Int.le_refl 0)]
          exact u3
        · rw [u2, w2.2.2.2]
          · exact R1.2.1
          · rw [w2.2.1]
            unfold fnt
            rw [if_neg (fun z => u1 (R1.2.1.trans z)), ← R1.2.2.2.2 u1, ← itf_eq ef hf hgj.1 hgj.2 (Int.le_refl 0)]
            omega
      · apply Int32.toInt_inj.mp
        have t2 : mt j ≠ -1 := fun z => t (R1.1.trans z)
        rw [w1.1 t, w2.1 t2, ← R1.2.2.2.1 t, itf_eq ef hf hsj.1 hsj.2 (cw_nn 6), cw_eq (fun j hj => (R.1 j hj).1) hj 6 (by omega)]
      · apply Int32.toInt_inj.mp
        rcases w1.2 with ⟨u1, u2⟩ | ⟨u1, u2, u3⟩ | ⟨u1, u2, u3, u4⟩
        · exact absurd u2 z
        · exact absurd u2 z
        · rw [u4, w2.2.1]
          unfold fnt
          rw [if_neg (fun z => u1 (R1.2.1.trans z)), ← R1.2.2.2.2 u1, ← itf_eq ef hf hgj.1 hgj.2 (Int.le_refl 0)]
-- walk
def spWlkC (top str wal : Nat → Int32) (gai day ro r : Int32) (str' wal' : Nat → Int32) : Prop := ((ro.toInt < 0 ∨ 7 < ro.toInt) ∧ r = -2 ∧ str' = str ∧ wal' = wal) ∨ ((0 ≤ ro.toInt ∧ ro.toInt ≤ 7) ∧ wkS top str gai.toInt (ro.toInt * 6) (ro.toInt * 6 + 6) str' r.toInt ∧ wal' = upd wal ro.toNatClampNeg day)
def spWlkM (top str wal : Nat → Int32) (gai day ro r : Int32) (str' wal' : Nat → Int32) : Prop := ((ro.toInt < 0 ∨ 7 < ro.toInt) ∧ r = -2 ∧ str' = str ∧ wal' = wal) ∨ ((0 ≤ ro.toInt ∧ ro.toInt ≤ 7) ∧ wkM top str gai.toInt (ro.toInt * 6) (ro.toInt * 6 + 6) str' r.toInt ∧ wal' = upd wal ro.toNatClampNeg day)
theorem wkF_eq {t t2 s s2 : Nat → Int32} {g : Int} {lo : Nat} (h : ∀ j : Nat, j < 48 → t j = t2 j) (hs : ∀ j : Nat, j < 48 → t j ≠ -1 → s j = s2 j) : ∀ k, lo + k ≤ 48 → wkF t s g lo k = wkF t2 s2 g lo k
  | 0, _ => rfl
  | k + 1, hk => by
    show wkF t s g lo k + (if t (lo + k) = -1 then 0 else gn g (s (lo + k)).toInt) = wkF t2 s2 g lo k + (if t2 (lo + k) = -1 then 0 else gn g (s2 (lo + k)).toInt)
    rw [wkF_eq h hs k (by omega), ← h (lo + k) (by omega)]
    by_cases z : t (lo + k) = -1
    · rw [if_pos z, if_pos z]
    · rw [if_neg z, if_neg z, hs (lo + k) (by omega) z]
theorem spWlkC_rel {top str gho ghs pto wal mt ms mg mf mp mw str' wal' ms' mw' : Nat → Int32} {gai mgai day mday ro r r2 : Int32} (R : crR top str gho ghs pto wal mt ms mg mf mp mw) (eg : gai = mgai) (ed : day = mday) (h1 : spWlkC top str wal gai day ro r str' wal') (h2 : spWlkM mt ms mw mgai mday ro r2 ms' mw') : r = r2 ∧ crR top str' gho ghs pto wal' mt ms' mg mf mp mw' := by
  subst eg; subst ed
  rcases h1 with ⟨a, b, e1, e2⟩ | ⟨a, q1, e1⟩
  · rcases h2 with ⟨-, b2, d1, d2⟩ | ⟨a2, -⟩
    · rw [b, b2, e1, e2, d1, d2]; exact ⟨rfl, R⟩
    · exfalso; omega
  · rcases h2 with ⟨a2, -⟩ | ⟨a2, q2, d1⟩
    · exfalso; omega
    · refine ⟨?_, fun j hj => ?_, fun j hj => ?_⟩
      · apply Int32.toInt_inj.mp
        rw [q1.2, q2.2]
        exact wkF_eq (fun j hj => (R.1 j hj).1) (fun j hj => (R.1 j hj).2.2.2.1) _ (by omega)
      · have r := R.1 j hj
        refine ⟨r.1, r.2.1, r.2.2.1, fun t => ?_, r.2.2.2.2⟩
        have t2 : mt j ≠ -1 := fun z => t (r.1.trans z)
        have w1 := q1.1 j hj
        have w2 := q2.1 j hj t2
        by_cases c : ro.toInt * 6 ≤ (j : Int) ∧ (j : Int) < ro.toInt * 6 + 6
        · apply Int32.toInt_inj.mp
          rw [w1.1 ⟨c.1, c.2, t⟩, w2.1 c, r.2.2.2.1 t]
        · rw [w1.2 (fun z => c ⟨z.1, z.2.1⟩), w2.2 c]; exact r.2.2.2.1 t
      · rw [e1, d1]
        by_cases e : j = ro.toNatClampNeg
        · subst e; rw [pk_us, pk_us]
        · rw [pk_un e, pk_un e]; exact R.2 j hj
-- corner
def spCor (top str gho ghs pto : Nat → Int32) (c w r : Int32) : Prop :=
  ((c.toInt < 0 ∨ 47 < c.toInt) ∧ r = -2) ∨ ((0 ≤ c.toInt ∧ c.toInt ≤ 47) ∧ ((w.toInt = 0 ∧ r = top c.toNatClampNeg) ∨ (w.toInt = 1 ∧ ((top c.toNatClampNeg = -1 ∧ r = -1) ∨ (top c.toNatClampNeg ≠ -1 ∧ r = str c.toNatClampNeg))) ∨ (w.toInt = 2 ∧ r = gho c.toNatClampNeg) ∨ (w.toInt = 3 ∧ ((gho c.toNatClampNeg = -1 ∧ r = -1) ∨ (gho c.toNatClampNeg ≠ -1 ∧ r = ghs c.toNatClampNeg))) ∨ (w.toInt = 4 ∧ r = pto c.toNatClampNeg) ∨ ((w.toInt < 0 ∨ 4 < w.toInt) ∧ r = -3)))
theorem spCor_det {top str gho ghs pto : Nat → Int32} {c w r r2 : Int32} (h1 : spCor top str gho ghs pto c w r) (h2 : spCor top str gho ghs pto c w r2) : r = r2 := by
  rcases h1 with ⟨a, b⟩ | ⟨a, b⟩
  · rcases h2 with ⟨a2, b2⟩ | ⟨a2, b2⟩
    · rw [b, b2]
    · exfalso; omega
  · rcases h2 with ⟨a2, b2⟩ | ⟨a2, b2⟩
    · exfalso; omega
    · rcases b with ⟨w1, b⟩ | ⟨w1, b⟩ | ⟨w1, b⟩ | ⟨w1, b⟩ | ⟨w1, b⟩ | ⟨w1, b⟩ <;> rcases b2 with ⟨w2, b2⟩ | ⟨w2, b2⟩ | ⟨w2, b2⟩ | ⟨w2, b2⟩ | ⟨w2, b2⟩ | ⟨w2, b2⟩ <;> first | (exfalso; omega) | (rw [b, b2]) | skip
      · rcases b with ⟨p, b⟩ | ⟨p, b⟩ <;> rcases b2 with ⟨p2, b2⟩ | ⟨p2, b2⟩ <;> first | exact absurd p p2 | exact absurd p2 p | rw [b, b2]
      · rcases b with ⟨p, b⟩ | ⟨p, b⟩ <;> rcases b2 with ⟨p2, b2⟩ | ⟨p2, b2⟩ <;> first | exact absurd p p2 | exact absurd p2 p | rw [b, b2]
theorem spCor_rel {top str gho ghs pto wal mt ms mg mf mp mw : Nat → Int32} {c w r r2 : Int32} (R : crR top str gho ghs pto wal mt ms mg mf mp mw) (h1 : spCor top str gho ghs pto c w r) (h2 : spCor mt ms mg mf mp c w r2) : r = r2 := by
  refine spCor_det h1 ?_
  rcases h2 with h | ⟨a, h⟩
  · exact .inl h
  · have R1 := R.1 c.toNatClampNeg (by rw [clC (x := c) rfl]; omega)
    refine .inr ⟨a, ?_⟩
    rw [R1.1, R1.2.1, R1.2.2.1]
    rcases h with h | ⟨h, k⟩ | h | ⟨h, k⟩ | h
    · exact .inl h
    · refine .inr (.inl ⟨h, ?_⟩)
      rcases k with k | ⟨k, l⟩
      · exact .inl k
      · exact .inr ⟨k, l.trans (R1.2.2.2.1 (fun z => k (R1.1.symm.trans z))).symm⟩
    · exact .inr (.inr (.inl h))
    · refine .inr (.inr (.inr (.inl ⟨h, ?_⟩)))
      rcases k with k | ⟨k, l⟩
      · exact .inl k
      · exact .inr ⟨k, l.trans (R1.2.2.2.2 (fun z => k (R1.2.1.symm.trans z))).symm⟩
    · exact .inr (.inr (.inr (.inr h)))
set_option maxHeartbeats 4000000 in
set_option maxRecDepth 100000 in
theorem k_X10_lookAhead2 (l : Launch) (dC : Nat → ClassId) (dI : Nat → Nat → Nat) (cI cZ cQ : ClassId) (b : Nat → Nat) (mday : Int32) (mdoo : Int32) (mdA : Nat → Int32) (mdB : Nat → Int32) (mfar : Nat → Int32) (mmar : Nat → Int32) (mtel : Int32) (mgai : Int32) (mfal : Nat → Int32) (mtop : Nat → Int32) (mstr : Nat → Int32) (mgho : Nat → Int32) (mfai : Nat → Int32) (mpto : Nat → Int32) (mwal : Nat → Int32) (mahd : Nat → Int32) (mahf : Nat → Int32) (mcho : Nat → Int32) (mbes : Nat → Int32) (mbyt : Int32) (mtxt : Nat → Int32) (mpos : Int32) (mtka : Int32) (mtok : Int64) (mdig : Int32) (mnum : Int32) (mfau : Int32) (mrdm : Int32) (mrea : Nat → Int32) (mlin : Int32) (mlne : Nat → Int32) (mthg : Nat → Int32) (mord : Nat → Int32) (mbor : Nat → Int32) (mbsm : Int32) (mans : Nat → Int32) (mand : Nat → Int32) (manr : Nat → Int32) (mali : Nat → Int32) (sz : Nat) (r_mday : 0 ≤ mday.toInt ∧ mday.toInt ≤ 400) (r_mdoo : 0 ≤ mdoo.toInt ∧ mdoo.toInt ≤ 14) (r_mdA : rg 14 (0) (7) mdA) (r_mdB : rg 14 (0) (7) mdB) (r_mmar : rg 24 (0) (255) mmar) (r_mgai : 0 ≤ mgai.toInt ∧ mgai.toInt ≤ 100) (r_mfal : rg 11 (0) (30) mfal) (r_mtop : rg 48 (-1) (23) mtop) (r_mstr : rg 48 (0) (100) mstr) (r_mgho : rg 48 (-1) (23) mgho) (r_mfai : rg 48 (0) (100) mfai) (r_mahd : rg 240 (0) (100) mahd) (r_mahf : rg 240 (0) (100) mahf) (r_mcho : rg 5 (-1) (9) mcho) (r_mbyt : 0 ≤ mbyt.toInt ∧ mbyt.toInt ≤ 160) (r_mpos : 0 ≤ mpos.toInt ∧ mpos.toInt ≤ 160) (r_mrdm : 0 ≤ mrdm.toInt ∧ mrdm.toInt ≤ 10) (r_mlin : 0 ≤ mlin.toInt ∧ mlin.toInt ≤ 10) (r_mthg : rg 8 (0) (31) mthg) (r_mord : rg 8 (-1) (8) mord) (r_mans : rg 4 (0) (12) mans) : KV l yX10_lookAhead wsX10_lookAhead { frames := 0, cells := 0, slots := 0, locals := 0 } (dC, dI) (TY cI cZ cQ) (wMod cI cZ cQ b mday mdoo mdA mdB mfar mmar mtel mgai mfal mtop mstr mgho mfai mpto mwal mahd mahf mcho mbes mbyt mtxt mpos mtka mtok mdig mnum mfau mrdm mrea mlin mlne mthg mord mbor mbsm mans mand manr mali) [.ref (b 39)] sz 0 0 (fun (u : US) => (laI mtop mstr mgho mfai 48 (u.1 0) (u.1 1)) ∧ (rg 240 (0) (100) (u.1 0)) ∧ (rg 240 (0) (100) (u.1 1))) (fun u : US => (wMod cI cZ cQ b mday mdoo mdA mdB mfar mmar mtel mgai mfal mtop mstr mgho mfai mpto mwal (u.1 0) (u.1 1) mcho mbes mbyt mtxt mpos mtka mtok mdig mnum mfau mrdm mrea mlin mlne mthg mord mbor mbsm mans mand manr mali)) := by
  refine Met.ofW (cc := cX10_lookAhead) (maxL := 2) (ret := none) (by decide) rfl ?_
  intro p e s m args below meth c s₁ B hml hv
  obtain ⟨rfl, hsz, hP, hK, hD0, hN⟩ := hv
  have hx := B.exec
  have hb := B.bytes
  have hr := B.returns
  have hts := atoms_spec (ws := wsX10_lookAhead) B.pre
  have hown : s.vm.findClass RX10 = some m.cls := findClass_of_methodNamed B.named
  have hlocks := B.notSynchronized
  have lf50 := hts (.fieldLink RX10 50 "PalaceOfRoomsModel" "ahead" "[I") (List.mem_cons_of_mem _ (List.mem_append_left _ (List.mem_of_getElem? (i := 0) rfl)))
  have inX10 : ∀ w ∈ wsX100, w ∈ wsX10_lookAhead := fun w h => List.mem_cons_of_mem _ (List.mem_append_right _ h)
  have lf32 := hts (.fieldLink RX10 32 "PalaceOfRoomsModel" "top" "[I") (List.mem_cons_of_mem _ (List.mem_append_left _ (List.mem_of_getElem? (i := 1) rfl)))
  have lf35 := hts (.fieldLink RX10 35 "PalaceOfRoomsModel" "strength" "[I") (List.mem_cons_of_mem _ (List.mem_append_left _ (List.mem_of_getElem? (i := 2) rfl)))
  have lf53 := hts (.fieldLink RX10 53 "PalaceOfRoomsModel" "aheadFaint" "[I") (List.mem_cons_of_mem _ (List.mem_append_left _ (List.mem_of_getElem? (i := 3) rfl)))
  have lf38 := hts (.fieldLink RX10 38 "PalaceOfRoomsModel" "ghost" "[I") (List.mem_cons_of_mem _ (List.mem_append_left _ (List.mem_of_getElem? (i := 4) rfl)))
  have lf41 := hts (.fieldLink RX10 41 "PalaceOfRoomsModel" "faint" "[I") (List.mem_cons_of_mem _ (List.mem_append_left _ (List.mem_of_getElem? (i := 5) rfl)))
  subst hsz
  have hD := hD0.self (sz := s.heap.size)
  generalize hAe : va_A (wMod cI cZ cQ b mday mdoo mdA mdB mfar mmar mtel mgai mfal mtop mstr mgho mfai mpto mwal mahd mahf mcho mbes mbyt mtxt mpos mtka mtok mdig mnum mfau mrdm mrea mlin mlne mthg mord mbor mbsm mans mand manr mali) s.heap.size = A at hD ⊢
  have hA : ∀ q : Nat, s.heap.size ≤ q → A q := fun q h => by rw [← hAe]; exact Or.inr h
  have hS : va_S A s.heap s.heap [] := va_S.rf
  have hl := lv_entry ([.ref (b 39)]) (n := 2) (Nat.le_of_ble_eq_true rfl)
  rw [lg_entry_eq]
  generalize (lg_sl ([.ref (b 39)]) ++ List.replicate (2 - (lg_sl ([.ref (b 39)])).length) Slot.unset).toArray = ls at hl ⊢
  have hl : lv_has ls 2 [(0, .ref (b 39))] := hl
  refine lv_iconst (v := 0) hx hb dX10_lookAhead_0 (by decide) ?_
  refine lv_istore_n (lv' := [(1, .int 0), (0, .ref (b 39))]) hx hb dX10_lookAhead_1 rfl hl (by decide) rfl (fun ls hl => ?_)
  have L2 : ∀ (nn : Nat) (y2_1 : Int32) (mahd_2 : Nat → Int32) (mahf_2 : Nat → Int32) (H : Heap) (locs : List Loc) (ls : Array Slot), (rg 240 (0) (100) mahd_2) → (rg 240 (0) (100) mahf_2) → (0 ≤ (y2_1.toInt)) → ((y2_1.toInt) ≤ 48) → (laI mtop mstr mgho mfai (y2_1.toInt) mahd_2 mahf_2) → (48 - (y2_1.toInt)).toNat < nn → va_P (dC, dI) vwCl (wMod cI cZ cQ b mday mdoo mdA mdB mfar mmar mtel mgai mfal mtop mstr mgho mfai mpto mwal mahd_2 mahf_2 mcho mbes mbyt mtxt mpos mtka mtok mdig mnum mfau mrdm mrea mlin mlne mthg mord mbor mbsm mans mand manr mali) H → va_D A (wMod cI cZ cQ b mday mdoo mdA mdB mfar mmar mtel mgai mfal mtop mstr mgho mfai mpto mwal mahd_2 mahf_2 mcho mbes mbyt mtxt mpos mtka mtok mdig mnum mfau mrdm mrea mlin mlne mthg mord mbor mbsm mans mand manr mali) → va_S A s.heap H locs → lv_has ls 2 [(0, .ref (b 39)), (1, .int y2_1)] → W p l e (headSpec wsX10_lookAhead { frames := 0, cells := 0, slots := 0, locals := 0 }).room s m ([.ref (b 39)] : List Value).toArray below meth c H locs 0 0 (MQ below (va_Qv (fun (u : US) => (laI mtop mstr mgho mfai 48 (u.1 0) (u.1 1)) ∧ (rg 240 (0) (100) (u.1 0)) ∧ (rg 240 (0) (100) (u.1 1))) (Bw (dC, dI) A (fun u : US => (wMod cI cZ cQ b mday mdoo mdA mdB mfar mmar mtel mgai mfal mtop mstr mgho mfai mpto mwal (u.1 0) (u.1 1) mcho mbes mbyt mtxt mpos mtka mtok mdig mnum mfau mrdm mrea mlin mlne mthg mord mbor mbsm mans mand manr mali))) A) ([.ref (b 39)] : List Value).toArray s 0 0 A) (F0 m 2 ls []) := by
    intro nn
    induction nn with
    | zero =>
      intro y2_1 mahd_2 mahf_2 H locs ls r_mahd_2 r_mahf_2 i2_0 i2_1 i2_2 hm2
      exact absurd hm2 (Nat.not_lt_zero _)
    | succ nn ih2 =>
      intro y2_1 mahd_2 mahf_2 H locs ls r_mahd_2 r_mahf_2 i2_0 i2_1 i2_2 hm2 hP hD hS hl
      refine lv_iload_n hx hb dX10_lookAhead_2 rfl (lv_at hl 1 rfl) ?_
      refine lv_bipush (v := 48) hx hb dX10_lookAhead_3 (by decide) ?_
      refine lv_icmp_ge (tgt := 66) hx hb dX10_lookAhead_5 (by decide) (fun c1 => ?_) (fun c1 => ?_)
      · have dc1 : 48 ≤ y2_1.toInt := leC (show (48 : Int32).toInt = 48 from rfl) rfl c1
        exact W.vret hx hb hr (fun tq ht hW => ⟨⟨(uS [mahd_2, mahf_2] 0 (fun _ => 0)), rfl, ⟨(show laI mtop mstr mgho mfai 48 mahd_2 mahf_2 from by (have e48 : _ = (48 : Int) := Int.le_antisymm i2_1 (by assumption); rw [← e48]; exact i2_2)), r_mahd_2, r_mahf_2⟩, by rw [ht]; exact hP, hD⟩, hS.F ht⟩) hS.2.2 dX10_lookAhead_66
      · have dc1 : y2_1.toInt < 48 := nleC (show (48 : Int32).toInt = 48 from rfl) rfl c1
        refine lv_aload_n hx hb dX10_lookAhead_8 rfl (lv_at hl 0 rfl) ?_
        refine va_get (D := (dC, dI)) (ci := 10) (v := .ref (b 15)) (C := RX10) (T := TX10) (N := 39) hx hb hts inX10 hown hK hP 0 rfl rfl 15 (by decide) lf50 (fun _ h9 => h9) rfl dX10_lookAhead_9 ?_
        refine lv_iload_n hx hb dX10_lookAhead_12 rfl (lv_at hl 1 rfl) ?_
        refine lv_aload_n hx hb dX10_lookAhead_13 rfl (lv_at hl 0 rfl) ?_
        refine va_get (D := (dC, dI)) (ci := 10) (v := .ref (b 9)) (C := RX10) (T := TX10) (N := 39) hx hb hts inX10 hown hK hP 0 rfl rfl 9 (by decide) lf32 (fun _ h9 => h9) rfl dX10_lookAhead_14 ?_
        refine lv_iload_n hx hb dX10_lookAhead_17 rfl (lv_at hl 1 rfl) ?_
        have b2 : vp_in y2_1 48 := inC rfl (by omega) (by omega)
        refine va_iald hx hb hK hP 6 0 rfl rfl b2 dX10_lookAhead_18 ?_
        have g3 : -1 ≤ (mtop y2_1.toNatClampNeg).toInt ∧ (mtop y2_1.toNatClampNeg).toInt ≤ 23 := rg_at r_mtop b2
        refine lv_iconst (v := (-1)) hx hb dX10_lookAhead_19 (by decide) ?_
        refine lv_icmp_ne (tgt := 27) hx hb dX10_lookAhead_20 (by decide) (fun c4 => ?_) (fun c4 => ?_)
        · have dc4 : 0 ≤ (mtop y2_1.toNatClampNeg).toInt := ka_lo (by omega) (neC rfl (show ((-1) : Int32).toInt = (-1) from rfl) c4)
          refine lv_aload_n hx hb dX10_lookAhead_27 rfl (lv_at hl 0 rfl) ?_
          refine va_get (D := (dC, dI)) (ci := 10) (v := .ref (b 10)) (C := RX10) (T := TX10) (N := 39) hx hb hts inX10 hown hK hP 0 rfl rfl 10 (by decide) lf35 (fun _ h9 => h9) rfl dX10_lookAhead_28 ?_
          refine lv_iload_n hx hb dX10_lookAhead_31 rfl (lv_at hl 1 rfl) ?_
          have b5 : vp_in y2_1 48 := inC rfl (by omega) (by omega)
          refine va_iald hx hb hK hP 7 0 rfl rfl b5 dX10_lookAhead_32 ?_
          have g6 : 0 ≤ (mstr y2_1.toNatClampNeg).toInt ∧ (mstr y2_1.toNatClampNeg).toInt ≤ 100 := rg_at r_mstr b5
          refine lv_topi (fun x7 ex7 => ?_)
          have ix7 : x7.toInt = (mstr y2_1.toNatClampNeg).toInt := by rw [ex7]
          have b8 : vp_in y2_1 240 := inC rfl (by omega) (by omega)
          have g9 : rg 240 (0) (100) (upd mahd_2 y2_1.toNatClampNeg x7) := rg_upd r_mahd_2 rfl (by omega) (by omega)
          refine va_iast hx hb hK hP hD hS 12 0 rfl rfl b8 dX10_lookAhead_33 (fun H locs hP hD hS => ?_)
          obtain ⟨mahd_u10, emahd_u10⟩ : ∃ f : Nat → Int32, f = upd mahd_2 y2_1.toNatClampNeg x7 := ⟨_, rfl⟩
          have rmahd_u10 : rg 240 (0) (100) mahd_u10 := by rw [emahd_u10]; exact g9
          have hP : va_P (dC, dI) vwCl (wMod cI cZ cQ b mday mdoo mdA mdB mfar mmar mtel mgai mfal mtop mstr mgho mfai mpto mwal mahd_u10 mahf_2 mcho mbes mbyt mtxt mpos mtka mtok mdig mnum mfau mrdm mrea mlin mlne mthg mord mbor mbsm mans mand manr mali) H := by rw [emahd_u10]; exact hP
          have hD : va_D A (wMod cI cZ cQ b mday mdoo mdA mdB mfar mmar mtel mgai mfal mtop mstr mgho mfai mpto mwal mahd_u10 mahf_2 mcho mbes mbyt mtxt mpos mtka mtok mdig mnum mfau mrdm mrea mlin mlne mthg mord mbor mbsm mans mand manr mali) := by rw [emahd_u10]; exact hD
          refine lv_aload_n hx hb dX10_lookAhead_34 rfl (lv_at hl 0 rfl) ?_
          refine va_get (D := (dC, dI)) (ci := 10) (v := .ref (b 16)) (C := RX10) (T := TX10) (N := 39) hx hb hts inX10 hown hK hP 0 rfl rfl 16 (by decide) lf53 (fun _ h9 => h9) rfl dX10_lookAhead_35 ?_
          refine lv_iload_n hx hb dX10_lookAhead_38 rfl (lv_at hl 1 rfl) ?_
          refine lv_aload_n hx hb dX10_lookAhead_39 rfl (lv_at hl 0 rfl) ?_
          refine va_get (D := (dC, dI)) (ci := 10) (v := .ref (b 11)) (C := RX10) (T := TX10) (N := 39) hx hb hts inX10 hown hK hP 0 rfl rfl 11 (by decide) lf38 (fun _ h9 => h9) rfl dX10_lookAhead_40 ?_
          refine lv_iload_n hx hb dX10_lookAhead_43 rfl (lv_at hl 1 rfl) ?_
          have b11 : vp_in y2_1 48 := inC rfl (by omega) (by omega)
          refine va_iald hx hb hK hP 8 0 rfl rfl b11 dX10_lookAhead_44 ?_
          have g12 : -1 ≤ (mgho y2_1.toNatClampNeg).toInt ∧ (mgho y2_1.toNatClampNeg).toInt ≤ 23 := rg_at r_mgho b11
          refine lv_iconst (v := (-1)) hx hb dX10_lookAhead_45 (by decide) ?_
          refine lv_icmp_ne (tgt := 53) hx hb dX10_lookAhead_46 (by decide) (fun c13 => ?_) (fun c13 => ?_)
          · have dc13 : 0 ≤ (mgho y2_1.toNatClampNeg).toInt := ka_lo (by omega) (neC rfl (show ((-1) : Int32).toInt = (-1) from rfl) c13)
            refine lv_aload_n hx hb dX10_lookAhead_53 rfl (lv_at hl 0 rfl) ?_
            refine va_get (D := (dC, dI)) (ci := 10) (v := .ref (b 12)) (C := RX10) (T := TX10) (N := 39) hx hb hts inX10 hown hK hP 0 rfl rfl 12 (by decide) lf41 (fun _ h9 => h9) rfl dX10_lookAhead_54 ?_
            refine lv_iload_n hx hb dX10_lookAhead_57 rfl (lv_at hl 1 rfl) ?_
            have b14 : vp_in y2_1 48 := inC rfl (by omega) (by omega)
            refine va_iald hx hb hK hP 9 0 rfl rfl b14 dX10_lookAhead_58 ?_
            have g15 : 0 ≤ (mfai y2_1.toNatClampNeg).toInt ∧ (mfai y2_1.toNatClampNeg).toInt ≤ 100 := rg_at r_mfai b14
            refine lv_topi (fun x16 ex16 => ?_)
            have ix16 : x16.toInt = (mfai y2_1.toNatClampNeg).toInt := by rw [ex16]
            have b17 : vp_in y2_1 240 := inC rfl (by omega) (by omega)
            have g18 : rg 240 (0) (100) (upd mahf_2 y2_1.toNatClampNeg x16) := rg_upd r_mahf_2 rfl (by omega) (by omega)
            refine va_iast hx hb hK hP hD hS 13 0 rfl rfl b17 dX10_lookAhead_59 (fun H locs hP hD hS => ?_)
            obtain ⟨mahf_u19, emahf_u19⟩ : ∃ f : Nat → Int32, f = upd mahf_2 y2_1.toNatClampNeg x16 := ⟨_, rfl⟩
            have rmahf_u19 : rg 240 (0) (100) mahf_u19 := by rw [emahf_u19]; exact g18
            have hP : va_P (dC, dI) vwCl (wMod cI cZ cQ b mday mdoo mdA mdB mfar mmar mtel mgai mfal mtop mstr mgho mfai mpto mwal mahd_u10 mahf_u19 mcho mbes mbyt mtxt mpos mtka mtok mdig mnum mfau mrdm mrea mlin mlne mthg mord mbor mbsm mans mand manr mali) H := by rw [emahf_u19]; exact hP
            have hD : va_D A (wMod cI cZ cQ b mday mdoo mdA mdB mfar mmar mtel mgai mfal mtop mstr mgho mfai mpto mwal mahd_u10 mahf_u19 mcho mbes mbyt mtxt mpos mtka mtok mdig mnum mfau mrdm mrea mlin mlne mthg mord mbor mbsm mans mand manr mali) := by rw [emahf_u19]; exact hD
            obtain ⟨z20, ez20⟩ : ∃ y : Int32, y = y2_1 + 1 := ⟨_, rfl⟩
            have iz20 : z20.toInt = y2_1.toInt + 1 := by rw [ez20]; exact addC rfl rfl (by omega) (by omega)
            refine lv_iinc (v := z20) (lv' := [(1, .int z20), (0, .ref (b 39))]) hx hb dX10_lookAhead_60 hl (k := 1) rfl (by rw [ez20]; rfl) (by decide) rfl (fun ls hl => ?_)
            refine lv_goto (tgt := 2) hx hb dX10_lookAhead_63 (by decide) ?_
            exact ih2 z20 mahd_u10 mahf_u19 _ _ _ rmahd_u10 rmahf_u19 (by omega) (by omega) (by (first | exact la_step i2_2 (by assumption) (by assumption) (by omega) (by first | exact it_pos (by assumption) (by first | rfl | omega) | exact it_neg (by assumption) (by first | assumption | omega)) (by first | exact it_pos (by assumption) (by first | rfl | omega) | exact it_neg (by assumption) (by first | assumption | omega)) (by omega) | exact la_init (by first | rfl | omega))) (by omega) hP hD hS (lv_sub hl [1, 0] rfl)
          · have dc13 : (mgho y2_1.toNatClampNeg).toInt = (-1) := eqC rfl (show ((-1) : Int32).toInt = (-1) from rfl) c13
            refine lv_iconst (v := 0) hx hb dX10_lookAhead_49 (by decide) ?_
            refine lv_goto (tgt := 59) hx hb dX10_lookAhead_50 (by decide) ?_
            have b21 : vp_in y2_1 240 := inC rfl (by omega) (by omega)
            have g22 : rg 240 (0) (100) (upd mahf_2 y2_1.toNatClampNeg 0) := rg_upd r_mahf_2 (show (0 : Int32).toInt = 0 from rfl) (by omega) (by omega)
            refine va_iast hx hb hK hP hD hS 13 0 rfl rfl b21 dX10_lookAhead_59 (fun H locs hP hD hS => ?_)
            obtain ⟨mahf_u23, emahf_u23⟩ : ∃ f : Nat → Int32, f = upd mahf_2 y2_1.toNatClampNeg 0 := ⟨_, rfl⟩
            have rmahf_u23 : rg 240 (0) (100) mahf_u23 := by rw [emahf_u23]; exact g22
            have hP : va_P (dC, dI) vwCl (wMod cI cZ cQ b mday mdoo mdA mdB mfar mmar mtel mgai mfal mtop mstr mgho mfai mpto mwal mahd_u10 mahf_u23 mcho mbes mbyt mtxt mpos mtka mtok mdig mnum mfau mrdm mrea mlin mlne mthg mord mbor mbsm mans mand manr mali) H := by rw [emahf_u23]; exact hP
            have hD : va_D A (wMod cI cZ cQ b mday mdoo mdA mdB mfar mmar mtel mgai mfal mtop mstr mgho mfai mpto mwal mahd_u10 mahf_u23 mcho mbes mbyt mtxt mpos mtka mtok mdig mnum mfau mrdm mrea mlin mlne mthg mord mbor mbsm mans mand manr mali) := by rw [emahf_u23]; exact hD
            obtain ⟨z24, ez24⟩ : ∃ y : Int32, y = y2_1 + 1 := ⟨_, rfl⟩
            have iz24 : z24.toInt = y2_1.toInt + 1 := by rw [ez24]; exact addC rfl rfl (by omega) (by omega)
            refine lv_iinc (v := z24) (lv' := [(1, .int z24), (0, .ref (b 39))]) hx hb dX10_lookAhead_60 hl (k := 1) rfl (by rw [ez24]; rfl) (by decide) rfl (fun ls hl => ?_)
            refine lv_goto (tgt := 2) hx hb dX10_lookAhead_63 (by decide) ?_
            exact ih2 z24 mahd_u10 mahf_u23 _ _ _ rmahd_u10 rmahf_u23 (by omega) (by omega) (by (first | exact la_step i2_2 (by assumption) (by assumption) (by omega) (by first | exact it_pos (by assumption) (by first | rfl | omega) | exact it_neg (by assumption) (by first | assumption | omega)) (by first | exact it_pos (by assumption) (by first | rfl | omega) | exact it_neg (by assumption) (by first | assumption | omega)) (by omega) | exact la_init (by first | rfl | omega))) (by omega) hP hD hS (lv_sub hl [1, 0] rfl)
        · have dc4 : (mtop y2_1.toNatClampNeg).toInt = (-1) := eqC rfl (show ((-1) : Int32).toInt = (-1) from rfl) c4
          refine lv_iconst (v := 0) hx hb dX10_lookAhead_23 (by decide) ?_
          refine lv_goto (tgt := 33) hx hb dX10_lookAhead_24 (by decide) ?_
          have b25 : vp_in y2_1 240 := inC rfl (by omega) (by omega)
          have g26 : rg 240 (0) (100) (upd mahd_2 y2_1.toNatClampNeg 0) := rg_upd r_mahd_2 (show (0 : Int32).toInt = 0 from rfl) (by omega) (by omega)
          refine va_iast hx hb hK hP hD hS 12 0 rfl rfl b25 dX10_lookAhead_33 (fun H locs hP hD hS => ?_)
          obtain ⟨mahd_u27, emahd_u27⟩ : ∃ f : Nat → Int32, f = upd mahd_2 y2_1.toNatClampNeg 0 := ⟨_, rfl⟩
          have rmahd_u27 : rg 240 (0) (100) mahd_u27 := by rw [emahd_u27]; exact g26
          have hP : va_P (dC, dI) vwCl (wMod cI cZ cQ b mday mdoo mdA mdB mfar mmar mtel mgai mfal mtop mstr mgho mfai mpto mwal mahd_u27 mahf_2 mcho mbes mbyt mtxt mpos mtka mtok mdig mnum mfau mrdm mrea mlin mlne mthg mord mbor mbsm mans mand manr mali) H := by rw [emahd_u27]; exact hP
          have hD : va_D A (wMod cI cZ cQ b mday mdoo mdA mdB mfar mmar mtel mgai mfal mtop mstr mgho mfai mpto mwal mahd_u27 mahf_2 mcho mbes mbyt mtxt mpos mtka mtok mdig mnum mfau mrdm mrea mlin mlne mthg mord mbor mbsm mans mand manr mali) := by rw [emahd_u27]; exact hD
          refine lv_aload_n hx hb dX10_lookAhead_34 rfl (lv_at hl 0 rfl) ?_
          refine va_get (D := (dC, dI)) (ci := 10) (v := .ref (b 16)) (C := RX10) (T := TX10) (N := 39) hx hb hts inX10 hown hK hP 0 rfl rfl 16 (by decide) lf53 (fun _ h9 => h9) rfl dX10_lookAhead_35 ?_
          refine lv_iload_n hx hb dX10_lookAhead_38 rfl (lv_at hl 1 rfl) ?_
          refine lv_aload_n hx hb dX10_lookAhead_39 rfl (lv_at hl 0 rfl) ?_
          refine va_get (D := (dC, dI)) (ci := 10) (v := .ref (b 11)) (C := RX10) (T := TX10) (N := 39) hx hb hts inX10 hown hK hP 0 rfl rfl 11 (by decide) lf38 (fun _ h9 => h9) rfl dX10_lookAhead_40 ?_
          refine lv_iload_n hx hb dX10_lookAhead_43 rfl (lv_at hl 1 rfl) ?_
          have b28 : vp_in y2_1 48 := inC rfl (by omega) (by omega)
          refine va_iald hx hb hK hP 8 0 rfl rfl b28 dX10_lookAhead_44 ?_
          have g29 : -1 ≤ (mgho y2_1.toNatClampNeg).toInt ∧ (mgho y2_1.toNatClampNeg).toInt ≤ 23 := rg_at r_mgho b28
          refine lv_iconst (v := (-1)) hx hb dX10_lookAhead_45 (by decide) ?_
          refine lv_icmp_ne (tgt := 53) hx hb dX10_lookAhead_46 (by decide) (fun c30 => ?_) (fun c30 => ?_)
          · have dc30 : 0 ≤ (mgho y2_1.toNatClampNeg).toInt := ka_lo (by omega) (neC rfl (show ((-1) : Int32).toInt = (-1) from rfl) c30)
            refine lv_aload_n hx hb dX10_lookAhead_53 rfl (lv_at hl 0 rfl) ?_
            refine va_get (D := (dC, dI)) (ci := 10) (v := .ref (b 12)) (C := RX10) (T := TX10) (N := 39) hx hb hts inX10 hown hK hP 0 rfl rfl 12 (by decide) lf41 (fun _ h9 => h9) rfl dX10_lookAhead_54 ?_
            refine lv_iload_n hx hb dX10_lookAhead_57 rfl (lv_at hl 1 rfl) ?_
            have b31 : vp_in y2_1 48 := inC rfl (by omega) (by omega)
            refine va_iald hx hb hK hP 9 0 rfl rfl b31 dX10_lookAhead_58 ?_
            have g32 : 0 ≤ (mfai y2_1.toNatClampNeg).toInt ∧ (mfai y2_1.toNatClampNeg).toInt ≤ 100 := rg_at r_mfai b31
            refine lv_topi (fun x33 ex33 => ?_)
            have ix33 : x33.toInt = (mfai y2_1.toNatClampNeg).toInt := by rw [ex33]
            have b34 : vp_in y2_1 240 := inC rfl (by omega) (by omega)
            have g35 : rg 240 (0) (100) (upd mahf_2 y2_1.toNatClampNeg x33) := rg_upd r_mahf_2 rfl (by omega) (by omega)
            refine va_iast hx hb hK hP hD hS 13 0 rfl rfl b34 dX10_lookAhead_59 (fun H locs hP hD hS => ?_)
            obtain ⟨mahf_u36, emahf_u36⟩ : ∃ f : Nat → Int32, f = upd mahf_2 y2_1.toNatClampNeg x33 := ⟨_, rfl⟩
            have rmahf_u36 : rg 240 (0) (100) mahf_u36 := by rw [emahf_u36]; exact g35
            have hP : va_P (dC, dI) vwCl (wMod cI cZ cQ b mday mdoo mdA mdB mfar mmar mtel mgai mfal mtop mstr mgho mfai mpto mwal mahd_u27 mahf_u36 mcho mbes mbyt mtxt mpos mtka mtok mdig mnum mfau mrdm mrea mlin mlne mthg mord mbor mbsm mans mand manr mali) H := by rw [emahf_u36]; exact hP
            have hD : va_D A (wMod cI cZ cQ b mday mdoo mdA mdB mfar mmar mtel mgai mfal mtop mstr mgho mfai mpto mwal mahd_u27 mahf_u36 mcho mbes mbyt mtxt mpos mtka mtok mdig mnum mfau mrdm mrea mlin mlne mthg mord mbor mbsm mans mand manr mali) := by rw [emahf_u36]; exact hD
            obtain ⟨z37, ez37⟩ : ∃ y : Int32, y = y2_1 + 1 := ⟨_, rfl⟩
            have iz37 : z37.toInt = y2_1.toInt + 1 := by rw [ez37]; exact addC rfl rfl (by omega) (by omega)
            refine lv_iinc (v := z37) (lv' := [(1, .int z37), (0, .ref (b 39))]) hx hb dX10_lookAhead_60 hl (k := 1) rfl (by rw [ez37]; rfl) (by decide) rfl (fun ls hl => ?_)
            refine lv_goto (tgt := 2) hx hb dX10_lookAhead_63 (by decide) ?_
            exact ih2 z37 mahd_u27 mahf_u36 _ _ _ rmahd_u27 rmahf_u36 (by omega) (by omega) (by (first | exact la_step i2_2 (by assumption) (by assumption) (by omega) (by first | exact it_pos (by assumption) (by first | rfl | omega) | exact it_neg (by assumption) (by first | assumption | omega)) (by first | exact it_pos (by assumption) (by first | rfl | omega) | exact it_neg (by assumption) (by first | assumption | omega)) (by omega) | exact la_init (by first | rfl | omega))) (by omega) hP hD hS (lv_sub hl [1, 0] rfl)
          · have dc30 : (mgho y2_1.toNatClampNeg).toInt = (-1) := eqC rfl (show ((-1) : Int32).toInt = (-1) from rfl) c30
            refine lv_iconst (v := 0) hx hb dX10_lookAhead_49 (by decide) ?_
            refine lv_goto (tgt := 59) hx hb dX10_lookAhead_50 (by decide) ?_
            have b38 : vp_in y2_1 240 := inC rfl (by omega) (by omega)
            have g39 : rg 240 (0) (100) (upd mahf_2 y2_1.toNatClampNeg 0) := rg_upd r_mahf_2 (show (0 : Int32).toInt = 0 from rfl) (by omega) (by omega)
            refine va_iast hx hb hK hP hD hS 13 0 rfl rfl b38 dX10_lookAhead_59 (fun H locs hP hD hS => ?_)
            obtain ⟨mahf_u40, emahf_u40⟩ : ∃ f : Nat → Int32, f = upd mahf_2 y2_1.toNatClampNeg 0 := ⟨_, rfl⟩
            have rmahf_u40 : rg 240 (0) (100) mahf_u40 := by rw [emahf_u40]; exact g39
            have hP : va_P (dC, dI) vwCl (wMod cI cZ cQ b mday mdoo mdA mdB mfar mmar mtel mgai mfal mtop mstr mgho mfai mpto mwal mahd_u27 mahf_u40 mcho mbes mbyt mtxt mpos mtka mtok mdig mnum mfau mrdm mrea mlin mlne mthg mord mbor mbsm mans mand manr mali) H := by rw [emahf_u40]; exact hP
            have hD : va_D A (wMod cI cZ cQ b mday mdoo mdA mdB mfar mmar mtel mgai mfal mtop mstr mgho mfai mpto mwal mahd_u27 mahf_u40 mcho mbes mbyt mtxt mpos mtka mtok mdig mnum mfau mrdm mrea mlin mlne mthg mord mbor mbsm mans mand manr mali) := by rw [emahf_u40]; exact hD
            obtain ⟨z41, ez41⟩ : ∃ y : Int32, y = y2_1 + 1 := ⟨_, rfl⟩
            have iz41 : z41.toInt = y2_1.toInt + 1 := by rw [ez41]; exact addC rfl rfl (by omega) (by omega)
            refine lv_iinc (v := z41) (lv' := [(1, .int z41), (0, .ref (b 39))]) hx hb dX10_lookAhead_60 hl (k := 1) rfl (by rw [ez41]; rfl) (by decide) rfl (fun ls hl => ?_)
            refine lv_goto (tgt := 2) hx hb dX10_lookAhead_63 (by decide) ?_
            exact ih2 z41 mahd_u27 mahf_u40 _ _ _ rmahd_u27 rmahf_u40 (by omega) (by omega) (by (first | exact la_step i2_2 (by assumption) (by assumption) (by omega) (by first | exact it_pos (by assumption) (by first | rfl | omega) | exact it_neg (by assumption) (by first | assumption | omega)) (by first | exact it_pos (by assumption) (by first | rfl | omega) | exact it_neg (by assumption) (by first | assumption | omega)) (by omega) | exact la_init (by first | rfl | omega))) (by omega) hP hD hS (lv_sub hl [1, 0] rfl)
  have kc42 : (0 : Int32).toInt = 0 := rfl
  exact L2 _ 0 mahd mahf _ _ _ r_mahd r_mahf (by omega) (by omega) (by (first | exact la_init (by first | rfl | omega) | exact la_step i2_2 (by assumption) (by assumption) (by omega) (by first | exact it_pos (by assumption) (by first | rfl | omega) | exact it_neg (by assumption) (by first | assumption | omega)) (by first | exact it_pos (by assumption) (by first | rfl | omega) | exact it_neg (by assumption) (by first | assumption | omega)) (by omega))) (Nat.lt_succ_self _) hP hD hS (lv_sub hl [1, 0] rfl)
set_option maxHeartbeats 4000000 in
set_option maxRecDepth 100000 in
theorem k_X10_days2 (l : Launch) (dC : Nat → ClassId) (dI : Nat → Nat → Nat) (cI cZ cQ : ClassId) (b : Nat → Nat) (mday : Int32) (mdoo : Int32) (mdA : Nat → Int32) (mdB : Nat → Int32) (mfar : Nat → Int32) (mmar : Nat → Int32) (mtel : Int32) (mgai : Int32) (mfal : Nat → Int32) (mtop : Nat → Int32) (mstr : Nat → Int32) (mgho : Nat → Int32) (mfai : Nat → Int32) (mpto : Nat → Int32) (mwal : Nat → Int32) (mahd : Nat → Int32) (mahf : Nat → Int32) (mcho : Nat → Int32) (mbes : Nat → Int32) (mbyt : Int32) (mtxt : Nat → Int32) (mpos : Int32) (mtka : Int32) (mtok : Int64) (mdig : Int32) (mnum : Int32) (mfau : Int32) (mrdm : Int32) (mrea : Nat → Int32) (mlin : Int32) (mlne : Nat → Int32) (mthg : Nat → Int32) (mord : Nat → Int32) (mbor : Nat → Int32) (mbsm : Int32) (mans : Nat → Int32) (mand : Nat → Int32) (manr : Nat → Int32) (mali : Nat → Int32) (sz : Nat) (n : Int32) (r_mday : 0 ≤ mday.toInt ∧ mday.toInt ≤ 400) (r_mdoo : 0 ≤ mdoo.toInt ∧ mdoo.toInt ≤ 14) (r_mdA : rg 14 (0) (7) mdA) (r_mdB : rg 14 (0) (7) mdB) (r_mmar : rg 24 (0) (255) mmar) (r_mgai : 0 ≤ mgai.toInt ∧ mgai.toInt ≤ 100) (r_mfal : rg 11 (0) (30) mfal) (r_mtop : rg 48 (-1) (23) mtop) (r_mstr : rg 48 (0) (100) mstr) (r_mgho : rg 48 (-1) (23) mgho) (r_mfai : rg 48 (0) (100) mfai) (r_mahd : rg 240 (0) (100) mahd) (r_mahf : rg 240 (0) (100) mahf) (r_mcho : rg 5 (-1) (9) mcho) (r_mbyt : 0 ≤ mbyt.toInt ∧ mbyt.toInt ≤ 160) (r_mpos : 0 ≤ mpos.toInt ∧ mpos.toInt ≤ 160) (r_mrdm : 0 ≤ mrdm.toInt ∧ mrdm.toInt ≤ 10) (r_mlin : 0 ≤ mlin.toInt ∧ mlin.toInt ≤ 10) (r_mthg : rg 8 (0) (31) mthg) (r_mord : rg 8 (-1) (8) mord) (r_mans : rg 4 (0) (12) mans) : KW l yX10_days wsX10_days { frames := 3, cells := 0, slots := 0, locals := 73 } (dC, dI) (TY cI cZ cQ) (wMod cI cZ cQ b mday mdoo mdA mdB mfar mmar mtel mgai mfal mtop mstr mgho mfai mpto mwal mahd mahf mcho mbes mbyt mtxt mpos mtka mtok mdig mnum mfau mrdm mrea mlin mlne mthg mord mbor mbsm mans mand manr mali) [.ref (b 39), .int n] sz 0 0 (fun (r : Int32) (u : US) => (spDysM mmar mfal mtop mstr mgho mfai mtel mday n r (u.1 5 0) (u.1 2) (u.1 4) (u.1 3)) ∧ (rg 240 (0) (100) (u.1 0)) ∧ (rg 240 (0) (100) (u.1 1)) ∧ (rg 48 (0) (100) (u.1 2)) ∧ (rg 48 (0) (100) (u.1 3)) ∧ (rg 48 (-1) (23) (u.1 4)) ∧ (0 ≤ (u.1 5 0).toInt ∧ (u.1 5 0).toInt ≤ 400)) (fun u : US => (wMod cI cZ cQ b (u.1 5 0) mdoo mdA mdB mfar mmar mtel mgai mfal mtop (u.1 2) (u.1 4) (u.1 3) mpto mwal (u.1 0) (u.1 1) mcho mbes mbyt mtxt mpos mtka mtok mdig mnum mfau mrdm mrea mlin mlne mthg mord mbor mbsm mans mand manr mali)) := by
  refine Met.ofW (cc := cX10_days) (maxL := 3) (ret := (some .int)) (by decide) rfl ?_
  intro p e s m args below meth c s₁ B hml hv
  obtain ⟨rfl, hsz, hP, hK, hD0, hN⟩ := hv
  have hx := B.exec
  have hb := B.bytes
  have hr := B.returns
  have hts := atoms_spec (ws := wsX10_days) B.pre
  have hown : s.vm.findClass RX10 = some m.cls := findClass_of_methodNamed B.named
  have hlocks := B.notSynchronized
  have lf125 := hts (.fieldLink RX10 125 "PalaceOfRoomsModel" "day" "I") (List.mem_cons_of_mem _ (List.mem_append_left _ (List.mem_append_left _ (List.mem_of_getElem? (i := 0) rfl))))
  have inX10 : ∀ w ∈ wsX100, w ∈ wsX10_days := fun w h => List.mem_cons_of_mem _ (List.mem_append_right _ h)
  have lf35 := hts (.fieldLink RX10 35 "PalaceOfRoomsModel" "strength" "[I") (List.mem_cons_of_mem _ (List.mem_append_left _ (List.mem_append_left _ (List.mem_of_getElem? (i := 1) rfl))))
  have lf50 := hts (.fieldLink RX10 50 "PalaceOfRoomsModel" "ahead" "[I") (List.mem_cons_of_mem _ (List.mem_append_left _ (List.mem_append_left _ (List.mem_of_getElem? (i := 2) rfl))))
  have lf41 := hts (.fieldLink RX10 41 "PalaceOfRoomsModel" "faint" "[I") (List.mem_cons_of_mem _ (List.mem_append_left _ (List.mem_append_left _ (List.mem_of_getElem? (i := 3) rfl))))
  have lf53 := hts (.fieldLink RX10 53 "PalaceOfRoomsModel" "aheadFaint" "[I") (List.mem_cons_of_mem _ (List.mem_append_left _ (List.mem_append_left _ (List.mem_of_getElem? (i := 4) rfl))))
  have lf38 := hts (.fieldLink RX10 38 "PalaceOfRoomsModel" "ghost" "[I") (List.mem_cons_of_mem _ (List.mem_append_left _ (List.mem_append_left _ (List.mem_of_getElem? (i := 5) rfl))))
  subst hsz
  have hD := hD0.self (sz := s.heap.size)
  generalize hAe : va_A (wMod cI cZ cQ b mday mdoo mdA mdB mfar mmar mtel mgai mfal mtop mstr mgho mfai mpto mwal mahd mahf mcho mbes mbyt mtxt mpos mtka mtok mdig mnum mfau mrdm mrea mlin mlne mthg mord mbor mbsm mans mand manr mali) s.heap.size = A at hD ⊢
  have hA : ∀ q : Nat, s.heap.size ≤ q → A q := fun q h => by rw [← hAe]; exact Or.inr h
  have hS : va_S A s.heap s.heap [] := va_S.rf
  have hl := lv_entry ([.ref (b 39), .int n]) (n := 3) (Nat.le_of_ble_eq_true rfl)
  rw [lg_entry_eq]
  generalize (lg_sl ([.ref (b 39), .int n]) ++ List.replicate (3 - (lg_sl ([.ref (b 39), .int n])).length) Slot.unset).toArray = ls at hl ⊢
  have hl : lv_has ls 3 [(0, .ref (b 39)), (1, .int n)] := hl
  refine lv_iload_n hx hb dX10_days_0 rfl (lv_at hl 1 rfl) ?_
  refine lv_iconst (v := 1) hx hb dX10_days_1 (by decide) ?_
  refine lv_bipush (v := 60) hx hb dX10_days_2 (by decide) ?_
  refine rdS (As := [.int n, .int 1, .int 60]) (rest := []) ⟨hx, hb, hml, hown, hts⟩ (k_X10_in l dC dI cI cZ cQ n (1 : Int32) (60 : Int32)) (va_cwS 3 hts gX10_days_X10_in rfl rfl rfl (by decide +kernel) ⟨Nat.le_of_ble_eq_true rfl, Nat.le_of_ble_eq_true rfl⟩) hP hK hN [] rfl rfl hl.1 rfl (Nat.le_of_ble_eq_true rfl) dX10_days_4 ⟨Nat.le_of_ble_eq_true rfl, Nat.le_of_ble_eq_true rfl⟩ (fun r1 h2 => ?_)
  have h2 : ((((r1 = 1) ∧ ((1) ≤ n.toInt) ∧ (n.toInt ≤ (60))) ∨ ((r1 = 0) ∧ (n.toInt < (1) ∨ (60) < n.toInt)))) := h2
  rcases h2 with (⟨rfl, h2_a0, h2_a1⟩ | ⟨rfl, h2_a0⟩)
  · refine lv_if_eq (tgt := 22) hx hb dX10_days_7 (by decide) (fun c9 => absurd c9 (by decide)) (fun _ => ?_)
    refine lv_aload_n hx hb dX10_days_10 rfl (lv_at hl 0 rfl) ?_
    refine va_get (D := (dC, dI)) (ci := 10) (v := .int mday) (C := RX10) (T := TX10) (N := 39) hx hb hts inX10 hown hK hP 0 rfl rfl 0 (by decide) lf125 (fun _ h9 => h9) rfl dX10_days_11 ?_
    refine lv_iload_n hx hb dX10_days_14 rfl (lv_at hl 1 rfl) ?_
    refine lv_iadd hx hb dX10_days_15 ?_
    have f3 : (mday + n).toInt = (mday.toInt) + (n.toInt) := addC rfl rfl (by omega) (by omega)
    refine lv_sipush (v := 400) hx hb dX10_days_16 (by decide) ?_
    refine lv_icmp_le (tgt := 25) hx hb dX10_days_19 (by decide) (fun c4 => ?_) (fun c4 => ?_)
    · have dc4 : (mday.toInt) + (n.toInt) ≤ 400 := leC f3 (show (400 : Int32).toInt = 400 from rfl) c4
      refine lv_aload_n hx hb dX10_days_25 rfl (lv_at hl 0 rfl) ?_
      refine wvV (As := []) (rest := []) (wr := []) (w2 := (fun u : US => (wMod cI cZ cQ b mday mdoo mdA mdB mfar mmar mtel mgai mfal mtop mstr mgho mfai mpto mwal (u.1 0) (u.1 1) mcho mbes mbyt mtxt mpos mtka mtok mdig mnum mfau mrdm mrea mlin mlne mthg mord mbor mbsm mans mand manr mali))) ⟨hx, hb, hml, hown, hts⟩ (k_X10_lookAhead2 l dC dI cI cZ cQ b mday mdoo mdA mdB mfar mmar mtel mgai mfal mtop mstr mgho mfai mpto mwal mahd mahf mcho mbes mbyt mtxt mpos mtka mtok mdig mnum mfau mrdm mrea mlin mlne mthg mord mbor mbsm mans mand manr mali _ r_mday r_mdoo r_mdA r_mdB r_mmar r_mgai r_mfal r_mtop r_mstr r_mgho r_mfai r_mahd r_mahf r_mcho r_mbyt r_mpos r_mrdm r_mlin r_mthg r_mord r_mans) (cwV 0 hts gX10_days_X10_lookAhead rfl rfl rfl (by decide +kernel) ⟨Nat.le_of_ble_eq_true rfl, Nat.le_of_ble_eq_true rfl⟩) hP hD hS hA hK hN [0, 1, 2, 3, 4, 5, 6, 7, 8, 9, 10, 11, 12, 13, 14, 15, 16, 17, 18, 19, 20, 21, 22, 23, 24, 25] [] [0, 1, 2, 3, 4, 5, 6, 7, 8, 9, 10, 11, 12, 13, 14, 15, 16, 17, 18, 19, 20, 21, 22, 23, 24, 25] rfl rfl (by decide) (by decide) (by decide) (fun _ => rfl) (by decide) 0 10 rfl rfl rfl hl.1 rfl (Nat.le_of_ble_eq_true rfl) dX10_days_26 ⟨Nat.le_of_ble_eq_true rfl, Nat.le_of_ble_eq_true rfl⟩ (fun u7 H locs h6 hP hD hS => ?_)
      obtain ⟨mahd_c8, emahd_c8⟩ : ∃ f : Nat → Int32, f = (u7.1 0) := ⟨_, rfl⟩
      obtain ⟨mahf_c9, emahf_c9⟩ : ∃ f : Nat → Int32, f = (u7.1 1) := ⟨_, rfl⟩
      have hP : va_P (dC, dI) vwCl (wMod cI cZ cQ b mday mdoo mdA mdB mfar mmar mtel mgai mfal mtop mstr mgho mfai mpto mwal mahd_c8 mahf_c9 mcho mbes mbyt mtxt mpos mtka mtok mdig mnum mfau mrdm mrea mlin mlne mthg mord mbor mbsm mans mand manr mali) H := by rw [emahd_c8, emahf_c9]; exact hP
      have hD : va_D A (wMod cI cZ cQ b mday mdoo mdA mdB mfar mmar mtel mgai mfal mtop mstr mgho mfai mpto mwal mahd_c8 mahf_c9 mcho mbes mbyt mtxt mpos mtka mtok mdig mnum mfau mrdm mrea mlin mlne mthg mord mbor mbsm mans mand manr mali) := by rw [emahd_c8, emahf_c9]; exact hD
      have h6 : (laI mtop mstr mgho mfai 48 mahd_c8 mahf_c9) ∧ (rg 240 (0) (100) mahd_c8) ∧ (rg 240 (0) (100) mahf_c9) := by (try rw [emahd_c8]); (try rw [emahf_c9]); exact h6
      obtain ⟨h6_0, h6_1, h6_2⟩ := h6
      refine lv_iconst (v := 0) hx hb dX10_days_29 (by decide) ?_
      refine lv_istore_n (lv' := [(2, .int 0), (0, .ref (b 39)), (1, .int n)]) hx hb dX10_days_30 rfl hl (by decide) rfl (fun ls hl => ?_)
      have L31 : ∀ (nn : Nat) (y31_2 : Int32) (mahd_31 : Nat → Int32) (mahf_31 : Nat → Int32) (H : Heap) (locs : List Loc) (ls : Array Slot), (rg 240 (0) (100) mahd_31) → (rg 240 (0) (100) mahf_31) → (0 ≤ (y31_2.toInt)) → ((y31_2.toInt) ≤ 60) → (laS mfal mmar mtop mstr mgho mfai mtel ((y31_2.toInt)).toNat mahd_31 mahf_31) → ((y31_2.toInt) ≤ n.toInt) → (60 - (y31_2.toInt)).toNat < nn → va_P (dC, dI) vwCl (wMod cI cZ cQ b mday mdoo mdA mdB mfar mmar mtel mgai mfal mtop mstr mgho mfai mpto mwal mahd_31 mahf_31 mcho mbes mbyt mtxt mpos mtka mtok mdig mnum mfau mrdm mrea mlin mlne mthg mord mbor mbsm mans mand manr mali) H → va_D A (wMod cI cZ cQ b mday mdoo mdA mdB mfar mmar mtel mgai mfal mtop mstr mgho mfai mpto mwal mahd_31 mahf_31 mcho mbes mbyt mtxt mpos mtka mtok mdig mnum mfau mrdm mrea mlin mlne mthg mord mbor mbsm mans mand manr mali) → va_S A s.heap H locs → lv_has ls 3 [(0, .ref (b 39)), (1, .int n), (2, .int y31_2)] → W p l e (headSpec wsX10_days { frames := 3, cells := 0, slots := 0, locals := 73 }).room s m ([.ref (b 39), .int n] : List Value).toArray below meth c H locs 0 0 (MQ below (va_Qi (fun (r : Int32) (u : US) => (spDysM mmar mfal mtop mstr mgho mfai mtel mday n r (u.1 5 0) (u.1 2) (u.1 4) (u.1 3)) ∧ (rg 240 (0) (100) (u.1 0)) ∧ (rg 240 (0) (100) (u.1 1)) ∧ (rg 48 (0) (100) (u.1 2)) ∧ (rg 48 (0) (100) (u.1 3)) ∧ (rg 48 (-1) (23) (u.1 4)) ∧ (0 ≤ (u.1 5 0).toInt ∧ (u.1 5 0).toInt ≤ 400)) (Bw (dC, dI) A (fun u : US => (wMod cI cZ cQ b (u.1 5 0) mdoo mdA mdB mfar mmar mtel mgai mfal mtop (u.1 2) (u.1 4) (u.1 3) mpto mwal (u.1 0) (u.1 1) mcho mbes mbyt mtxt mpos mtka mtok mdig mnum mfau mrdm mrea mlin mlne mthg mord mbor mbsm mans mand manr mali))) A) ([.ref (b 39), .int n] : List Value).toArray s 0 0 A) (F0 m 31 ls []) := by
        intro nn
        induction nn with
        | zero =>
          intro y31_2 mahd_31 mahf_31 H locs ls r_mahd_31 r_mahf_31 i31_0 i31_1 i31_2 i31_3 hm31
          exact absurd hm31 (Nat.not_lt_zero _)
        | succ nn ih31 =>
          intro y31_2 mahd_31 mahf_31 H locs ls r_mahd_31 r_mahf_31 i31_0 i31_1 i31_2 i31_3 hm31 hP hD hS hl
          refine lv_iload_n hx hb dX10_days_31 rfl (lv_at hl 2 rfl) ?_
          refine lv_iload_n hx hb dX10_days_32 rfl (lv_at hl 1 rfl) ?_
          refine lv_icmp_ge (tgt := 48) hx hb dX10_days_33 (by decide) (fun c10 => ?_) (fun c10 => ?_)
          · have dc10 : n.toInt ≤ y31_2.toInt := leC rfl rfl c10
            refine lv_iconst (v := 0) hx hb dX10_days_48 (by decide) ?_
            refine lv_istore_n (lv' := [(2, .int 0), (0, .ref (b 39)), (1, .int n)]) hx hb dX10_days_49 rfl hl (by decide) rfl (fun ls hl => ?_)
            have L50 : ∀ (nn : Nat) (y50_2 : Int32) (mstr_50 : Nat → Int32) (mfai_50 : Nat → Int32) (mgho_50 : Nat → Int32) (H : Heap) (locs : List Loc) (ls : Array Slot), (rg 48 (0) (100) mstr_50) → (rg 48 (0) (100) mfai_50) → (rg 48 (-1) (23) mgho_50) → (0 ≤ (y50_2.toInt)) → ((y50_2.toInt) ≤ 48) → (dyI mgho mahd_31 mahf_31 (y50_2.toInt) mstr_50 mfai_50 mgho_50) → (48 - (y50_2.toInt)).toNat < nn → va_P (dC, dI) vwCl (wMod cI cZ cQ b mday mdoo mdA mdB mfar mmar mtel mgai mfal mtop mstr_50 mgho_50 mfai_50 mpto mwal mahd_31 mahf_31 mcho mbes mbyt mtxt mpos mtka mtok mdig mnum mfau mrdm mrea mlin mlne mthg mord mbor mbsm mans mand manr mali) H → va_D A (wMod cI cZ cQ b mday mdoo mdA mdB mfar mmar mtel mgai mfal mtop mstr_50 mgho_50 mfai_50 mpto mwal mahd_31 mahf_31 mcho mbes mbyt mtxt mpos mtka mtok mdig mnum mfau mrdm mrea mlin mlne mthg mord mbor mbsm mans mand manr mali) → va_S A s.heap H locs → lv_has ls 3 [(0, .ref (b 39)), (1, .int n), (2, .int y50_2)] → W p l e (headSpec wsX10_days { frames := 3, cells := 0, slots := 0, locals := 73 }).room s m ([.ref (b 39), .int n] : List Value).toArray below meth c H locs 0 0 (MQ below (va_Qi (fun (r : Int32) (u : US) => (spDysM mmar mfal mtop mstr mgho mfai mtel mday n r (u.1 5 0) (u.1 2) (u.1 4) (u.1 3)) ∧ (rg 240 (0) (100) (u.1 0)) ∧ (rg 240 (0) (100) (u.1 1)) ∧ (rg 48 (0) (100) (u.1 2)) ∧ (rg 48 (0) (100) (u.1 3)) ∧ (rg 48 (-1) (23) (u.1 4)) ∧ (0 ≤ (u.1 5 0).toInt ∧ (u.1 5 0).toInt ≤ 400)) (Bw (dC, dI) A (fun u : US => (wMod cI cZ cQ b (u.1 5 0) mdoo mdA mdB mfar mmar mtel mgai mfal mtop (u.1 2) (u.1 4) (u.1 3) mpto mwal (u.1 0) (u.1 1) mcho mbes mbyt mtxt mpos mtka mtok mdig mnum mfau mrdm mrea mlin mlne mthg mord mbor mbsm mans mand manr mali))) A) ([.ref (b 39), .int n] : List Value).toArray s 0 0 A) (F0 m 50 ls []) := by
              intro nn
              induction nn with
              | zero =>
                intro y50_2 mstr_50 mfai_50 mgho_50 H locs ls r_mstr_50 r_mfai_50 r_mgho_50 i50_0 i50_1 i50_2 hm50
                exact absurd hm50 (Nat.not_lt_zero _)
              | succ nn ih50 =>
                intro y50_2 mstr_50 mfai_50 mgho_50 H locs ls r_mstr_50 r_mfai_50 r_mgho_50 i50_0 i50_1 i50_2 hm50 hP hD hS hl
                refine lv_iload_n hx hb dX10_days_50 rfl (lv_at hl 2 rfl) ?_
                refine lv_bipush (v := 48) hx hb dX10_days_51 (by decide) ?_
                refine lv_icmp_ge (tgt := 111) hx hb dX10_days_53 (by decide) (fun c11 => ?_) (fun c11 => ?_)
                · have dc11 : 48 ≤ y50_2.toInt := leC (show (48 : Int32).toInt = 48 from rfl) rfl c11
                  refine lv_aload_n hx hb dX10_days_111 rfl (lv_at hl 0 rfl) ?_
                  refine lv_dup hx hb dX10_days_112 rfl ?_
                  refine va_get (D := (dC, dI)) (ci := 10) (v := .int mday) (C := RX10) (T := TX10) (N := 39) hx hb hts inX10 hown hK hP 0 rfl rfl 0 (by decide) lf125 (fun _ h9 => h9) rfl dX10_days_113 ?_
                  refine lv_iload_n hx hb dX10_days_116 rfl (lv_at hl 1 rfl) ?_
                  refine lv_iadd hx hb dX10_days_117 ?_
                  have f12 : (mday + n).toInt = (mday.toInt) + (n.toInt) := addC rfl rfl (by omega) (by omega)
                  refine lv_topi (fun x13 ex13 => ?_)
                  have ix13 : x13.toInt = (mday.toInt) + (n.toInt) := by rw [ex13]; exact f12
                  refine va_put (D := (dC, dI)) (ci := 10) (v := .int x13) (ty := .int) (C := RX10) (T := TX10) (N := 39) hx hb hts inX10 tyX10 tyX10_ok nmX10 hown hK hP hD hS 0 rfl rfl 0 (by decide) lf125 (fun _ h9 => h9) rfl (by decide +kernel) rfl rfl (Nat.le_of_ble_eq_true rfl) dX10_days_118 (fun H locs hP hD hS => ?_)
                  have g14 : 0 ≤ x13.toInt ∧ x13.toInt ≤ 400 := by rw [show x13.toInt = x13.toInt from rfl]; exact ⟨by omega, by omega⟩
                  have hP : va_P (dC, dI) vwCl (wMod cI cZ cQ b x13 mdoo mdA mdB mfar mmar mtel mgai mfal mtop mstr_50 mgho_50 mfai_50 mpto mwal mahd_31 mahf_31 mcho mbes mbyt mtxt mpos mtka mtok mdig mnum mfau mrdm mrea mlin mlne mthg mord mbor mbsm mans mand manr mali) H := hP
                  have hD : va_D A (wMod cI cZ cQ b x13 mdoo mdA mdB mfar mmar mtel mgai mfal mtop mstr_50 mgho_50 mfai_50 mpto mwal mahd_31 mahf_31 mcho mbes mbyt mtxt mpos mtka mtok mdig mnum mfau mrdm mrea mlin mlne mthg mord mbor mbsm mans mand manr mali) := hD
                  refine lv_aload_n hx hb dX10_days_121 rfl (lv_at hl 0 rfl) ?_
                  refine va_get (D := (dC, dI)) (ci := 10) (v := .int x13) (C := RX10) (T := TX10) (N := 39) hx hb hts inX10 hown hK hP 0 rfl rfl 0 (by decide) lf125 (fun _ h9 => h9) rfl dX10_days_122 ?_
                  exact W.iret (v := x13) hx hb hr (fun tq ht hW => ⟨⟨x13, (uS [mahd_31, mahf_31, mstr_50, mfai_50, mgho_50, (fun _ => x13)] 0 (fun _ => 0)), rfl, ⟨(show spDysM mmar mfal mtop mstr mgho mfai mtel mday n x13 x13 mstr_50 mgho_50 mfai_50 from by (first | exact ⟨Or.inr ⟨by omega, rfl, rfl⟩, Or.inl ⟨by omega, rfl, rfl, rfl⟩⟩ | exact ⟨Or.inl ⟨by omega, by assumption, by assumption⟩, Or.inr ⟨by omega, dy_end i31_2 i50_2 (by omega) (by omega)⟩⟩)), r_mahd_31, r_mahf_31, r_mstr_50, r_mfai_50, r_mgho_50, g14⟩, by rw [ht]; exact hP, hD⟩, hS.F ht⟩) hS.2.2 dX10_days_125
                · have dc11 : y50_2.toInt < 48 := nleC (show (48 : Int32).toInt = 48 from rfl) rfl c11
                  refine lv_aload_n hx hb dX10_days_56 rfl (lv_at hl 0 rfl) ?_
                  refine va_get (D := (dC, dI)) (ci := 10) (v := .ref (b 10)) (C := RX10) (T := TX10) (N := 39) hx hb hts inX10 hown hK hP 0 rfl rfl 10 (by decide) lf35 (fun _ h9 => h9) rfl dX10_days_57 ?_
                  refine lv_iload_n hx hb dX10_days_60 rfl (lv_at hl 2 rfl) ?_
                  refine lv_aload_n hx hb dX10_days_61 rfl (lv_at hl 0 rfl) ?_
                  refine va_get (D := (dC, dI)) (ci := 10) (v := .ref (b 15)) (C := RX10) (T := TX10) (N := 39) hx hb hts inX10 hown hK hP 0 rfl rfl 15 (by decide) lf50 (fun _ h9 => h9) rfl dX10_days_62 ?_
                  refine lv_iload_n hx hb dX10_days_65 rfl (lv_at hl 2 rfl) ?_
                  have b15 : vp_in y50_2 240 := inC rfl (by omega) (by omega)
                  refine va_iald hx hb hK hP 12 0 rfl rfl b15 dX10_days_66 ?_
                  have g16 : 0 ≤ (mahd_31 y50_2.toNatClampNeg).toInt ∧ (mahd_31 y50_2.toNatClampNeg).toInt ≤ 100 := rg_at r_mahd_31 b15
                  refine lv_topi (fun x17 ex17 => ?_)
                  have ix17 : x17.toInt = (mahd_31 y50_2.toNatClampNeg).toInt := by rw [ex17]
                  have b18 : vp_in y50_2 48 := inC rfl (by omega) (by omega)
                  have g19 : rg 48 (0) (100) (upd mstr_50 y50_2.toNatClampNeg x17) := rg_upd r_mstr_50 rfl (by omega) (by omega)
                  refine va_iast hx hb hK hP hD hS 7 0 rfl rfl b18 dX10_days_67 (fun H locs hP hD hS => ?_)
                  obtain ⟨mstr_u20, emstr_u20⟩ : ∃ f : Nat → Int32, f = upd mstr_50 y50_2.toNatClampNeg x17 := ⟨_, rfl⟩
                  have rmstr_u20 : rg 48 (0) (100) mstr_u20 := by rw [emstr_u20]; exact g19
                  have hP : va_P (dC, dI) vwCl (wMod cI cZ cQ b mday mdoo mdA mdB mfar mmar mtel mgai mfal mtop mstr_u20 mgho_50 mfai_50 mpto mwal mahd_31 mahf_31 mcho mbes mbyt mtxt mpos mtka mtok mdig mnum mfau mrdm mrea mlin mlne mthg mord mbor mbsm mans mand manr mali) H := by rw [emstr_u20]; exact hP
                  have hD : va_D A (wMod cI cZ cQ b mday mdoo mdA mdB mfar mmar mtel mgai mfal mtop mstr_u20 mgho_50 mfai_50 mpto mwal mahd_31 mahf_31 mcho mbes mbyt mtxt mpos mtka mtok mdig mnum mfau mrdm mrea mlin mlne mthg mord mbor mbsm mans mand manr mali) := by rw [emstr_u20]; exact hD
                  refine lv_aload_n hx hb dX10_days_68 rfl (lv_at hl 0 rfl) ?_
                  refine va_get (D := (dC, dI)) (ci := 10) (v := .ref (b 12)) (C := RX10) (T := TX10) (N := 39) hx hb hts inX10 hown hK hP 0 rfl rfl 12 (by decide) lf41 (fun _ h9 => h9) rfl dX10_days_69 ?_
                  refine lv_iload_n hx hb dX10_days_72 rfl (lv_at hl 2 rfl) ?_
                  refine lv_aload_n hx hb dX10_days_73 rfl (lv_at hl 0 rfl) ?_
                  refine va_get (D := (dC, dI)) (ci := 10) (v := .ref (b 16)) (C := RX10) (T := TX10) (N := 39) hx hb hts inX10 hown hK hP 0 rfl rfl 16 (by decide) lf53 (fun _ h9 => h9) rfl dX10_days_74 ?_
                  refine lv_iload_n hx hb dX10_days_77 rfl (lv_at hl 2 rfl) ?_
                  have b21 : vp_in y50_2 240 := inC rfl (by omega) (by omega)
                  refine va_iald hx hb hK hP 13 0 rfl rfl b21 dX10_days_78 ?_
                  have g22 : 0 ≤ (mahf_31 y50_2.toNatClampNeg).toInt ∧ (mahf_31 y50_2.toNatClampNeg).toInt ≤ 100 := rg_at r_mahf_31 b21
                  refine lv_topi (fun x23 ex23 => ?_)
                  have ix23 : x23.toInt = (mahf_31 y50_2.toNatClampNeg).toInt := by rw [ex23]
                  have b24 : vp_in y50_2 48 := inC rfl (by omega) (by omega)
                  have g25 : rg 48 (0) (100) (upd mfai_50 y50_2.toNatClampNeg x23) := rg_upd r_mfai_50 rfl (by omega) (by omega)
                  refine va_iast hx hb hK hP hD hS 9 0 rfl rfl b24 dX10_days_79 (fun H locs hP hD hS => ?_)
                  obtain ⟨mfai_u26, emfai_u26⟩ : ∃ f : Nat → Int32, f = upd mfai_50 y50_2.toNatClampNeg x23 := ⟨_, rfl⟩
                  have rmfai_u26 : rg 48 (0) (100) mfai_u26 := by rw [emfai_u26]; exact g25
                  have hP : va_P (dC, dI) vwCl (wMod cI cZ cQ b mday mdoo mdA mdB mfar mmar mtel mgai mfal mtop mstr_u20 mgho_50 mfai_u26 mpto mwal mahd_31 mahf_31 mcho mbes mbyt mtxt mpos mtka mtok mdig mnum mfau mrdm mrea mlin mlne mthg mord mbor mbsm mans mand manr mali) H := by rw [emfai_u26]; exact hP
                  have hD : va_D A (wMod cI cZ cQ b mday mdoo mdA mdB mfar mmar mtel mgai mfal mtop mstr_u20 mgho_50 mfai_u26 mpto mwal mahd_31 mahf_31 mcho mbes mbyt mtxt mpos mtka mtok mdig mnum mfau mrdm mrea mlin mlne mthg mord mbor mbsm mans mand manr mali) := by rw [emfai_u26]; exact hD
                  refine lv_aload_n hx hb dX10_days_80 rfl (lv_at hl 0 rfl) ?_
                  refine va_get (D := (dC, dI)) (ci := 10) (v := .ref (b 11)) (C := RX10) (T := TX10) (N := 39) hx hb hts inX10 hown hK hP 0 rfl rfl 11 (by decide) lf38 (fun _ h9 => h9) rfl dX10_days_81 ?_
                  refine lv_iload_n hx hb dX10_days_84 rfl (lv_at hl 2 rfl) ?_
                  refine lv_aload_n hx hb dX10_days_85 rfl (lv_at hl 0 rfl) ?_
                  refine va_get (D := (dC, dI)) (ci := 10) (v := .ref (b 12)) (C := RX10) (T := TX10) (N := 39) hx hb hts inX10 hown hK hP 0 rfl rfl 12 (by decide) lf41 (fun _ h9 => h9) rfl dX10_days_86 ?_
                  refine lv_iload_n hx hb dX10_days_89 rfl (lv_at hl 2 rfl) ?_
                  have b27 : vp_in y50_2 48 := inC rfl (by omega) (by omega)
                  refine va_iald hx hb hK hP 9 0 rfl rfl b27 dX10_days_90 ?_
                  have g28 : 0 ≤ (mfai_u26 y50_2.toNatClampNeg).toInt ∧ (mfai_u26 y50_2.toNatClampNeg).toInt ≤ 100 := rg_at rmfai_u26 b27
                  have o29 : (mfai_u26 y50_2.toNatClampNeg).toInt = x23.toInt := by rw [emfai_u26, pk_us]
                  refine lv_if_ne (tgt := 98) hx hb dX10_days_91 (by decide) (fun c30 => ?_) (fun c30 => ?_)
                  · have dc30 : 1 ≤ (mfai_u26 y50_2.toNatClampNeg).toInt := ka_lo (by omega) (neC rfl (show (0 : Int32).toInt = 0 from rfl) c30)
                    refine lv_aload_n hx hb dX10_days_98 rfl (lv_at hl 0 rfl) ?_
                    refine va_get (D := (dC, dI)) (ci := 10) (v := .ref (b 11)) (C := RX10) (T := TX10) (N := 39) hx hb hts inX10 hown hK hP 0 rfl rfl 11 (by decide) lf38 (fun _ h9 => h9) rfl dX10_days_99 ?_
                    refine lv_iload_n hx hb dX10_days_102 rfl (lv_at hl 2 rfl) ?_
                    have b31 : vp_in y50_2 48 := inC rfl (by omega) (by omega)
                    refine va_iald hx hb hK hP 8 0 rfl rfl b31 dX10_days_103 ?_
                    have g32 : -1 ≤ (mgho_50 y50_2.toNatClampNeg).toInt ∧ (mgho_50 y50_2.toNatClampNeg).toInt ≤ 23 := rg_at r_mgho_50 b31
                    refine lv_topi (fun x33 ex33 => ?_)
                    have ix33 : x33.toInt = (mgho_50 y50_2.toNatClampNeg).toInt := by rw [ex33]
                    have b34 : vp_in y50_2 48 := inC rfl (by omega) (by omega)
                    have g35 : rg 48 (-1) (23) (upd mgho_50 y50_2.toNatClampNeg x33) := rg_upd r_mgho_50 rfl (by omega) (by omega)
                    refine va_iast hx hb hK hP hD hS 8 0 rfl rfl b34 dX10_days_104 (fun H locs hP hD hS => ?_)
                    obtain ⟨mgho_u36, emgho_u36⟩ : ∃ f : Nat → Int32, f = upd mgho_50 y50_2.toNatClampNeg x33 := ⟨_, rfl⟩
                    have rmgho_u36 : rg 48 (-1) (23) mgho_u36 := by rw [emgho_u36]; exact g35
                    have hP : va_P (dC, dI) vwCl (wMod cI cZ cQ b mday mdoo mdA mdB mfar mmar mtel mgai mfal mtop mstr_u20 mgho_u36 mfai_u26 mpto mwal mahd_31 mahf_31 mcho mbes mbyt mtxt mpos mtka mtok mdig mnum mfau mrdm mrea mlin mlne mthg mord mbor mbsm mans mand manr mali) H := by rw [emgho_u36]; exact hP
                    have hD : va_D A (wMod cI cZ cQ b mday mdoo mdA mdB mfar mmar mtel mgai mfal mtop mstr_u20 mgho_u36 mfai_u26 mpto mwal mahd_31 mahf_31 mcho mbes mbyt mtxt mpos mtka mtok mdig mnum mfau mrdm mrea mlin mlne mthg mord mbor mbsm mans mand manr mali) := by rw [emgho_u36]; exact hD
                    obtain ⟨z37, ez37⟩ : ∃ y : Int32, y = y50_2 + 1 := ⟨_, rfl⟩
                    have iz37 : z37.toInt = y50_2.toInt + 1 := by rw [ez37]; exact addC rfl rfl (by omega) (by omega)
                    refine lv_iinc (v := z37) (lv' := [(2, .int z37), (0, .ref (b 39)), (1, .int n)]) hx hb dX10_days_105 hl (k := 2) rfl (by rw [ez37]; rfl) (by decide) rfl (fun ls hl => ?_)
                    refine lv_goto (tgt := 50) hx hb dX10_days_108 (by decide) ?_
                    exact ih50 z37 mstr_u20 mfai_u26 mgho_u36 _ _ _ rmstr_u20 rmfai_u26 rmgho_u36 (by omega) (by omega) (by (first | exact dy_step i50_2 (by assumption) (by assumption) (by assumption) (by assumption) (by assumption) (by omega) (by omega) (by first | exact Or.inl ⟨by omega, rfl⟩ | exact Or.inr ⟨by omega, by assumption⟩) (by omega) | exact dy_init (by first | rfl | omega))) (by omega) hP hD hS (lv_sub hl [1, 2, 0] rfl)
                  · have dc30 : (mfai_u26 y50_2.toNatClampNeg).toInt = 0 := eqC rfl (show (0 : Int32).toInt = 0 from rfl) c30
                    refine lv_iconst (v := (-1)) hx hb dX10_days_94 (by decide) ?_
                    refine lv_goto (tgt := 104) hx hb dX10_days_95 (by decide) ?_
                    have b38 : vp_in y50_2 48 := inC rfl (by omega) (by omega)
                    have g39 : rg 48 (-1) (23) (upd mgho_50 y50_2.toNatClampNeg (-1)) := rg_upd r_mgho_50 (show ((-1) : Int32).toInt = (-1) from rfl) (by omega) (by omega)
                    refine va_iast hx hb hK hP hD hS 8 0 rfl rfl b38 dX10_days_104 (fun H locs hP hD hS => ?_)
                    obtain ⟨mgho_u40, emgho_u40⟩ : ∃ f : Nat → Int32, f = upd mgho_50 y50_2.toNatClampNeg (-1) := ⟨_, rfl⟩
                    have rmgho_u40 : rg 48 (-1) (23) mgho_u40 := by rw [emgho_u40]; exact g39
                    have hP : va_P (dC, dI) vwCl (wMod cI cZ cQ b mday mdoo mdA mdB mfar mmar mtel mgai mfal mtop mstr_u20 mgho_u40 mfai_u26 mpto mwal mahd_31 mahf_31 mcho mbes mbyt mtxt mpos mtka mtok mdig mnum mfau mrdm mrea mlin mlne mthg mord mbor mbsm mans mand manr mali) H := by rw [emgho_u40]; exact hP
                    have hD : va_D A (wMod cI cZ cQ b mday mdoo mdA mdB mfar mmar mtel mgai mfal mtop mstr_u20 mgho_u40 mfai_u26 mpto mwal mahd_31 mahf_31 mcho mbes mbyt mtxt mpos mtka mtok mdig mnum mfau mrdm mrea mlin mlne mthg mord mbor mbsm mans mand manr mali) := by rw [emgho_u40]; exact hD
                    obtain ⟨z41, ez41⟩ : ∃ y : Int32, y = y50_2 + 1 := ⟨_, rfl⟩
                    have iz41 : z41.toInt = y50_2.toInt + 1 := by rw [ez41]; exact addC rfl rfl (by omega) (by omega)
                    refine lv_iinc (v := z41) (lv' := [(2, .int z41), (0, .ref (b 39)), (1, .int n)]) hx hb dX10_days_105 hl (k := 2) rfl (by rw [ez41]; rfl) (by decide) rfl (fun ls hl => ?_)
                    refine lv_goto (tgt := 50) hx hb dX10_days_108 (by decide) ?_
                    exact ih50 z41 mstr_u20 mfai_u26 mgho_u40 _ _ _ rmstr_u20 rmfai_u26 rmgho_u40 (by omega) (by omega) (by (first | exact dy_step i50_2 (by assumption) (by assumption) (by assumption) (by assumption) (by assumption) (by omega) (by omega) (by first | exact Or.inl ⟨by omega, rfl⟩ | exact Or.inr ⟨by omega, by assumption⟩) (by omega) | exact dy_init (by first | rfl | omega))) (by omega) hP hD hS (lv_sub hl [1, 2, 0] rfl)
            have kc42 : (0 : Int32).toInt = 0 := rfl
            exact L50 _ 0 mstr mfai mgho _ _ _ r_mstr r_mfai r_mgho (by omega) (by omega) (by (first | exact dy_init (by first | rfl | omega) | exact dy_step i50_2 (by assumption) (by assumption) (by assumption) (by assumption) (by assumption) (by omega) (by omega) (by first | exact Or.inl ⟨by omega, rfl⟩ | exact Or.inr ⟨by omega, by assumption⟩) (by omega))) (Nat.lt_succ_self _) hP hD hS (lv_sub hl [1, 2, 0] rfl)
          · have dc10 : y31_2.toInt < n.toInt := nleC rfl rfl c10
            refine lv_aload_n hx hb dX10_days_36 rfl (lv_at hl 0 rfl) ?_
            refine lv_iconst (v := 0) hx hb dX10_days_37 (by decide) ?_
            refine lv_iconst (v := 0) hx hb dX10_days_38 (by decide) ?_
            have kc0 : (0 : Int32).toInt = 0 := rfl
            refine wvV (As := [.int 0, .int 0]) (rest := []) (wr := []) (w2 := (fun u : US => (wMod cI cZ cQ b mday mdoo mdA mdB mfar mmar mtel mgai mfal mtop mstr mgho mfai mpto mwal (u.1 0) (u.1 1) mcho mbes mbyt mtxt mpos mtka mtok mdig mnum mfau mrdm mrea mlin mlne mthg mord mbor mbsm mans mand manr mali))) ⟨hx, hb, hml, hown, hts⟩ (k_X10_goDay2 l dC dI cI cZ cQ b mday mdoo mdA mdB mfar mmar mtel mgai mfal mtop mstr mgho mfai mpto mwal mahd_31 mahf_31 mcho mbes mbyt mtxt mpos mtka mtok mdig mnum mfau mrdm mrea mlin mlne mthg mord mbor mbsm mans mand manr mali _ (0 : Int32) (0 : Int32) r_mday r_mdoo r_mdA r_mdB r_mmar r_mgai r_mfal r_mtop r_mstr r_mgho r_mfai r_mahd_31 r_mahf_31 r_mcho r_mbyt r_mpos r_mrdm r_mlin r_mthg r_mord r_mans (by omega) (by omega) (by omega) (by omega) (by omega)) (cwV 2 hts gX10_days_X10_goDay rfl rfl rfl (by decide +kernel) ⟨Nat.le_of_ble_eq_true rfl, Nat.le_of_ble_eq_true rfl⟩) hP hD hS hA hK hN [0, 1, 2, 3, 4, 5, 6, 7, 8, 9, 10, 11, 12, 13, 14, 15, 16, 17, 18, 19, 20, 21, 22, 23, 24, 25] [] [0, 1, 2, 3, 4, 5, 6, 7, 8, 9, 10, 11, 12, 13, 14, 15, 16, 17, 18, 19, 20, 21, 22, 23, 24, 25] rfl rfl (by decide) (by decide) (by decide) (fun _ => rfl) (by decide) 0 10 rfl rfl rfl hl.1 rfl (Nat.le_of_ble_eq_true rfl) dX10_days_39 ⟨Nat.le_of_ble_eq_true rfl, Nat.le_of_ble_eq_true rfl⟩ (fun u45 H locs h44 hP hD hS => ?_)
            obtain ⟨mahd_c46, emahd_c46⟩ : ∃ f : Nat → Int32, f = (u45.1 0) := ⟨_, rfl⟩
            obtain ⟨mahf_c47, emahf_c47⟩ : ∃ f : Nat → Int32, f = (u45.1 1) := ⟨_, rfl⟩
            have hP : va_P (dC, dI) vwCl (wMod cI cZ cQ b mday mdoo mdA mdB mfar mmar mtel mgai mfal mtop mstr mgho mfai mpto mwal mahd_c46 mahf_c47 mcho mbes mbyt mtxt mpos mtka mtok mdig mnum mfau mrdm mrea mlin mlne mthg mord mbor mbsm mans mand manr mali) H := by rw [emahd_c46, emahf_c47]; exact hP
            have hD : va_D A (wMod cI cZ cQ b mday mdoo mdA mdB mfar mmar mtel mgai mfal mtop mstr mgho mfai mpto mwal mahd_c46 mahf_c47 mcho mbes mbyt mtxt mpos mtka mtok mdig mnum mfau mrdm mrea mlin mlne mthg mord mbor mbsm mans mand manr mali) := by rw [emahd_c46, emahf_c47]; exact hD
            have h44 : (gdS mfal mmar mtop mtel (0) 48 mahd_31 mahf_31 mahd_c46 mahf_c47) ∧ (rg 240 (0) (100) mahd_c46) ∧ (rg 240 (0) (100) mahf_c47) := by (try rw [emahd_c46]); (try rw [emahf_c47]); exact h44
            obtain ⟨h44_0, h44_1, h44_2⟩ := h44
            obtain ⟨z48, ez48⟩ : ∃ y : Int32, y = y31_2 + 1 := ⟨_, rfl⟩
            have iz48 : z48.toInt = y31_2.toInt + 1 := by rw [ez48]; exact addC rfl rfl (by omega) (by omega)
            refine lv_iinc (v := z48) (lv' := [(2, .int z48), (0, .ref (b 39)), (1, .int n)]) hx hb dX10_days_42 hl (k := 2) rfl (by rw [ez48]; rfl) (by decide) rfl (fun ls hl => ?_)
            refine lv_goto (tgt := 31) hx hb dX10_days_45 (by decide) ?_
            exact ih31 z48 mahd_c46 mahf_c47 _ _ _ h44_1 h44_2 (by omega) (by omega) (by (first | exact la_day i31_2 (by assumption) (by first | rfl | omega) (by omega) | exact la_zero (by assumption) (by omega) (by first | rfl | omega))) (by omega) (by omega) hP hD hS (lv_sub hl [1, 2, 0] rfl)
      have kc49 : (0 : Int32).toInt = 0 := rfl
      exact L31 _ 0 mahd_c8 mahf_c9 _ _ _ h6_1 h6_2 (by omega) (by omega) (by (first | exact la_zero (by assumption) (by omega) (by first | rfl | omega) | exact la_day i31_2 (by assumption) (by first | rfl | omega) (by omega))) (by omega) (Nat.lt_succ_self _) hP hD hS (lv_sub hl [1, 2, 0] rfl)
    · have dc4 : 400 < (mday.toInt) + (n.toInt) := nleC f3 (show (400 : Int32).toInt = 400 from rfl) c4
      refine lv_bipush (v := (-3)) hx hb dX10_days_22 (by decide) ?_
      exact W.iret (v := (-3)) hx hb hr (fun tq ht hW => ⟨⟨(-3), (uS [mahd, mahf, mstr, mfai, mgho, (fun _ => mday)] 0 (fun _ => 0)), rfl, ⟨(show spDysM mmar mfal mtop mstr mgho mfai mtel mday n ((-3) : Int32) mday mstr mgho mfai from by (try rw [show ((-3) : Int32).toInt = (-3) from (show ((-3) : Int32).toInt = (-3) from rfl)]); (first | exact ⟨Or.inr ⟨by omega, rfl, rfl⟩, Or.inl ⟨by omega, rfl, rfl, rfl⟩⟩ | exact ⟨Or.inl ⟨by omega, by assumption, by assumption⟩, Or.inr ⟨by omega, dy_end i31_2 i50_2 (by omega) (by omega)⟩⟩)), r_mahd, r_mahf, r_mstr, r_mfai, r_mgho, r_mday⟩, by rw [ht]; exact hP, hD⟩, hS.F ht⟩) hS.2.2 dX10_days_24
  · refine lv_if_eq (tgt := 22) hx hb dX10_days_7 (by decide) (fun _ => ?_) (fun c9 => absurd (by decide) c9)
    refine lv_bipush (v := (-3)) hx hb dX10_days_22 (by decide) ?_
    exact W.iret (v := (-3)) hx hb hr (fun tq ht hW => ⟨⟨(-3), (uS [mahd, mahf, mstr, mfai, mgho, (fun _ => mday)] 0 (fun _ => 0)), rfl, ⟨(show spDysM mmar mfal mtop mstr mgho mfai mtel mday n ((-3) : Int32) mday mstr mgho mfai from by (try rw [show ((-3) : Int32).toInt = (-3) from (show ((-3) : Int32).toInt = (-3) from rfl)]); (first | exact ⟨Or.inr ⟨by omega, rfl, rfl⟩, Or.inl ⟨by omega, rfl, rfl, rfl⟩⟩ | exact ⟨Or.inl ⟨by omega, by assumption, by assumption⟩, Or.inr ⟨by omega, dy_end i31_2 i50_2 (by omega) (by omega)⟩⟩)), r_mahd, r_mahf, r_mstr, r_mfai, r_mgho, r_mday⟩, by rw [ht]; exact hP, hD⟩, hS.F ht⟩) hS.2.2 dX10_days_24
set_option maxHeartbeats 4000000 in
set_option maxRecDepth 100000 in
theorem k_X10_goWalk2 (l : Launch) (dC : Nat → ClassId) (dI : Nat → Nat → Nat) (cI cZ cQ : ClassId) (b : Nat → Nat) (mday : Int32) (mdoo : Int32) (mdA : Nat → Int32) (mdB : Nat → Int32) (mfar : Nat → Int32) (mmar : Nat → Int32) (mtel : Int32) (mgai : Int32) (mfal : Nat → Int32) (mtop : Nat → Int32) (mstr : Nat → Int32) (mgho : Nat → Int32) (mfai : Nat → Int32) (mpto : Nat → Int32) (mwal : Nat → Int32) (mahd : Nat → Int32) (mahf : Nat → Int32) (mcho : Nat → Int32) (mbes : Nat → Int32) (mbyt : Int32) (mtxt : Nat → Int32) (mpos : Int32) (mtka : Int32) (mtok : Int64) (mdig : Int32) (mnum : Int32) (mfau : Int32) (mrdm : Int32) (mrea : Nat → Int32) (mlin : Int32) (mlne : Nat → Int32) (mthg : Nat → Int32) (mord : Nat → Int32) (mbor : Nat → Int32) (mbsm : Int32) (mans : Nat → Int32) (mand : Nat → Int32) (manr : Nat → Int32) (mali : Nat → Int32) (sz : Nat) (ro : Int32) (at_ : Int32) (r_mday : 0 ≤ mday.toInt ∧ mday.toInt ≤ 400) (r_mdoo : 0 ≤ mdoo.toInt ∧ mdoo.toInt ≤ 14) (r_mdA : rg 14 (0) (7) mdA) (r_mdB : rg 14 (0) (7) mdB) (r_mmar : rg 24 (0) (255) mmar) (r_mgai : 0 ≤ mgai.toInt ∧ mgai.toInt ≤ 100) (r_mfal : rg 11 (0) (30) mfal) (r_mtop : rg 48 (-1) (23) mtop) (r_mstr : rg 48 (0) (100) mstr) (r_mgho : rg 48 (-1) (23) mgho) (r_mfai : rg 48 (0) (100) mfai) (r_mahd : rg 240 (0) (100) mahd) (r_mahf : rg 240 (0) (100) mahf) (r_mcho : rg 5 (-1) (9) mcho) (r_mbyt : 0 ≤ mbyt.toInt ∧ mbyt.toInt ≤ 160) (r_mpos : 0 ≤ mpos.toInt ∧ mpos.toInt ≤ 160) (r_mrdm : 0 ≤ mrdm.toInt ∧ mrdm.toInt ≤ 10) (r_mlin : 0 ≤ mlin.toInt ∧ mlin.toInt ≤ 10) (r_mthg : rg 8 (0) (31) mthg) (r_mord : rg 8 (-1) (8) mord) (r_mans : rg 4 (0) (12) mans) (q0 : 0 ≤ ro.toInt) (q1 : ro.toInt ≤ 7) (q2 : 0 ≤ at_.toInt) (q3 : at_.toInt ≤ 192) : KW l yX10_goWalk wsX10_goWalk { frames := 0, cells := 0, slots := 0, locals := 0 } (dC, dI) (TY cI cZ cQ) (wMod cI cZ cQ b mday mdoo mdA mdB mfar mmar mtel mgai mfal mtop mstr mgho mfai mpto mwal mahd mahf mcho mbes mbyt mtxt mpos mtka mtok mdig mnum mfau mrdm mrea mlin mlne mthg mord mbor mbsm mans mand manr mali) [.ref (b 39), .int ro, .int at_] sz 0 0 (fun (r : Int32) (u : US) => (gwS mtop mgai.toInt at_.toInt (ro.toInt * 6) (ro.toInt * 6 + 6) mahd (u.1 0) r.toInt) ∧ (rg 240 (0) (100) (u.1 0))) (fun u : US => (wMod cI cZ cQ b mday mdoo mdA mdB mfar mmar mtel mgai mfal mtop mstr mgho mfai mpto mwal (u.1 0) mahf mcho mbes mbyt mtxt mpos mtka mtok mdig mnum mfau mrdm mrea mlin mlne mthg mord mbor mbsm mans mand manr mali)) := by
  refine Met.ofW (cc := cX10_goWalk) (maxL := 6) (ret := (some .int)) (by decide) rfl ?_
  intro p e s m args below meth c s₁ B hml hv
  obtain ⟨rfl, hsz, hP, hK, hD0, hN⟩ := hv
  have hx := B.exec
  have hb := B.bytes
  have hr := B.returns
  have hts := atoms_spec (ws := wsX10_goWalk) B.pre
  have hown : s.vm.findClass RX10 = some m.cls := findClass_of_methodNamed B.named
  have hlocks := B.notSynchronized
  have lf32 := hts (.fieldLink RX10 32 "PalaceOfRoomsModel" "top" "[I") (List.mem_cons_of_mem _ (List.mem_append_left _ (List.mem_of_getElem? (i := 0) rfl)))
  have inX10 : ∀ w ∈ wsX100, w ∈ wsX10_goWalk := fun w h => List.mem_cons_of_mem _ (List.mem_append_right _ h)
  have lf50 := hts (.fieldLink RX10 50 "PalaceOfRoomsModel" "ahead" "[I") (List.mem_cons_of_mem _ (List.mem_append_left _ (List.mem_of_getElem? (i := 1) rfl)))
  have lf26 := hts (.fieldLink RX10 26 "PalaceOfRoomsModel" "gain" "I") (List.mem_cons_of_mem _ (List.mem_append_left _ (List.mem_of_getElem? (i := 2) rfl)))
  subst hsz
  have hD := hD0.self (sz := s.heap.size)
  generalize hAe : va_A (wMod cI cZ cQ b mday mdoo mdA mdB mfar mmar mtel mgai mfal mtop mstr mgho mfai mpto mwal mahd mahf mcho mbes mbyt mtxt mpos mtka mtok mdig mnum mfau mrdm mrea mlin mlne mthg mord mbor mbsm mans mand manr mali) s.heap.size = A at hD ⊢
  have hA : ∀ q : Nat, s.heap.size ≤ q → A q := fun q h => by rw [← hAe]; exact Or.inr h
  have hS : va_S A s.heap s.heap [] := va_S.rf
  have hl := lv_entry ([.ref (b 39), .int ro, .int at_]) (n := 6) (Nat.le_of_ble_eq_true rfl)
  rw [lg_entry_eq]
  generalize (lg_sl ([.ref (b 39), .int ro, .int at_]) ++ List.replicate (6 - (lg_sl ([.ref (b 39), .int ro, .int at_])).length) Slot.unset).toArray = ls at hl ⊢
  have hl : lv_has ls 6 [(0, .ref (b 39)), (1, .int ro), (2, .int at_)] := hl
  refine lv_iconst (v := 0) hx hb dX10_goWalk_0 (by decide) ?_
  refine lv_istore_n (lv' := [(3, .int 0), (0, .ref (b 39)), (1, .int ro), (2, .int at_)]) hx hb dX10_goWalk_1 rfl hl (by decide) rfl (fun ls hl => ?_)
  refine lv_bipush (v := 6) hx hb dX10_goWalk_2 (by decide) ?_
  refine lv_iload_n hx hb dX10_goWalk_4 rfl (lv_at hl 2 rfl) ?_
  refine lv_imul hx hb dX10_goWalk_5 ?_
  have f1 : (6 * ro).toInt = (6) * (ro.toInt) := mulC (show (6 : Int32).toInt = 6 from rfl) rfl (by omega) (by omega)
  refine lv_topi (fun x2 ex2 => ?_)
  have ix2 : x2.toInt = (6) * (ro.toInt) := by rw [ex2]; exact f1
  refine lv_istore (lv' := [(4, .int x2), (3, .int 0), (0, .ref (b 39)), (1, .int ro), (2, .int at_)]) hx hb dX10_goWalk_6 hl (by decide) rfl (fun ls hl => ?_)
  have L8 : ∀ (nn : Nat) (y8_3 : Int32) (y8_4 : Int32) (mahd_8 : Nat → Int32) (H : Heap) (locs : List Loc) (ls : Array Slot), (rg 240 (0) (100) mahd_8) → (0 ≤ (y8_4.toInt)) → ((y8_4.toInt) ≤ 48) → (6 * ro.toInt ≤ (y8_4.toInt)) → ((y8_4.toInt) ≤ 6 * ro.toInt + 6) → (0 ≤ (y8_3.toInt)) → ((y8_3.toInt) ≤ 100 * ((y8_4.toInt) - 6 * ro.toInt)) → (gwS mtop mgai.toInt at_.toInt (6 * ro.toInt) (y8_4.toInt) mahd mahd_8 (y8_3.toInt)) → (48 - (y8_4.toInt)).toNat < nn → va_P (dC, dI) vwCl (wMod cI cZ cQ b mday mdoo mdA mdB mfar mmar mtel mgai mfal mtop mstr mgho mfai mpto mwal mahd_8 mahf mcho mbes mbyt mtxt mpos mtka mtok mdig mnum mfau mrdm mrea mlin mlne mthg mord mbor mbsm mans mand manr mali) H → va_D A (wMod cI cZ cQ b mday mdoo mdA mdB mfar mmar mtel mgai mfal mtop mstr mgho mfai mpto mwal mahd_8 mahf mcho mbes mbyt mtxt mpos mtka mtok mdig mnum mfau mrdm mrea mlin mlne mthg mord mbor mbsm mans mand manr mali) → va_S A s.heap H locs → lv_has ls 6 [(0, .ref (b 39)), (1, .int ro), (2, .int at_), (3, .int y8_3), (4, .int y8_4)] → W p l e (headSpec wsX10_goWalk { frames := 0, cells := 0, slots := 0, locals := 0 }).room s m ([.ref (b 39), .int ro, .int at_] : List Value).toArray below meth c H locs 0 0 (MQ below (va_Qi (fun (r : Int32) (u : US) => (gwS mtop mgai.toInt at_.toInt (ro.toInt * 6) (ro.toInt * 6 + 6) mahd (u.1 0) r.toInt) ∧ (rg 240 (0) (100) (u.1 0))) (Bw (dC, dI) A (fun u : US => (wMod cI cZ cQ b mday mdoo mdA mdB mfar mmar mtel mgai mfal mtop mstr mgho mfai mpto mwal (u.1 0) mahf mcho mbes mbyt mtxt mpos mtka mtok mdig mnum mfau mrdm mrea mlin mlne mthg mord mbor mbsm mans mand manr mali))) A) ([.ref (b 39), .int ro, .int at_] : List Value).toArray s 0 0 A) (F0 m 8 ls []) := by
    intro nn
    induction nn with
    | zero =>
      intro y8_3 y8_4 mahd_8 H locs ls r_mahd_8 i8_0 i8_1 i8_2 i8_3 i8_4 i8_5 i8_6 hm8
      exact absurd hm8 (Nat.not_lt_zero _)
    | succ nn ih8 =>
      intro y8_3 y8_4 mahd_8 H locs ls r_mahd_8 i8_0 i8_1 i8_2 i8_3 i8_4 i8_5 i8_6 hm8 hP hD hS hl
      refine lv_iload hx hb dX10_goWalk_8 (lv_at hl 4 rfl) ?_
      refine lv_bipush (v := 6) hx hb dX10_goWalk_10 (by decide) ?_
      refine lv_iload_n hx hb dX10_goWalk_12 rfl (lv_at hl 1 rfl) ?_
      refine lv_imul hx hb dX10_goWalk_13 ?_
      have f3 : (6 * ro).toInt = (6) * (ro.toInt) := mulC (show (6 : Int32).toInt = 6 from rfl) rfl (by omega) (by omega)
      refine lv_bipush (v := 6) hx hb dX10_goWalk_14 (by decide) ?_
      refine lv_iadd hx hb dX10_goWalk_16 ?_
      have f4 : ((6 * ro) + 6).toInt = ((6) * (ro.toInt)) + (6) := addC f3 (show (6 : Int32).toInt = 6 from rfl) (by omega) (by omega)
      refine lv_icmp_ge (tgt := 82) hx hb dX10_goWalk_17 (by decide) (fun c5 => ?_) (fun c5 => ?_)
      · have dc5 : ((6) * (ro.toInt)) + (6) ≤ y8_4.toInt := leC f4 rfl c5
        refine lv_iload_n hx hb dX10_goWalk_82 rfl (lv_at hl 3 rfl) ?_
        exact W.iret (v := y8_3) hx hb hr (fun tq ht hW => ⟨⟨y8_3, (uS [mahd_8] 0 (fun _ => 0)), rfl, ⟨(show gwS mtop mgai.toInt at_.toInt (ro.toInt * 6) (ro.toInt * 6 + 6) mahd mahd_8 y8_3.toInt from by exact gw_end i8_6 (by omega) (by omega)), r_mahd_8⟩, by rw [ht]; exact hP, hD⟩, hS.F ht⟩) hS.2.2 dX10_goWalk_83
      · have dc5 : y8_4.toInt < ((6) * (ro.toInt)) + (6) := nleC f4 rfl c5
        refine lv_aload_n hx hb dX10_goWalk_20 rfl (lv_at hl 0 rfl) ?_
        refine va_get (D := (dC, dI)) (ci := 10) (v := .ref (b 9)) (C := RX10) (T := TX10) (N := 39) hx hb hts inX10 hown hK hP 0 rfl rfl 9 (by decide) lf32 (fun _ h9 => h9) rfl dX10_goWalk_21 ?_
        refine lv_iload hx hb dX10_goWalk_24 (lv_at hl 4 rfl) ?_
        have b6 : vp_in y8_4 48 := inC rfl (by omega) (by omega)
        refine va_iald hx hb hK hP 6 0 rfl rfl b6 dX10_goWalk_26 ?_
        have g7 : -1 ≤ (mtop y8_4.toNatClampNeg).toInt ∧ (mtop y8_4.toNatClampNeg).toInt ≤ 23 := rg_at r_mtop b6
        refine lv_iconst (v := (-1)) hx hb dX10_goWalk_27 (by decide) ?_
        refine lv_icmp_ne (tgt := 35) hx hb dX10_goWalk_28 (by decide) (fun c8 => ?_) (fun c8 => ?_)
        · have dc8 : 0 ≤ (mtop y8_4.toNatClampNeg).toInt := ka_lo (by omega) (neC rfl (show ((-1) : Int32).toInt = (-1) from rfl) c8)
          refine lv_bipush (v := 100) hx hb dX10_goWalk_35 (by decide) ?_
          refine lv_aload_n hx hb dX10_goWalk_37 rfl (lv_at hl 0 rfl) ?_
          refine va_get (D := (dC, dI)) (ci := 10) (v := .ref (b 15)) (C := RX10) (T := TX10) (N := 39) hx hb hts inX10 hown hK hP 0 rfl rfl 15 (by decide) lf50 (fun _ h9 => h9) rfl dX10_goWalk_38 ?_
          refine lv_iload_n hx hb dX10_goWalk_41 rfl (lv_at hl 2 rfl) ?_
          refine lv_iload hx hb dX10_goWalk_42 (lv_at hl 4 rfl) ?_
          refine lv_iadd hx hb dX10_goWalk_44 ?_
          have f9 : (at_ + y8_4).toInt = (at_.toInt) + (y8_4.toInt) := addC rfl rfl (by omega) (by omega)
          have b10 : vp_in (at_ + y8_4) 240 := inC f9 (by omega) (by omega)
          refine va_iald hx hb hK hP 12 0 rfl rfl b10 dX10_goWalk_45 ?_
          have g11 : 0 ≤ (mahd_8 (at_ + y8_4).toNatClampNeg).toInt ∧ (mahd_8 (at_ + y8_4).toNatClampNeg).toInt ≤ 100 := rg_at r_mahd_8 b10
          refine lv_isub hx hb dX10_goWalk_46 ?_
          have f12 : (100 - (mahd_8 (at_ + y8_4).toNatClampNeg)).toInt = (100) - ((mahd_8 (at_ + y8_4).toNatClampNeg).toInt) := subC (show (100 : Int32).toInt = 100 from rfl) rfl (by omega) (by omega)
          refine lv_aload_n hx hb dX10_goWalk_47 rfl (lv_at hl 0 rfl) ?_
          refine va_get (D := (dC, dI)) (ci := 10) (v := .int mgai) (C := RX10) (T := TX10) (N := 39) hx hb hts inX10 hown hK hP 0 rfl rfl 7 (by decide) lf26 (fun _ h9 => h9) rfl dX10_goWalk_48 ?_
          refine lv_imul hx hb dX10_goWalk_51 ?_
          obtain ⟨f13, f13_1, f13_2⟩ := mulB (a := (100 - (mahd_8 (at_ + y8_4).toNatClampNeg))) (b := mgai) (A := (100) - ((mahd_8 (at_ + y8_4).toNatClampNeg).toInt)) (B := mgai.toInt) (p := 100) (q := 100) f12 rfl (by omega) (by omega) (by omega) (by omega) (by decide)
          refine lv_bipush (v := 100) hx hb dX10_goWalk_52 (by decide) ?_
          refine lv_idiv hx hb dX10_goWalk_54 (by decide) ?_
          have f14 : (((100 - (mahd_8 (at_ + y8_4).toNatClampNeg)) * mgai) / 100).toInt = (((100) - ((mahd_8 (at_ + y8_4).toNatClampNeg).toInt)) * (mgai.toInt)) / (100) := divC f13 (show (100 : Int32).toInt = 100 from rfl) (by omega) (by omega)
          refine lv_topi (fun x15 ex15 => ?_)
          have ix15 : x15.toInt = (((100) - ((mahd_8 (at_ + y8_4).toNatClampNeg).toInt)) * (mgai.toInt)) / (100) := by rw [ex15]; exact f14
          refine lv_istore (lv' := [(5, .int x15), (0, .ref (b 39)), (1, .int ro), (2, .int at_), (3, .int y8_3), (4, .int y8_4)]) hx hb dX10_goWalk_55 hl (by decide) rfl (fun ls hl => ?_)
          refine lv_aload_n hx hb dX10_goWalk_57 rfl (lv_at hl 1 rfl) ?_
          refine va_get (D := (dC, dI)) (ci := 10) (v := .ref (b 15)) (C := RX10) (T := TX10) (N := 39) hx hb hts inX10 hown hK hP 0 rfl rfl 15 (by decide) lf50 (fun _ h9 => h9) rfl dX10_goWalk_58 ?_
          refine lv_iload_n hx hb dX10_goWalk_61 rfl (lv_at hl 3 rfl) ?_
          refine lv_iload hx hb dX10_goWalk_62 (lv_at hl 5 rfl) ?_
          refine lv_iadd hx hb dX10_goWalk_64 ?_
          have f16 : (at_ + y8_4).toInt = (at_.toInt) + (y8_4.toInt) := addC rfl rfl (by omega) (by omega)
          refine lv_dup2_11 hx hb dX10_goWalk_65 rfl rfl ?_
          have b17 : vp_in (at_ + y8_4) 240 := inC f16 (by omega) (by omega)
          refine va_iald hx hb hK hP 12 0 rfl rfl b17 dX10_goWalk_66 ?_
          have g18 : 0 ≤ (mahd_8 (at_ + y8_4).toNatClampNeg).toInt ∧ (mahd_8 (at_ + y8_4).toNatClampNeg).toInt ≤ 100 := rg_at r_mahd_8 b17
          refine lv_iload hx hb dX10_goWalk_67 (lv_at hl 0 rfl) ?_
          refine lv_iadd hx hb dX10_goWalk_69 ?_
          have f19 : ((mahd_8 (at_ + y8_4).toNatClampNeg) + x15).toInt = ((mahd_8 (at_ + y8_4).toNatClampNeg).toInt) + (x15.toInt) := addC rfl rfl (by omega) (by omega)
          refine lv_topi (fun x20 ex20 => ?_)
          have ix20 : x20.toInt = ((mahd_8 (at_ + y8_4).toNatClampNeg).toInt) + (x15.toInt) := by rw [ex20]; exact f19
          have b21 : vp_in (at_ + y8_4) 240 := inC f16 (by omega) (by omega)
          have g22 : rg 240 (0) (100) (upd mahd_8 (at_ + y8_4).toNatClampNeg x20) := rg_upd r_mahd_8 rfl (by omega) (by omega)
          refine va_iast hx hb hK hP hD hS 12 0 rfl rfl b21 dX10_goWalk_70 (fun H locs hP hD hS => ?_)
          obtain ⟨mahd_u23, emahd_u23⟩ : ∃ f : Nat → Int32, f = upd mahd_8 (at_ + y8_4).toNatClampNeg x20 := ⟨_, rfl⟩
          have rmahd_u23 : rg 240 (0) (100) mahd_u23 := by rw [emahd_u23]; exact g22
          have hP : va_P (dC, dI) vwCl (wMod cI cZ cQ b mday mdoo mdA mdB mfar mmar mtel mgai mfal mtop mstr mgho mfai mpto mwal mahd_u23 mahf mcho mbes mbyt mtxt mpos mtka mtok mdig mnum mfau mrdm mrea mlin mlne mthg mord mbor mbsm mans mand manr mali) H := by rw [emahd_u23]; exact hP
          have hD : va_D A (wMod cI cZ cQ b mday mdoo mdA mdB mfar mmar mtel mgai mfal mtop mstr mgho mfai mpto mwal mahd_u23 mahf mcho mbes mbyt mtxt mpos mtka mtok mdig mnum mfau mrdm mrea mlin mlne mthg mord mbor mbsm mans mand manr mali) := by rw [emahd_u23]; exact hD
          refine lv_iload_n hx hb dX10_goWalk_71 rfl (lv_at hl 4 rfl) ?_
          refine lv_iload hx hb dX10_goWalk_72 (lv_at hl 0 rfl) ?_
          refine lv_iadd hx hb dX10_goWalk_74 ?_
          have f24 : (y8_3 + x15).toInt = (y8_3.toInt) + (x15.toInt) := addC rfl rfl (by omega) (by omega)
          refine lv_topi (fun x25 ex25 => ?_)
          have ix25 : x25.toInt = (y8_3.toInt) + (x15.toInt) := by rw [ex25]; exact f24
          refine lv_istore_n (lv' := [(3, .int x25), (5, .int x15), (0, .ref (b 39)), (1, .int ro), (2, .int at_), (4, .int y8_4)]) hx hb dX10_goWalk_75 rfl hl (by decide) rfl (fun ls hl => ?_)
          obtain ⟨z26, ez26⟩ : ∃ y : Int32, y = y8_4 + 1 := ⟨_, rfl⟩
          have iz26 : z26.toInt = y8_4.toInt + 1 := by rw [ez26]; exact addC rfl rfl (by omega) (by omega)
          refine lv_iinc (v := z26) (lv' := [(4, .int z26), (3, .int x25), (5, .int x15), (0, .ref (b 39)), (1, .int ro), (2, .int at_)]) hx hb dX10_goWalk_76 hl (k := 5) rfl (by rw [ez26]; rfl) (by decide) rfl (fun ls hl => ?_)
          refine lv_goto (tgt := 8) hx hb dX10_goWalk_79 (by decide) ?_
          exact ih8 x25 z26 mahd_u23 _ _ _ rmahd_u23 (by omega) (by omega) (by omega) (by omega) (by omega) (by omega) (by (first | exact gw_step i8_6 (by omega) (by omega) (by omega) (by omega) (by omega) (by assumption) (by assumption) (by first | exact it_pos (by assumption) (by first | rfl | omega) | exact it_neg (by assumption) (by assumption)) (by omega) (by omega) (by omega) | exact gw_init (by omega) (by first | rfl | omega))) (by omega) hP hD hS (lv_sub hl [3, 4, 5, 1, 0] rfl)
        · have dc8 : (mtop y8_4.toNatClampNeg).toInt = (-1) := eqC rfl (show ((-1) : Int32).toInt = (-1) from rfl) c8
          refine lv_iconst (v := 0) hx hb dX10_goWalk_31 (by decide) ?_
          refine lv_goto (tgt := 55) hx hb dX10_goWalk_32 (by decide) ?_
          refine lv_istore (lv' := [(5, .int 0), (0, .ref (b 39)), (1, .int ro), (2, .int at_), (3, .int y8_3), (4, .int y8_4)]) hx hb dX10_goWalk_55 hl (by decide) rfl (fun ls hl => ?_)
          refine lv_aload_n hx hb dX10_goWalk_57 rfl (lv_at hl 1 rfl) ?_
          refine va_get (D := (dC, dI)) (ci := 10) (v := .ref (b 15)) (C := RX10) (T := TX10) (N := 39) hx hb hts inX10 hown hK hP 0 rfl rfl 15 (by decide) lf50 (fun _ h9 => h9) rfl dX10_goWalk_58 ?_
          refine lv_iload_n hx hb dX10_goWalk_61 rfl (lv_at hl 3 rfl) ?_
          refine lv_iload hx hb dX10_goWalk_62 (lv_at hl 5 rfl) ?_
          refine lv_iadd hx hb dX10_goWalk_64 ?_
          have f27 : (at_ + y8_4).toInt = (at_.toInt) + (y8_4.toInt) := addC rfl rfl (by omega) (by omega)
          refine lv_dup2_11 hx hb dX10_goWalk_65 rfl rfl ?_
          have b28 : vp_in (at_ + y8_4) 240 := inC f27 (by omega) (by omega)
          refine va_iald hx hb hK hP 12 0 rfl rfl b28 dX10_goWalk_66 ?_
          have g29 : 0 ≤ (mahd_8 (at_ + y8_4).toNatClampNeg).toInt ∧ (mahd_8 (at_ + y8_4).toNatClampNeg).toInt ≤ 100 := rg_at r_mahd_8 b28
          refine lv_iload hx hb dX10_goWalk_67 (lv_at hl 0 rfl) ?_
          refine lv_iadd hx hb dX10_goWalk_69 ?_
          have f30 : ((mahd_8 (at_ + y8_4).toNatClampNeg) + 0).toInt = ((mahd_8 (at_ + y8_4).toNatClampNeg).toInt) + (0) := addC rfl (show (0 : Int32).toInt = 0 from rfl) (by omega) (by omega)
          refine lv_topi (fun x31 ex31 => ?_)
          have ix31 : x31.toInt = ((mahd_8 (at_ + y8_4).toNatClampNeg).toInt) + (0) := by rw [ex31]; exact f30
          have b32 : vp_in (at_ + y8_4) 240 := inC f27 (by omega) (by omega)
          have g33 : rg 240 (0) (100) (upd mahd_8 (at_ + y8_4).toNatClampNeg x31) := rg_upd r_mahd_8 rfl (by omega) (by omega)
          refine va_iast hx hb hK hP hD hS 12 0 rfl rfl b32 dX10_goWalk_70 (fun H locs hP hD hS => ?_)
          obtain ⟨mahd_u34, emahd_u34⟩ : ∃ f : Nat → Int32, f = upd mahd_8 (at_ + y8_4).toNatClampNeg x31 := ⟨_, rfl⟩
          have rmahd_u34 : rg 240 (0) (100) mahd_u34 := by rw [emahd_u34]; exact g33
          have hP : va_P (dC, dI) vwCl (wMod cI cZ cQ b mday mdoo mdA mdB mfar mmar mtel mgai mfal mtop mstr mgho mfai mpto mwal mahd_u34 mahf mcho mbes mbyt mtxt mpos mtka mtok mdig mnum mfau mrdm mrea mlin mlne mthg mord mbor mbsm mans mand manr mali) H := by rw [emahd_u34]; exact hP
          have hD : va_D A (wMod cI cZ cQ b mday mdoo mdA mdB mfar mmar mtel mgai mfal mtop mstr mgho mfai mpto mwal mahd_u34 mahf mcho mbes mbyt mtxt mpos mtka mtok mdig mnum mfau mrdm mrea mlin mlne mthg mord mbor mbsm mans mand manr mali) := by rw [emahd_u34]; exact hD
          refine lv_iload_n hx hb dX10_goWalk_71 rfl (lv_at hl 4 rfl) ?_
          refine lv_iload hx hb dX10_goWalk_72 (lv_at hl 0 rfl) ?_
          refine lv_iadd hx hb dX10_goWalk_74 ?_
          have f35 : (y8_3 + 0).toInt = (y8_3.toInt) + (0) := addC rfl (show (0 : Int32).toInt = 0 from rfl) (by omega) (by omega)
          refine lv_topi (fun x36 ex36 => ?_)
          have ix36 : x36.toInt = (y8_3.toInt) + (0) := by rw [ex36]; exact f35
          refine lv_istore_n (lv' := [(3, .int x36), (5, .int 0), (0, .ref (b 39)), (1, .int ro), (2, .int at_), (4, .int y8_4)]) hx hb dX10_goWalk_75 rfl hl (by decide) rfl (fun ls hl => ?_)
          obtain ⟨z37, ez37⟩ : ∃ y : Int32, y = y8_4 + 1 := ⟨_, rfl⟩
          have iz37 : z37.toInt = y8_4.toInt + 1 := by rw [ez37]; exact addC rfl rfl (by omega) (by omega)
          refine lv_iinc (v := z37) (lv' := [(4, .int z37), (3, .int x36), (5, .int 0), (0, .ref (b 39)), (1, .int ro), (2, .int at_)]) hx hb dX10_goWalk_76 hl (k := 5) rfl (by rw [ez37]; rfl) (by decide) rfl (fun ls hl => ?_)
          refine lv_goto (tgt := 8) hx hb dX10_goWalk_79 (by decide) ?_
          exact ih8 x36 z37 mahd_u34 _ _ _ rmahd_u34 (by omega) (by omega) (by omega) (by omega) (by omega) (by omega) (by (first | exact gw_step i8_6 (by omega) (by omega) (by omega) (by omega) (by omega) (by assumption) (by assumption) (by first | exact it_pos (by assumption) (by first | rfl | omega) | exact it_neg (by assumption) (by assumption)) (by omega) (by omega) (by omega) | exact gw_init (by omega) (by first | rfl | omega))) (by omega) hP hD hS (lv_sub hl [3, 4, 5, 1, 0] rfl)
  have kc38 : (0 : Int32).toInt = 0 := rfl
  exact L8 _ 0 x2 mahd _ _ _ r_mahd (by omega) (by omega) (by omega) (by omega) (by omega) (by omega) (by (first | exact gw_init (by omega) (by first | rfl | omega) | exact gw_step i8_6 (by omega) (by omega) (by omega) (by omega) (by omega) (by assumption) (by assumption) (by first | exact it_pos (by assumption) (by first | rfl | omega) | exact it_neg (by assumption) (by assumption)) (by omega) (by omega) (by omega))) (Nat.lt_succ_self _) hP hD hS (lv_sub hl [2, 3, 4, 1, 0] rfl)
set_option maxHeartbeats 4000000 in
set_option maxRecDepth 100000 in
theorem k_X10_walk2 (l : Launch) (dC : Nat → ClassId) (dI : Nat → Nat → Nat) (cI cZ cQ : ClassId) (b : Nat → Nat) (mday : Int32) (mdoo : Int32) (mdA : Nat → Int32) (mdB : Nat → Int32) (mfar : Nat → Int32) (mmar : Nat → Int32) (mtel : Int32) (mgai : Int32) (mfal : Nat → Int32) (mtop : Nat → Int32) (mstr : Nat → Int32) (mgho : Nat → Int32) (mfai : Nat → Int32) (mpto : Nat → Int32) (mwal : Nat → Int32) (mahd : Nat → Int32) (mahf : Nat → Int32) (mcho : Nat → Int32) (mbes : Nat → Int32) (mbyt : Int32) (mtxt : Nat → Int32) (mpos : Int32) (mtka : Int32) (mtok : Int64) (mdig : Int32) (mnum : Int32) (mfau : Int32) (mrdm : Int32) (mrea : Nat → Int32) (mlin : Int32) (mlne : Nat → Int32) (mthg : Nat → Int32) (mord : Nat → Int32) (mbor : Nat → Int32) (mbsm : Int32) (mans : Nat → Int32) (mand : Nat → Int32) (manr : Nat → Int32) (mali : Nat → Int32) (sz : Nat) (ro : Int32) (r_mday : 0 ≤ mday.toInt ∧ mday.toInt ≤ 400) (r_mdoo : 0 ≤ mdoo.toInt ∧ mdoo.toInt ≤ 14) (r_mdA : rg 14 (0) (7) mdA) (r_mdB : rg 14 (0) (7) mdB) (r_mmar : rg 24 (0) (255) mmar) (r_mgai : 0 ≤ mgai.toInt ∧ mgai.toInt ≤ 100) (r_mfal : rg 11 (0) (30) mfal) (r_mtop : rg 48 (-1) (23) mtop) (r_mstr : rg 48 (0) (100) mstr) (r_mgho : rg 48 (-1) (23) mgho) (r_mfai : rg 48 (0) (100) mfai) (r_mahd : rg 240 (0) (100) mahd) (r_mahf : rg 240 (0) (100) mahf) (r_mcho : rg 5 (-1) (9) mcho) (r_mbyt : 0 ≤ mbyt.toInt ∧ mbyt.toInt ≤ 160) (r_mpos : 0 ≤ mpos.toInt ∧ mpos.toInt ≤ 160) (r_mrdm : 0 ≤ mrdm.toInt ∧ mrdm.toInt ≤ 10) (r_mlin : 0 ≤ mlin.toInt ∧ mlin.toInt ≤ 10) (r_mthg : rg 8 (0) (31) mthg) (r_mord : rg 8 (-1) (8) mord) (r_mans : rg 4 (0) (12) mans) : KW l yX10_walk wsX10_walk { frames := 2, cells := 0, slots := 0, locals := 42 } (dC, dI) (TY cI cZ cQ) (wMod cI cZ cQ b mday mdoo mdA mdB mfar mmar mtel mgai mfal mtop mstr mgho mfai mpto mwal mahd mahf mcho mbes mbyt mtxt mpos mtka mtok mdig mnum mfau mrdm mrea mlin mlne mthg mord mbor mbsm mans mand manr mali) [.ref (b 39), .int ro] sz 0 0 (fun (r : Int32) (u : US) => (spWlkM mtop mstr mwal mgai mday ro r (u.1 2) (u.1 3)) ∧ (rg 240 (0) (100) (u.1 0)) ∧ (rg 240 (0) (100) (u.1 1)) ∧ (rg 48 (0) (100) (u.1 2))) (fun u : US => (wMod cI cZ cQ b mday mdoo mdA mdB mfar mmar mtel mgai mfal mtop (u.1 2) mgho mfai mpto (u.1 3) (u.1 0) (u.1 1) mcho mbes mbyt mtxt mpos mtka mtok mdig mnum mfau mrdm mrea mlin mlne mthg mord mbor mbsm mans mand manr mali)) := by
  refine Met.ofW (cc := cX10_walk) (maxL := 4) (ret := (some .int)) (by decide) rfl ?_
  intro p e s m args below meth c s₁ B hml hv
  obtain ⟨rfl, hsz, hP, hK, hD0, hN⟩ := hv
  have hx := B.exec
  have hb := B.bytes
  have hr := B.returns
  have hts := atoms_spec (ws := wsX10_walk) B.pre
  have hown : s.vm.findClass RX10 = some m.cls := findClass_of_methodNamed B.named
  have hlocks := B.notSynchronized
  have lf47 := hts (.fieldLink RX10 47 "PalaceOfRoomsModel" "walkedOn" "[I") (List.mem_cons_of_mem _ (List.mem_append_left _ (List.mem_of_getElem? (i := 2) rfl)))
  have inX10 : ∀ w ∈ wsX100, w ∈ wsX10_walk := fun w h => List.mem_cons_of_mem _ (List.mem_append_right _ h)
  have lf125 := hts (.fieldLink RX10 125 "PalaceOfRoomsModel" "day" "I") (List.mem_cons_of_mem _ (List.mem_append_left _ (List.mem_of_getElem? (i := 3) rfl)))
  have lf35 := hts (.fieldLink RX10 35 "PalaceOfRoomsModel" "strength" "[I") (List.mem_cons_of_mem _ (List.mem_append_left _ (List.mem_of_getElem? (i := 0) rfl)))
  have lf50 := hts (.fieldLink RX10 50 "PalaceOfRoomsModel" "ahead" "[I") (List.mem_cons_of_mem _ (List.mem_append_left _ (List.mem_of_getElem? (i := 1) rfl)))
  subst hsz
  have hD := hD0.self (sz := s.heap.size)
  generalize hAe : va_A (wMod cI cZ cQ b mday mdoo mdA mdB mfar mmar mtel mgai mfal mtop mstr mgho mfai mpto mwal mahd mahf mcho mbes mbyt mtxt mpos mtka mtok mdig mnum mfau mrdm mrea mlin mlne mthg mord mbor mbsm mans mand manr mali) s.heap.size = A at hD ⊢
  have hA : ∀ q : Nat, s.heap.size ≤ q → A q := fun q h => by rw [← hAe]; exact Or.inr h
  have hS : va_S A s.heap s.heap [] := va_S.rf
  have hl := lv_entry ([.ref (b 39), .int ro]) (n := 4) (Nat.le_of_ble_eq_true rfl)
  rw [lg_entry_eq]
  generalize (lg_sl ([.ref (b 39), .int ro]) ++ List.replicate (4 - (lg_sl ([.ref (b 39), .int ro])).length) Slot.unset).toArray = ls at hl ⊢
  have hl : lv_has ls 4 [(0, .ref (b 39)), (1, .int ro)] := hl
  refine lv_iload_n hx hb dX10_walk_0 rfl (lv_at hl 1 rfl) ?_
  refine rdS (As := [.int ro]) (rest := []) ⟨hx, hb, hml, hown, hts⟩ (k_X10_isRoom l dC dI cI cZ cQ ro) (va_cwS 1 hts gX10_walk_X10_isRoom rfl rfl rfl (by decide +kernel) ⟨Nat.le_of_ble_eq_true rfl, Nat.le_of_ble_eq_true rfl⟩) hP hK hN [] rfl rfl hl.1 rfl (Nat.le_of_ble_eq_true rfl) dX10_walk_1 ⟨Nat.le_of_ble_eq_true rfl, Nat.le_of_ble_eq_true rfl⟩ (fun r1 h2 => ?_)
  have h2 : ((((r1 = 1) ∧ (0 ≤ ro.toInt) ∧ (ro.toInt ≤ 7)) ∨ ((r1 = 0) ∧ (ro.toInt < 0 ∨ 7 < ro.toInt)))) := h2
  rcases h2 with (⟨rfl, h2_a0, h2_a1⟩ | ⟨rfl, h2_a0⟩)
  · refine lv_if_ne (tgt := 10) hx hb dX10_walk_4 (by decide) (fun _ => ?_) (fun c9 => absurd c9 (by decide))
    refine lv_aload_n hx hb dX10_walk_10 rfl (lv_at hl 0 rfl) ?_
    refine wvV (As := []) (rest := []) (wr := []) (w2 := (fun u : US => (wMod cI cZ cQ b mday mdoo mdA mdB mfar mmar mtel mgai mfal mtop mstr mgho mfai mpto mwal (u.1 0) (u.1 1) mcho mbes mbyt mtxt mpos mtka mtok mdig mnum mfau mrdm mrea mlin mlne mthg mord mbor mbsm mans mand manr mali))) ⟨hx, hb, hml, hown, hts⟩ (k_X10_lookAhead2 l dC dI cI cZ cQ b mday mdoo mdA mdB mfar mmar mtel mgai mfal mtop mstr mgho mfai mpto mwal mahd mahf mcho mbes mbyt mtxt mpos mtka mtok mdig mnum mfau mrdm mrea mlin mlne mthg mord mbor mbsm mans mand manr mali _ r_mday r_mdoo r_mdA r_mdB r_mmar r_mgai r_mfal r_mtop r_mstr r_mgho r_mfai r_mahd r_mahf r_mcho r_mbyt r_mpos r_mrdm r_mlin r_mthg r_mord r_mans) (cwV 0 hts gX10_walk_X10_lookAhead rfl rfl rfl (by decide +kernel) ⟨Nat.le_of_ble_eq_true rfl, Nat.le_of_ble_eq_true rfl⟩) hP hD hS hA hK hN [0, 1, 2, 3, 4, 5, 6, 7, 8, 9, 10, 11, 12, 13, 14, 15, 16, 17, 18, 19, 20, 21, 22, 23, 24, 25] [] [0, 1, 2, 3, 4, 5, 6, 7, 8, 9, 10, 11, 12, 13, 14, 15, 16, 17, 18, 19, 20, 21, 22, 23, 24, 25] rfl rfl (by decide) (by decide) (by decide) (fun _ => rfl) (by decide) 0 10 rfl rfl rfl hl.1 rfl (Nat.le_of_ble_eq_true rfl) dX10_walk_11 ⟨Nat.le_of_ble_eq_true rfl, Nat.le_of_ble_eq_true rfl⟩ (fun u5 H locs h4 hP hD hS => ?_)
    obtain ⟨mahd_c6, emahd_c6⟩ : ∃ f : Nat → Int32, f = (u5.1 0) := ⟨_, rfl⟩
    obtain ⟨mahf_c7, emahf_c7⟩ : ∃ f : Nat → Int32, f = (u5.1 1) := ⟨_, rfl⟩
    have hP : va_P (dC, dI) vwCl (wMod cI cZ cQ b mday mdoo mdA mdB mfar mmar mtel mgai mfal mtop mstr mgho mfai mpto mwal mahd_c6 mahf_c7 mcho mbes mbyt mtxt mpos mtka mtok mdig mnum mfau mrdm mrea mlin mlne mthg mord mbor mbsm mans mand manr mali) H := by rw [emahd_c6, emahf_c7]; exact hP
    have hD : va_D A (wMod cI cZ cQ b mday mdoo mdA mdB mfar mmar mtel mgai mfal mtop mstr mgho mfai mpto mwal mahd_c6 mahf_c7 mcho mbes mbyt mtxt mpos mtka mtok mdig mnum mfau mrdm mrea mlin mlne mthg mord mbor mbsm mans mand manr mali) := by rw [emahd_c6, emahf_c7]; exact hD
    have h4 : (laI mtop mstr mgho mfai 48 mahd_c6 mahf_c7) ∧ (rg 240 (0) (100) mahd_c6) ∧ (rg 240 (0) (100) mahf_c7) := by (try rw [emahd_c6]); (try rw [emahf_c7]); exact h4
    obtain ⟨h4_0, h4_1, h4_2⟩ := h4
    refine lv_aload_n hx hb dX10_walk_14 rfl (lv_at hl 0 rfl) ?_
    refine lv_iload_n hx hb dX10_walk_15 rfl (lv_at hl 1 rfl) ?_
    refine lv_iconst (v := 0) hx hb dX10_walk_16 (by decide) ?_
    have kc0 : (0 : Int32).toInt = 0 := rfl
    refine wrV (As := [.int ro, .int 0]) (rest := []) (wr := []) (w2 := (fun u : US => (wMod cI cZ cQ b mday mdoo mdA mdB mfar mmar mtel mgai mfal mtop mstr mgho mfai mpto mwal (u.1 0) mahf_c7 mcho mbes mbyt mtxt mpos mtka mtok mdig mnum mfau mrdm mrea mlin mlne mthg mord mbor mbsm mans mand manr mali))) ⟨hx, hb, hml, hown, hts⟩ (k_X10_goWalk2 l dC dI cI cZ cQ b mday mdoo mdA mdB mfar mmar mtel mgai mfal mtop mstr mgho mfai mpto mwal mahd_c6 mahf_c7 mcho mbes mbyt mtxt mpos mtka mtok mdig mnum mfau mrdm mrea mlin mlne mthg mord mbor mbsm mans mand manr mali _ ro (0 : Int32) r_mday r_mdoo r_mdA r_mdB r_mmar r_mgai r_mfal r_mtop r_mstr r_mgho r_mfai h4_1 h4_2 r_mcho r_mbyt r_mpos r_mrdm r_mlin r_mthg r_mord r_mans (by omega) (by omega) (by omega) (by omega)) (cwV 2 hts gX10_walk_X10_goWalk rfl rfl rfl (by decide +kernel) ⟨Nat.le_of_ble_eq_true rfl, Nat.le_of_ble_eq_true rfl⟩) hP hD hS hA hK hN [0, 1, 2, 3, 4, 5, 6, 7, 8, 9, 10, 11, 12, 13, 14, 15, 16, 17, 18, 19, 20, 21, 22, 23, 24, 25] [] [0, 1, 2, 3, 4, 5, 6, 7, 8, 9, 10, 11, 12, 13, 14, 15, 16, 17, 18, 19, 20, 21, 22, 23, 24, 25] rfl rfl (by decide) (by decide) (by decide) (fun _ => rfl) (by decide) 0 10 rfl rfl rfl hl.1 rfl (Nat.le_of_ble_eq_true rfl) dX10_walk_17 ⟨Nat.le_of_ble_eq_true rfl, Nat.le_of_ble_eq_true rfl⟩ (fun r8 u10 H locs h9 hP hD hS => ?_)
    obtain ⟨mahd_c11, emahd_c11⟩ : ∃ f : Nat → Int32, f = (u10.1 0) := ⟨_, rfl⟩
    have hP : va_P (dC, dI) vwCl (wMod cI cZ cQ b mday mdoo mdA mdB mfar mmar mtel mgai mfal mtop mstr mgho mfai mpto mwal mahd_c11 mahf_c7 mcho mbes mbyt mtxt mpos mtka mtok mdig mnum mfau mrdm mrea mlin mlne mthg mord mbor mbsm mans mand manr mali) H := by rw [emahd_c11]; exact hP
    have hD : va_D A (wMod cI cZ cQ b mday mdoo mdA mdB mfar mmar mtel mgai mfal mtop mstr mgho mfai mpto mwal mahd_c11 mahf_c7 mcho mbes mbyt mtxt mpos mtka mtok mdig mnum mfau mrdm mrea mlin mlne mthg mord mbor mbsm mans mand manr mali) := by rw [emahd_c11]; exact hD
    have h9 : (gwS mtop mgai.toInt (0) (ro.toInt * 6) (ro.toInt * 6 + 6) mahd_c6 mahd_c11 r8.toInt) ∧ (rg 240 (0) (100) mahd_c11) := by (try rw [emahd_c11]); exact h9
    obtain ⟨h9_0, h9_1⟩ := h9
    refine lv_istore_n (lv' := [(2, .int r8), (0, .ref (b 39)), (1, .int ro)]) hx hb dX10_walk_20 rfl hl (by decide) rfl (fun ls hl => ?_)
    refine lv_bipush (v := 6) hx hb dX10_walk_21 (by decide) ?_
    refine lv_iload_n hx hb dX10_walk_23 rfl (lv_at hl 2 rfl) ?_
    refine lv_imul hx hb dX10_walk_24 ?_
    have f12 : (6 * ro).toInt = (6) * (ro.toInt) := mulC (show (6 : Int32).toInt = 6 from rfl) rfl (by omega) (by omega)
    refine lv_topi (fun x13 ex13 => ?_)
    have ix13 : x13.toInt = (6) * (ro.toInt) := by rw [ex13]; exact f12
    refine lv_istore_n (lv' := [(3, .int x13), (2, .int r8), (0, .ref (b 39)), (1, .int ro)]) hx hb dX10_walk_25 rfl hl (by decide) rfl (fun ls hl => ?_)
    have L26 : ∀ (nn : Nat) (y26_3 : Int32) (mstr_26 : Nat → Int32) (H : Heap) (locs : List Loc) (ls : Array Slot), (rg 48 (0) (100) mstr_26) → (0 ≤ (y26_3.toInt)) → ((y26_3.toInt) ≤ 48) → (6 * ro.toInt ≤ (y26_3.toInt)) → ((y26_3.toInt) ≤ 6 * ro.toInt + 6) → (wlI mstr mahd_c11 (6 * ro.toInt) (y26_3.toInt) mstr_26) → (48 - (y26_3.toInt)).toNat < nn → va_P (dC, dI) vwCl (wMod cI cZ cQ b mday mdoo mdA mdB mfar mmar mtel mgai mfal mtop mstr_26 mgho mfai mpto mwal mahd_c11 mahf_c7 mcho mbes mbyt mtxt mpos mtka mtok mdig mnum mfau mrdm mrea mlin mlne mthg mord mbor mbsm mans mand manr mali) H → va_D A (wMod cI cZ cQ b mday mdoo mdA mdB mfar mmar mtel mgai mfal mtop mstr_26 mgho mfai mpto mwal mahd_c11 mahf_c7 mcho mbes mbyt mtxt mpos mtka mtok mdig mnum mfau mrdm mrea mlin mlne mthg mord mbor mbsm mans mand manr mali) → va_S A s.heap H locs → lv_has ls 4 [(0, .ref (b 39)), (1, .int ro), (2, .int r8), (3, .int y26_3)] → W p l e (headSpec wsX10_walk { frames := 2, cells := 0, slots := 0, locals := 42 }).room s m ([.ref (b 39), .int ro] : List Value).toArray below meth c H locs 0 0 (MQ below (va_Qi (fun (r : Int32) (u : US) => (spWlkM mtop mstr mwal mgai mday ro r (u.1 2) (u.1 3)) ∧ (rg 240 (0) (100) (u.1 0)) ∧ (rg 240 (0) (100) (u.1 1)) ∧ (rg 48 (0) (100) (u.1 2))) (Bw (dC, dI) A (fun u : US => (wMod cI cZ cQ b mday mdoo mdA mdB mfar mmar mtel mgai mfal mtop (u.1 2) mgho mfai mpto (u.1 3) (u.1 0) (u.1 1) mcho mbes mbyt mtxt mpos mtka mtok mdig mnum mfau mrdm mrea mlin mlne mthg mord mbor mbsm mans mand manr mali))) A) ([.ref (b 39), .int ro] : List Value).toArray s 0 0 A) (F0 m 26 ls []) := by
      intro nn
      induction nn with
      | zero =>
        intro y26_3 mstr_26 H locs ls r_mstr_26 i26_0 i26_1 i26_2 i26_3 i26_4 hm26
        exact absurd hm26 (Nat.not_lt_zero _)
      | succ nn ih26 =>
        intro y26_3 mstr_26 H locs ls r_mstr_26 i26_0 i26_1 i26_2 i26_3 i26_4 hm26 hP hD hS hl
        refine lv_iload_n hx hb dX10_walk_26 rfl (lv_at hl 3 rfl) ?_
        refine lv_bipush (v := 6) hx hb dX10_walk_27 (by decide) ?_
        refine lv_iload_n hx hb dX10_walk_29 rfl (lv_at hl 1 rfl) ?_
        refine lv_imul hx hb dX10_walk_30 ?_
        have f14 : (6 * ro).toInt = (6) * (ro.toInt) := mulC (show (6 : Int32).toInt = 6 from rfl) rfl (by omega) (by omega)
        refine lv_bipush (v := 6) hx hb dX10_walk_31 (by decide) ?_
        refine lv_iadd hx hb dX10_walk_33 ?_
        have f15 : ((6 * ro) + 6).toInt = ((6) * (ro.toInt)) + (6) := addC f14 (show (6 : Int32).toInt = 6 from rfl) (by omega) (by omega)
        refine lv_icmp_ge (tgt := 55) hx hb dX10_walk_34 (by decide) (fun c16 => ?_) (fun c16 => ?_)
        · have dc16 : ((6) * (ro.toInt)) + (6) ≤ y26_3.toInt := leC f15 rfl c16
          refine lv_aload_n hx hb dX10_walk_55 rfl (lv_at hl 0 rfl) ?_
          refine va_get (D := (dC, dI)) (ci := 10) (v := .ref (b 14)) (C := RX10) (T := TX10) (N := 39) hx hb hts inX10 hown hK hP 0 rfl rfl 14 (by decide) lf47 (fun _ h9 => h9) rfl dX10_walk_56 ?_
          refine lv_iload_n hx hb dX10_walk_59 rfl (lv_at hl 1 rfl) ?_
          refine lv_aload_n hx hb dX10_walk_60 rfl (lv_at hl 0 rfl) ?_
          refine va_get (D := (dC, dI)) (ci := 10) (v := .int mday) (C := RX10) (T := TX10) (N := 39) hx hb hts inX10 hown hK hP 0 rfl rfl 0 (by decide) lf125 (fun _ h9 => h9) rfl dX10_walk_61 ?_
          have b17 : vp_in ro 8 := inC rfl (by omega) (by omega)
          refine va_iast hx hb hK hP hD hS 11 0 rfl rfl b17 dX10_walk_64 (fun H locs hP hD hS => ?_)
          obtain ⟨mwal_u18, emwal_u18⟩ : ∃ f : Nat → Int32, f = upd mwal ro.toNatClampNeg mday := ⟨_, rfl⟩
          have hP : va_P (dC, dI) vwCl (wMod cI cZ cQ b mday mdoo mdA mdB mfar mmar mtel mgai mfal mtop mstr_26 mgho mfai mpto mwal_u18 mahd_c11 mahf_c7 mcho mbes mbyt mtxt mpos mtka mtok mdig mnum mfau mrdm mrea mlin mlne mthg mord mbor mbsm mans mand manr mali) H := by rw [emwal_u18]; exact hP
          have hD : va_D A (wMod cI cZ cQ b mday mdoo mdA mdB mfar mmar mtel mgai mfal mtop mstr_26 mgho mfai mpto mwal_u18 mahd_c11 mahf_c7 mcho mbes mbyt mtxt mpos mtka mtok mdig mnum mfau mrdm mrea mlin mlne mthg mord mbor mbsm mans mand manr mali) := by rw [emwal_u18]; exact hD
          refine lv_iload_n hx hb dX10_walk_65 rfl (lv_at hl 2 rfl) ?_
          exact W.iret (v := r8) hx hb hr (fun tq ht hW => ⟨⟨r8, (uS [mahd_c11, mahf_c7, mstr_26, mwal_u18] 0 (fun _ => 0)), rfl, ⟨(show spWlkM mtop mstr mwal mgai mday ro r8 mstr_26 mwal_u18 from by (first | exact Or.inl ⟨by omega, rfl, rfl, rfl⟩ | exact Or.inr ⟨by omega, wl_end (by assumption) (by omega) (by assumption) (by first | rfl | omega) (by omega) (by omega) (by omega) i26_4 (by omega) (by omega), by first | assumption | rfl⟩)), h9_1, h4_2, r_mstr_26⟩, by rw [ht]; exact hP, hD⟩, hS.F ht⟩) hS.2.2 dX10_walk_66
        · have dc16 : y26_3.toInt < ((6) * (ro.toInt)) + (6) := nleC f15 rfl c16
          refine lv_aload_n hx hb dX10_walk_37 rfl (lv_at hl 0 rfl) ?_
          refine va_get (D := (dC, dI)) (ci := 10) (v := .ref (b 10)) (C := RX10) (T := TX10) (N := 39) hx hb hts inX10 hown hK hP 0 rfl rfl 10 (by decide) lf35 (fun _ h9 => h9) rfl dX10_walk_38 ?_
          refine lv_iload_n hx hb dX10_walk_41 rfl (lv_at hl 3 rfl) ?_
          refine lv_aload_n hx hb dX10_walk_42 rfl (lv_at hl 0 rfl) ?_
          refine va_get (D := (dC, dI)) (ci := 10) (v := .ref (b 15)) (C := RX10) (T := TX10) (N := 39) hx hb hts inX10 hown hK hP 0 rfl rfl 15 (by decide) lf50 (fun _ h9 => h9) rfl dX10_walk_43 ?_
          refine lv_iload_n hx hb dX10_walk_46 rfl (lv_at hl 3 rfl) ?_
          have b19 : vp_in y26_3 240 := inC rfl (by omega) (by omega)
          refine va_iald hx hb hK hP 12 0 rfl rfl b19 dX10_walk_47 ?_
          have g20 : 0 ≤ (mahd_c11 y26_3.toNatClampNeg).toInt ∧ (mahd_c11 y26_3.toNatClampNeg).toInt ≤ 100 := rg_at h9_1 b19
          refine lv_topi (fun x21 ex21 => ?_)
          have ix21 : x21.toInt = (mahd_c11 y26_3.toNatClampNeg).toInt := by rw [ex21]
          have b22 : vp_in y26_3 48 := inC rfl (by omega) (by omega)
          have g23 : rg 48 (0) (100) (upd mstr_26 y26_3.toNatClampNeg x21) := rg_upd r_mstr_26 rfl (by omega) (by omega)
          refine va_iast hx hb hK hP hD hS 7 0 rfl rfl b22 dX10_walk_48 (fun H locs hP hD hS => ?_)
          obtain ⟨mstr_u24, emstr_u24⟩ : ∃ f : Nat → Int32, f = upd mstr_26 y26_3.toNatClampNeg x21 := ⟨_, rfl⟩
          have rmstr_u24 : rg 48 (0) (100) mstr_u24 := by rw [emstr_u24]; exact g23
          have hP : va_P (dC, dI) vwCl (wMod cI cZ cQ b mday mdoo mdA mdB mfar mmar mtel mgai mfal mtop mstr_u24 mgho mfai mpto mwal mahd_c11 mahf_c7 mcho mbes mbyt mtxt mpos mtka mtok mdig mnum mfau mrdm mrea mlin mlne mthg mord mbor mbsm mans mand manr mali) H := by rw [emstr_u24]; exact hP
          have hD : va_D A (wMod cI cZ cQ b mday mdoo mdA mdB mfar mmar mtel mgai mfal mtop mstr_u24 mgho mfai mpto mwal mahd_c11 mahf_c7 mcho mbes mbyt mtxt mpos mtka mtok mdig mnum mfau mrdm mrea mlin mlne mthg mord mbor mbsm mans mand manr mali) := by rw [emstr_u24]; exact hD
          obtain ⟨z25, ez25⟩ : ∃ y : Int32, y = y26_3 + 1 := ⟨_, rfl⟩
          have iz25 : z25.toInt = y26_3.toInt + 1 := by rw [ez25]; exact addC rfl rfl (by omega) (by omega)
          refine lv_iinc (v := z25) (lv' := [(3, .int z25), (0, .ref (b 39)), (1, .int ro), (2, .int r8)]) hx hb dX10_walk_49 hl (k := 3) rfl (by rw [ez25]; rfl) (by decide) rfl (fun ls hl => ?_)
          refine lv_goto (tgt := 26) hx hb dX10_walk_52 (by decide) ?_
          exact ih26 z25 mstr_u24 _ _ _ rmstr_u24 (by omega) (by omega) (by omega) (by omega) (by (first | exact wl_step i26_4 (by assumption) (by assumption) (by omega) (by omega) (by omega) | exact wl_init (by omega))) (by omega) hP hD hS (lv_sub hl [1, 2, 3, 0] rfl)
    exact L26 _ x13 mstr _ _ _ r_mstr (by omega) (by omega) (by omega) (by omega) (by (first | exact wl_init (by omega) | exact wl_step i26_4 (by assumption) (by assumption) (by omega) (by omega) (by omega))) (Nat.lt_succ_self _) hP hD hS (lv_sub hl [2, 3, 1, 0] rfl)
  · refine lv_if_ne (tgt := 10) hx hb dX10_walk_4 (by decide) (fun c9 => absurd (by decide) c9) (fun _ => ?_)
    refine lv_bipush (v := (-2)) hx hb dX10_walk_7 (by decide) ?_
    exact W.iret (v := (-2)) hx hb hr (fun tq ht hW => ⟨⟨(-2), (uS [mahd, mahf, mstr, mwal] 0 (fun _ => 0)), rfl, ⟨(show spWlkM mtop mstr mwal mgai mday ro ((-2) : Int32) mstr mwal from by (try rw [show ((-2) : Int32).toInt = (-2) from (show ((-2) : Int32).toInt = (-2) from rfl)]); (first | exact Or.inl ⟨by omega, rfl, rfl, rfl⟩ | exact Or.inr ⟨by omega, wl_end (by assumption) (by omega) (by assumption) (by first | rfl | omega) (by omega) (by omega) (by omega) i26_4 (by omega) (by omega), by first | assumption | rfl⟩)), r_mahd, r_mahf, r_mstr⟩, by rw [ht]; exact hP, hD⟩, hS.F ht⟩) hS.2.2 dX10_walk_9
end
section
set_option maxHeartbeats 4000000 in
set_option maxRecDepth 100000 in
theorem k_X1_cover3 (l : Launch) (dC : Nat → ClassId) (dI : Nat → Nat → Nat) (cI cZ cQ : ClassId) (a : Nat → Nat) (top : Nat → Int32) (str : Nat → Int32) (gho : Nat → Int32) (ghs : Nat → Int32) (pto : Nat → Int32) (cro : Nat → Int32) (pla : Nat → Int32) (wal : Nat → Int32) (fal : Nat → Int32) (tel : Int32) (gai : Int32) (day : Int32) (mar : Nat → Int32) (sz : Nat) (co : Int32) (th : Int32) (r_top : rg 48 (-1) (23) top) (r_str : rg 48 (0) (100) str) (r_gho : rg 48 (-1) (23) gho) (r_ghs : rg 48 (0) (100) ghs) (r_cro : rg 48 (0) (6) cro) (r_pla : rg 24 (-1) (47) pla) (r_fal : rg 11 (0) (30) fal) (r_gai : 0 ≤ gai.toInt ∧ gai.toInt ≤ 100) (r_day : 0 ≤ day.toInt ∧ day.toInt ≤ 400) (r_mar : rg 24 (0) (255) mar) (q0 : 0 ≤ co.toInt) (q1 : co.toInt ≤ 47) (q2 : 0 ≤ th.toInt) (q3 : th.toInt ≤ 23) : KV l yX1_cover wsX1_cover { frames := 0, cells := 0, slots := 0, locals := 0 } (dC, dI) (TY cI cZ cQ) (wCor cI cZ cQ a top str gho ghs pto cro pla wal fal tel gai day mar) [.ref (a 4), .int co, .int th] sz 0 0 (fun (u : US) => ((u.1 0) = upd top co.toNatClampNeg th) ∧ ((top co.toNatClampNeg = -1 ∧ (u.1 5) = upd pla th.toNatClampNeg co) ∨ (top co.toNatClampNeg ≠ -1 ∧ (u.1 5) = upd (upd pla (top co.toNatClampNeg).toNatClampNeg (-1)) th.toNatClampNeg co)) ∧ (cvC top str gho ghs pto day co (u.1 1) (u.1 2) (u.1 3) (u.1 4)) ∧ (rg 48 (-1) (23) (u.1 0)) ∧ (rg 48 (0) (100) (u.1 1)) ∧ (rg 48 (-1) (23) (u.1 2)) ∧ (rg 48 (0) (100) (u.1 3)) ∧ (rg 24 (-1) (47) (u.1 5))) (fun u : US => (wCor cI cZ cQ a (u.1 0) (u.1 1) (u.1 2) (u.1 3) (u.1 4) cro (u.1 5) wal fal tel gai day mar)) := by
  refine Met.ofW (cc := cX1_cover) (maxL := 4) (ret := none) (by decide) rfl ?_
  intro p e s m args below meth c s₁ B hml hv
  obtain ⟨rfl, hsz, hP, hK, hD0, hN⟩ := hv
  have hx := B.exec
  have hb := B.bytes
  have hr := B.returns
  have hts := atoms_spec (ws := wsX1_cover) B.pre
  have hown : s.vm.findClass RX1 = some m.cls := findClass_of_methodNamed B.named
  have hlocks := B.notSynchronized
  have lf9 := hts (.fieldLink RX1 9 "PalaceOfRooms$Corners" "top" "[I") (List.mem_cons_of_mem _ (List.mem_append_left _ (List.mem_of_getElem? (i := 0) rfl)))
  have inX1 : ∀ w ∈ wsX10, w ∈ wsX1_cover := fun w h => List.mem_cons_of_mem _ (List.mem_append_right _ h)
  have lf15 := hts (.fieldLink RX1 15 "PalaceOfRooms$Corners" "strength" "[I") (List.mem_cons_of_mem _ (List.mem_append_left _ (List.mem_of_getElem? (i := 3) rfl)))
  have lf24 := hts (.fieldLink RX1 24 "PalaceOfRooms$Corners" "putOn" "[I") (List.mem_cons_of_mem _ (List.mem_append_left _ (List.mem_of_getElem? (i := 5) rfl)))
  have lf62 := hts (.fieldLink RX1 62 "PalaceOfRooms$Corners" "day" "I") (List.mem_cons_of_mem _ (List.mem_append_left _ (List.mem_of_getElem? (i := 6) rfl)))
  have lf30 := hts (.fieldLink RX1 30 "PalaceOfRooms$Corners" "placeOf" "[I") (List.mem_cons_of_mem _ (List.mem_append_left _ (List.mem_of_getElem? (i := 1) rfl)))
  have lf18 := hts (.fieldLink RX1 18 "PalaceOfRooms$Corners" "ghost" "[I") (List.mem_cons_of_mem _ (List.mem_append_left _ (List.mem_of_getElem? (i := 2) rfl)))
  have lf21 := hts (.fieldLink RX1 21 "PalaceOfRooms$Corners" "ghostStrength" "[I") (List.mem_cons_of_mem _ (List.mem_append_left _ (List.mem_of_getElem? (i := 4) rfl)))
  subst hsz
  have hD := hD0.self (sz := s.heap.size)
  generalize hAe : va_A (wCor cI cZ cQ a top str gho ghs pto cro pla wal fal tel gai day mar) s.heap.size = A at hD ⊢
  have hA : ∀ q : Nat, s.heap.size ≤ q → A q := fun q h => by rw [← hAe]; exact Or.inr h
  have hS : va_S A s.heap s.heap [] := va_S.rf
  have hl := lv_entry ([.ref (a 4), .int co, .int th]) (n := 4) (Nat.le_of_ble_eq_true rfl)
  rw [lg_entry_eq]
  generalize (lg_sl ([.ref (a 4), .int co, .int th]) ++ List.replicate (4 - (lg_sl ([.ref (a 4), .int co, .int th])).length) Slot.unset).toArray = ls at hl ⊢
  have hl : lv_has ls 4 [(0, .ref (a 4)), (1, .int co), (2, .int th)] := hl
  refine lv_aload_n hx hb dX1_cover_0 rfl (lv_at hl 0 rfl) ?_
  refine va_get (D := (dC, dI)) (ci := 1) (v := .ref (a 5)) (C := RX1) (T := TX1) (N := 13) hx hb hts inX1 hown hK hP 0 rfl rfl 1 (by decide) lf9 (fun _ h9 => h9) rfl dX1_cover_1 ?_
  refine lv_iload_n hx hb dX1_cover_4 rfl (lv_at hl 1 rfl) ?_
  have b1 : vp_in co 48 := inC rfl (by omega) (by omega)
  refine va_iald hx hb hK hP 1 0 rfl rfl b1 dX1_cover_5 ?_
  have g2 : -1 ≤ (top co.toNatClampNeg).toInt ∧ (top co.toNatClampNeg).toInt ≤ 23 := rg_at r_top b1
  refine lv_topi (fun x3 ex3 => ?_)
  have ix3 : x3.toInt = (top co.toNatClampNeg).toInt := by rw [ex3]
  refine lv_istore_n (lv' := [(3, .int x3), (0, .ref (a 4)), (1, .int co), (2, .int th)]) hx hb dX1_cover_6 rfl hl (by decide) rfl (fun ls hl => ?_)
  refine lv_iload_n hx hb dX1_cover_7 rfl (lv_at hl 0 rfl) ?_
  refine lv_iconst (v := (-1)) hx hb dX1_cover_8 (by decide) ?_
  refine lv_icmp_eq (tgt := 51) hx hb dX1_cover_9 (by decide) (fun c4 => ?_) (fun c4 => ?_)
  · have dc4 : x3.toInt = (-1) := eqC rfl (show ((-1) : Int32).toInt = (-1) from rfl) c4
    refine lv_aload_n hx hb dX1_cover_51 rfl (lv_at hl 1 rfl) ?_
    refine va_get (D := (dC, dI)) (ci := 1) (v := .ref (a 5)) (C := RX1) (T := TX1) (N := 13) hx hb hts inX1 hown hK hP 0 rfl rfl 1 (by decide) lf9 (fun _ h9 => h9) rfl dX1_cover_52 ?_
    refine lv_iload_n hx hb dX1_cover_55 rfl (lv_at hl 2 rfl) ?_
    refine lv_iload_n hx hb dX1_cover_56 rfl (lv_at hl 3 rfl) ?_
    have b5 : vp_in co 48 := inC rfl (by omega) (by omega)
    have g6 : rg 48 (-1) (23) (upd top co.toNatClampNeg th) := rg_upd r_top rfl (by omega) (by omega)
    refine va_iast hx hb hK hP hD hS 1 0 rfl rfl b5 dX1_cover_57 (fun H locs hP hD hS => ?_)
    obtain ⟨top_u7, etop_u7⟩ : ∃ f : Nat → Int32, f = upd top co.toNatClampNeg th := ⟨_, rfl⟩
    have rtop_u7 : rg 48 (-1) (23) top_u7 := by rw [etop_u7]; exact g6
    have hP : va_P (dC, dI) vwCl (wCor cI cZ cQ a top_u7 str gho ghs pto cro pla wal fal tel gai day mar) H := by rw [etop_u7]; exact hP
    have hD : va_D A (wCor cI cZ cQ a top_u7 str gho ghs pto cro pla wal fal tel gai day mar) := by rw [etop_u7]; exact hD
    refine lv_aload_n hx hb dX1_cover_58 rfl (lv_at hl 1 rfl) ?_
    refine va_get (D := (dC, dI)) (ci := 1) (v := .ref (a 6)) (C := RX1) (T := TX1) (N := 13) hx hb hts inX1 hown hK hP 0 rfl rfl 2 (by decide) lf15 (fun _ h9 => h9) rfl dX1_cover_59 ?_
    refine lv_iload_n hx hb dX1_cover_62 rfl (lv_at hl 2 rfl) ?_
    refine lv_bipush (v := 100) hx hb dX1_cover_63 (by decide) ?_
    have b8 : vp_in co 48 := inC rfl (by omega) (by omega)
    have g9 : rg 48 (0) (100) (upd str co.toNatClampNeg 100) := rg_upd r_str (show (100 : Int32).toInt = 100 from rfl) (by omega) (by omega)
    refine va_iast hx hb hK hP hD hS 2 0 rfl rfl b8 dX1_cover_65 (fun H locs hP hD hS => ?_)
    obtain ⟨str_u10, estr_u10⟩ : ∃ f : Nat → Int32, f = upd str co.toNatClampNeg 100 := ⟨_, rfl⟩
    have rstr_u10 : rg 48 (0) (100) str_u10 := by rw [estr_u10]; exact g9
    have hP : va_P (dC, dI) vwCl (wCor cI cZ cQ a top_u7 str_u10 gho ghs pto cro pla wal fal tel gai day mar) H := by rw [estr_u10]; exact hP
    have hD : va_D A (wCor cI cZ cQ a top_u7 str_u10 gho ghs pto cro pla wal fal tel gai day mar) := by rw [estr_u10]; exact hD
    refine lv_aload_n hx hb dX1_cover_66 rfl (lv_at hl 1 rfl) ?_
    refine va_get (D := (dC, dI)) (ci := 1) (v := .ref (a 9)) (C := RX1) (T := TX1) (N := 13) hx hb hts inX1 hown hK hP 0 rfl rfl 5 (by decide) lf24 (fun _ h9 => h9) rfl dX1_cover_67 ?_
    refine lv_iload_n hx hb dX1_cover_70 rfl (lv_at hl 2 rfl) ?_
    refine lv_aload_n hx hb dX1_cover_71 rfl (lv_at hl 1 rfl) ?_
    refine va_get (D := (dC, dI)) (ci := 1) (v := .int day) (C := RX1) (T := TX1) (N := 13) hx hb hts inX1 hown hK hP 0 rfl rfl 12 (by decide) lf62 (fun _ h9 => h9) rfl dX1_cover_72 ?_
    have b11 : vp_in co 48 := inC rfl (by omega) (by omega)
    refine va_iast hx hb hK hP hD hS 5 0 rfl rfl b11 dX1_cover_75 (fun H locs hP hD hS => ?_)
    obtain ⟨pto_u12, epto_u12⟩ : ∃ f : Nat → Int32, f = upd pto co.toNatClampNeg day := ⟨_, rfl⟩
    have hP : va_P (dC, dI) vwCl (wCor cI cZ cQ a top_u7 str_u10 gho ghs pto_u12 cro pla wal fal tel gai day mar) H := by rw [epto_u12]; exact hP
    have hD : va_D A (wCor cI cZ cQ a top_u7 str_u10 gho ghs pto_u12 cro pla wal fal tel gai day mar) := by rw [epto_u12]; exact hD
    refine lv_aload_n hx hb dX1_cover_76 rfl (lv_at hl 1 rfl) ?_
    refine va_get (D := (dC, dI)) (ci := 1) (v := .ref (a 11)) (C := RX1) (T := TX1) (N := 13) hx hb hts inX1 hown hK hP 0 rfl rfl 7 (by decide) lf30 (fun _ h9 => h9) rfl dX1_cover_77 ?_
    refine lv_iload_n hx hb dX1_cover_80 rfl (lv_at hl 3 rfl) ?_
    refine lv_iload_n hx hb dX1_cover_81 rfl (lv_at hl 2 rfl) ?_
    have b13 : vp_in th 24 := inC rfl (by omega) (by omega)
    have g14 : rg 24 (-1) (47) (upd pla th.toNatClampNeg co) := rg_upd r_pla rfl (by omega) (by omega)
    refine va_iast hx hb hK hP hD hS 7 0 rfl rfl b13 dX1_cover_82 (fun H locs hP hD hS => ?_)
    obtain ⟨pla_u15, epla_u15⟩ : ∃ f : Nat → Int32, f = upd pla th.toNatClampNeg co := ⟨_, rfl⟩
    have rpla_u15 : rg 24 (-1) (47) pla_u15 := by rw [epla_u15]; exact g14
    have hP : va_P (dC, dI) vwCl (wCor cI cZ cQ a top_u7 str_u10 gho ghs pto_u12 cro pla_u15 wal fal tel gai day mar) H := by rw [epla_u15]; exact hP
    have hD : va_D A (wCor cI cZ cQ a top_u7 str_u10 gho ghs pto_u12 cro pla_u15 wal fal tel gai day mar) := by rw [epla_u15]; exact hD
    exact W.vret hx hb hr (fun tq ht hW => ⟨⟨(uS [top_u7, str_u10, gho, ghs, pto_u12, pla_u15] 0 (fun _ => 0)), rfl, ⟨(show top_u7 = upd top co.toNatClampNeg th from by (subst_vars; rfl)), (show (top co.toNatClampNeg = -1 ∧ pla_u15 = upd pla th.toNatClampNeg co) ∨ (top co.toNatClampNeg ≠ -1 ∧ pla_u15 = upd (upd pla (top co.toNatClampNeg).toNatClampNeg (-1)) th.toNatClampNeg co) from by (subst_vars; first | exact Or.inl ⟨by (first | assumption | exact Eq.symm (by assumption)), rfl⟩ | exact Or.inr ⟨by (first | assumption | exact Eq.symm (by assumption)), rfl⟩)), (show cvC top str gho ghs pto day co str_u10 gho ghs pto_u12 from by (subst_vars; refine ⟨rfl, rfl, ?_⟩; first | exact Or.inl ⟨by (first | assumption | exact Eq.symm (by assumption)), rfl, rfl⟩ | exact Or.inr (Or.inl ⟨by (first | assumption | exact Eq.symm (by assumption)), by omega, rfl, rfl⟩) | exact Or.inr (Or.inr ⟨by (first | assumption | exact Eq.symm (by assumption)), by omega, rfl, rfl⟩))), rtop_u7, rstr_u10, r_gho, r_ghs, rpla_u15⟩, by rw [ht]; exact hP, hD⟩, hS.F ht⟩) hS.2.2 dX1_cover_83
  · have dc4 : 0 ≤ x3.toInt := ka_lo (by omega) (neC rfl (show ((-1) : Int32).toInt = (-1) from rfl) c4)
    refine lv_aload_n hx hb dX1_cover_12 rfl (lv_at hl 1 rfl) ?_
    refine va_get (D := (dC, dI)) (ci := 1) (v := .ref (a 11)) (C := RX1) (T := TX1) (N := 13) hx hb hts inX1 hown hK hP 0 rfl rfl 7 (by decide) lf30 (fun _ h9 => h9) rfl dX1_cover_13 ?_
    refine lv_iload_n hx hb dX1_cover_16 rfl (lv_at hl 0 rfl) ?_
    refine lv_iconst (v := (-1)) hx hb dX1_cover_17 (by decide) ?_
    have b16 : vp_in x3 24 := inC rfl (by omega) (by omega)
    have g17 : rg 24 (-1) (47) (upd pla x3.toNatClampNeg (-1)) := rg_upd r_pla (show ((-1) : Int32).toInt = (-1) from rfl) (by omega) (by omega)
    refine va_iast hx hb hK hP hD hS 7 0 rfl rfl b16 dX1_cover_18 (fun H locs hP hD hS => ?_)
    obtain ⟨pla_u18, epla_u18⟩ : ∃ f : Nat → Int32, f = upd pla x3.toNatClampNeg (-1) := ⟨_, rfl⟩
    have rpla_u18 : rg 24 (-1) (47) pla_u18 := by rw [epla_u18]; exact g17
    have hP : va_P (dC, dI) vwCl (wCor cI cZ cQ a top str gho ghs pto cro pla_u18 wal fal tel gai day mar) H := by rw [epla_u18]; exact hP
    have hD : va_D A (wCor cI cZ cQ a top str gho ghs pto cro pla_u18 wal fal tel gai day mar) := by rw [epla_u18]; exact hD
    refine lv_aload_n hx hb dX1_cover_19 rfl (lv_at hl 1 rfl) ?_
    refine va_get (D := (dC, dI)) (ci := 1) (v := .ref (a 7)) (C := RX1) (T := TX1) (N := 13) hx hb hts inX1 hown hK hP 0 rfl rfl 3 (by decide) lf18 (fun _ h9 => h9) rfl dX1_cover_20 ?_
    refine lv_iload_n hx hb dX1_cover_23 rfl (lv_at hl 2 rfl) ?_
    refine lv_aload_n hx hb dX1_cover_24 rfl (lv_at hl 1 rfl) ?_
    refine va_get (D := (dC, dI)) (ci := 1) (v := .ref (a 6)) (C := RX1) (T := TX1) (N := 13) hx hb hts inX1 hown hK hP 0 rfl rfl 2 (by decide) lf15 (fun _ h9 => h9) rfl dX1_cover_25 ?_
    refine lv_iload_n hx hb dX1_cover_28 rfl (lv_at hl 2 rfl) ?_
    have b19 : vp_in co 48 := inC rfl (by omega) (by omega)
    refine va_iald hx hb hK hP 2 0 rfl rfl b19 dX1_cover_29 ?_
    have g20 : 0 ≤ (str co.toNatClampNeg).toInt ∧ (str co.toNatClampNeg).toInt ≤ 100 := rg_at r_str b19
    refine lv_if_le (tgt := 37) hx hb dX1_cover_30 (by decide) (fun c21 => ?_) (fun c21 => ?_)
    · have dc21 : (str co.toNatClampNeg).toInt ≤ 0 := leC rfl (show (0 : Int32).toInt = 0 from rfl) c21
      refine lv_iconst (v := (-1)) hx hb dX1_cover_37 (by decide) ?_
      have b22 : vp_in co 48 := inC rfl (by omega) (by omega)
      have g23 : rg 48 (-1) (23) (upd gho co.toNatClampNeg (-1)) := rg_upd r_gho (show ((-1) : Int32).toInt = (-1) from rfl) (by omega) (by omega)
      refine va_iast hx hb hK hP hD hS 3 0 rfl rfl b22 dX1_cover_38 (fun H locs hP hD hS => ?_)
      obtain ⟨gho_u24, egho_u24⟩ : ∃ f : Nat → Int32, f = upd gho co.toNatClampNeg (-1) := ⟨_, rfl⟩
      have rgho_u24 : rg 48 (-1) (23) gho_u24 := by rw [egho_u24]; exact g23
      have hP : va_P (dC, dI) vwCl (wCor cI cZ cQ a top str gho_u24 ghs pto cro pla_u18 wal fal tel gai day mar) H := by rw [egho_u24]; exact hP
      have hD : va_D A (wCor cI cZ cQ a top str gho_u24 ghs pto cro pla_u18 wal fal tel gai day mar) := by rw [egho_u24]; exact hD
      refine lv_aload_n hx hb dX1_cover_39 rfl (lv_at hl 1 rfl) ?_
      refine va_get (D := (dC, dI)) (ci := 1) (v := .ref (a 8)) (C := RX1) (T := TX1) (N := 13) hx hb hts inX1 hown hK hP 0 rfl rfl 4 (by decide) lf21 (fun _ h9 => h9) rfl dX1_cover_40 ?_
      refine lv_iload_n hx hb dX1_cover_43 rfl (lv_at hl 2 rfl) ?_
      refine lv_aload_n hx hb dX1_cover_44 rfl (lv_at hl 1 rfl) ?_
      refine va_get (D := (dC, dI)) (ci := 1) (v := .ref (a 6)) (C := RX1) (T := TX1) (N := 13) hx hb hts inX1 hown hK hP 0 rfl rfl 2 (by decide) lf15 (fun _ h9 => h9) rfl dX1_cover_45 ?_
      refine lv_iload_n hx hb dX1_cover_48 rfl (lv_at hl 2 rfl) ?_
      have b25 : vp_in co 48 := inC rfl (by omega) (by omega)
      refine va_iald hx hb hK hP 2 0 rfl rfl b25 dX1_cover_49 ?_
      have g26 : 0 ≤ (str co.toNatClampNeg).toInt ∧ (str co.toNatClampNeg).toInt ≤ 100 := rg_at r_str b25
      refine lv_topi (fun x27 ex27 => ?_)
      have ix27 : x27.toInt = (str co.toNatClampNeg).toInt := by rw [ex27]
      have b28 : vp_in co 48 := inC rfl (by omega) (by omega)
      have g29 : rg 48 (0) (100) (upd ghs co.toNatClampNeg x27) := rg_upd r_ghs rfl (by omega) (by omega)
      refine va_iast hx hb hK hP hD hS 4 0 rfl rfl b28 dX1_cover_50 (fun H locs hP hD hS => ?_)
      obtain ⟨ghs_u30, eghs_u30⟩ : ∃ f : Nat → Int32, f = upd ghs co.toNatClampNeg x27 := ⟨_, rfl⟩
      have rghs_u30 : rg 48 (0) (100) ghs_u30 := by rw [eghs_u30]; exact g29
      have hP : va_P (dC, dI) vwCl (wCor cI cZ cQ a top str gho_u24 ghs_u30 pto cro pla_u18 wal fal tel gai day mar) H := by rw [eghs_u30]; exact hP
      have hD : va_D A (wCor cI cZ cQ a top str gho_u24 ghs_u30 pto cro pla_u18 wal fal tel gai day mar) := by rw [eghs_u30]; exact hD
      refine lv_aload_n hx hb dX1_cover_51 rfl (lv_at hl 1 rfl) ?_
      refine va_get (D := (dC, dI)) (ci := 1) (v := .ref (a 5)) (C := RX1) (T := TX1) (N := 13) hx hb hts inX1 hown hK hP 0 rfl rfl 1 (by decide) lf9 (fun _ h9 => h9) rfl dX1_cover_52 ?_
      refine lv_iload_n hx hb dX1_cover_55 rfl (lv_at hl 2 rfl) ?_
      refine lv_iload_n hx hb dX1_cover_56 rfl (lv_at hl 3 rfl) ?_
      have b31 : vp_in co 48 := inC rfl (by omega) (by omega)
      have g32 : rg 48 (-1) (23) (upd top co.toNatClampNeg th) := rg_upd r_top rfl (by omega) (by omega)
      refine va_iast hx hb hK hP hD hS 1 0 rfl rfl b31 dX1_cover_57 (fun H locs hP hD hS => ?_)
      obtain ⟨top_u33, etop_u33⟩ : ∃ f : Nat → Int32, f = upd top co.toNatClampNeg th := ⟨_, rfl⟩
      have rtop_u33 : rg 48 (-1) (23) top_u33 := by rw [etop_u33]; exact g32
      have hP : va_P (dC, dI) vwCl (wCor cI cZ cQ a top_u33 str gho_u24 ghs_u30 pto cro pla_u18 wal fal tel gai day mar) H := by rw [etop_u33]; exact hP
      have hD : va_D A (wCor cI cZ cQ a top_u33 str gho_u24 ghs_u30 pto cro pla_u18 wal fal tel gai day mar) := by rw [etop_u33]; exact hD
      refine lv_aload_n hx hb dX1_cover_58 rfl (lv_at hl 1 rfl) ?_
      refine va_get (D := (dC, dI)) (ci := 1) (v := .ref (a 6)) (C := RX1) (T := TX1) (N := 13) hx hb hts inX1 hown hK hP 0 rfl rfl 2 (by decide) lf15 (fun _ h9 => h9) rfl dX1_cover_59 ?_
      refine lv_iload_n hx hb dX1_cover_62 rfl (lv_at hl 2 rfl) ?_
      refine lv_bipush (v := 100) hx hb dX1_cover_63 (by decide) ?_
      have b34 : vp_in co 48 := inC rfl (by omega) (by omega)
      have g35 : rg 48 (0) (100) (upd str co.toNatClampNeg 100) := rg_upd r_str (show (100 : Int32).toInt = 100 from rfl) (by omega) (by omega)
      refine va_iast hx hb hK hP hD hS 2 0 rfl rfl b34 dX1_cover_65 (fun H locs hP hD hS => ?_)
      obtain ⟨str_u36, estr_u36⟩ : ∃ f : Nat → Int32, f = upd str co.toNatClampNeg 100 := ⟨_, rfl⟩
      have rstr_u36 : rg 48 (0) (100) str_u36 := by rw [estr_u36]; exact g35
      have hP : va_P (dC, dI) vwCl (wCor cI cZ cQ a top_u33 str_u36 gho_u24 ghs_u30 pto cro pla_u18 wal fal tel gai day mar) H := by rw [estr_u36]; exact hP
      have hD : va_D A (wCor cI cZ cQ a top_u33 str_u36 gho_u24 ghs_u30 pto cro pla_u18 wal fal tel gai day mar) := by rw [estr_u36]; exact hD
      refine lv_aload_n hx hb dX1_cover_66 rfl (lv_at hl 1 rfl) ?_
      refine va_get (D := (dC, dI)) (ci := 1) (v := .ref (a 9)) (C := RX1) (T := TX1) (N := 13) hx hb hts inX1 hown hK hP 0 rfl rfl 5 (by decide) lf24 (fun _ h9 => h9) rfl dX1_cover_67 ?_
      refine lv_iload_n hx hb dX1_cover_70 rfl (lv_at hl 2 rfl) ?_
      refine lv_aload_n hx hb dX1_cover_71 rfl (lv_at hl 1 rfl) ?_
      refine va_get (D := (dC, dI)) (ci := 1) (v := .int day) (C := RX1) (T := TX1) (N := 13) hx hb hts inX1 hown hK hP 0 rfl rfl 12 (by decide) lf62 (fun _ h9 => h9) rfl dX1_cover_72 ?_
      have b37 : vp_in co 48 := inC rfl (by omega) (by omega)
      refine va_iast hx hb hK hP hD hS 5 0 rfl rfl b37 dX1_cover_75 (fun H locs hP hD hS => ?_)
      obtain ⟨pto_u38, epto_u38⟩ : ∃ f : Nat → Int32, f = upd pto co.toNatClampNeg day := ⟨_, rfl⟩
      have hP : va_P (dC, dI) vwCl (wCor cI cZ cQ a top_u33 str_u36 gho_u24 ghs_u30 pto_u38 cro pla_u18 wal fal tel gai day mar) H := by rw [epto_u38]; exact hP
      have hD : va_D A (wCor cI cZ cQ a top_u33 str_u36 gho_u24 ghs_u30 pto_u38 cro pla_u18 wal fal tel gai day mar) := by rw [epto_u38]; exact hD
      refine lv_aload_n hx hb dX1_cover_76 rfl (lv_at hl 1 rfl) ?_
      refine va_get (D := (dC, dI)) (ci := 1) (v := .ref (a 11)) (C := RX1) (T := TX1) (N := 13) hx hb hts inX1 hown hK hP 0 rfl rfl 7 (by decide) lf30 (fun _ h9 => h9) rfl dX1_cover_77 ?_
      refine lv_iload_n hx hb dX1_cover_80 rfl (lv_at hl 3 rfl) ?_
      refine lv_iload_n hx hb dX1_cover_81 rfl (lv_at hl 2 rfl) ?_
      have b39 : vp_in th 24 := inC rfl (by omega) (by omega)
      have g40 : rg 24 (-1) (47) (upd pla_u18 th.toNatClampNeg co) := rg_upd rpla_u18 rfl (by omega) (by omega)
      refine va_iast hx hb hK hP hD hS 7 0 rfl rfl b39 dX1_cover_82 (fun H locs hP hD hS => ?_)
      obtain ⟨pla_u41, epla_u41⟩ : ∃ f : Nat → Int32, f = upd pla_u18 th.toNatClampNeg co := ⟨_, rfl⟩
      have rpla_u41 : rg 24 (-1) (47) pla_u41 := by rw [epla_u41]; exact g40
      have hP : va_P (dC, dI) vwCl (wCor cI cZ cQ a top_u33 str_u36 gho_u24 ghs_u30 pto_u38 cro pla_u41 wal fal tel gai day mar) H := by rw [epla_u41]; exact hP
      have hD : va_D A (wCor cI cZ cQ a top_u33 str_u36 gho_u24 ghs_u30 pto_u38 cro pla_u41 wal fal tel gai day mar) := by rw [epla_u41]; exact hD
      exact W.vret hx hb hr (fun tq ht hW => ⟨⟨(uS [top_u33, str_u36, gho_u24, ghs_u30, pto_u38, pla_u41] 0 (fun _ => 0)), rfl, ⟨(show top_u33 = upd top co.toNatClampNeg th from by (subst_vars; rfl)), (show (top co.toNatClampNeg = -1 ∧ pla_u41 = upd pla th.toNatClampNeg co) ∨ (top co.toNatClampNeg ≠ -1 ∧ pla_u41 = upd (upd pla (top co.toNatClampNeg).toNatClampNeg (-1)) th.toNatClampNeg co) from by (subst_vars; first | exact Or.inl ⟨by (first | assumption | exact Eq.symm (by assumption)), rfl⟩ | exact Or.inr ⟨by (first | assumption | exact Eq.symm (by assumption)), rfl⟩)), (show cvC top str gho ghs pto day co str_u36 gho_u24 ghs_u30 pto_u38 from by (subst_vars; refine ⟨rfl, rfl, ?_⟩; first | exact Or.inl ⟨by (first | assumption | exact Eq.symm (by assumption)), rfl, rfl⟩ | exact Or.inr (Or.inl ⟨by (first | assumption | exact Eq.symm (by assumption)), by omega, rfl, rfl⟩) | exact Or.inr (Or.inr ⟨by (first | assumption | exact Eq.symm (by assumption)), by omega, rfl, rfl⟩))), rtop_u33, rstr_u36, rgho_u24, rghs_u30, rpla_u41⟩, by rw [ht]; exact hP, hD⟩, hS.F ht⟩) hS.2.2 dX1_cover_83
    · have dc21 : 0 < (str co.toNatClampNeg).toInt := nleC rfl (show (0 : Int32).toInt = 0 from rfl) c21
      refine lv_iload_n hx hb dX1_cover_33 rfl (lv_at hl 0 rfl) ?_
      refine lv_goto (tgt := 38) hx hb dX1_cover_34 (by decide) ?_
      have b42 : vp_in co 48 := inC rfl (by omega) (by omega)
      have g43 : rg 48 (-1) (23) (upd gho co.toNatClampNeg x3) := rg_upd r_gho rfl (by omega) (by omega)
      refine va_iast hx hb hK hP hD hS 3 0 rfl rfl b42 dX1_cover_38 (fun H locs hP hD hS => ?_)
      obtain ⟨gho_u44, egho_u44⟩ : ∃ f : Nat → Int32, f = upd gho co.toNatClampNeg x3 := ⟨_, rfl⟩
      have rgho_u44 : rg 48 (-1) (23) gho_u44 := by rw [egho_u44]; exact g43
      have hP : va_P (dC, dI) vwCl (wCor cI cZ cQ a top str gho_u44 ghs pto cro pla_u18 wal fal tel gai day mar) H := by rw [egho_u44]; exact hP
      have hD : va_D A (wCor cI cZ cQ a top str gho_u44 ghs pto cro pla_u18 wal fal tel gai day mar) := by rw [egho_u44]; exact hD
      refine lv_aload_n hx hb dX1_cover_39 rfl (lv_at hl 1 rfl) ?_
      refine va_get (D := (dC, dI)) (ci := 1) (v := .ref (a 8)) (C := RX1) (T := TX1) (N := 13) hx hb hts inX1 hown hK hP 0 rfl rfl 4 (by decide) lf21 (fun _ h9 => h9) rfl dX1_cover_40 ?_
      refine lv_iload_n hx hb dX1_cover_43 rfl (lv_at hl 2 rfl) ?_
      refine lv_aload_n hx hb dX1_cover_44 rfl (lv_at hl 1 rfl) ?_
      refine va_get (D := (dC, dI)) (ci := 1) (v := .ref (a 6)) (C := RX1) (T := TX1) (N := 13) hx hb hts inX1 hown hK hP 0 rfl rfl 2 (by decide) lf15 (fun _ h9 => h9) rfl dX1_cover_45 ?_
      refine lv_iload_n hx hb dX1_cover_48 rfl (lv_at hl 2 rfl) ?_
      have b45 : vp_in co 48 := inC rfl (by omega) (by omega)
      refine va_iald hx hb hK hP 2 0 rfl rfl b45 dX1_cover_49 ?_
      have g46 : 0 ≤ (str co.toNatClampNeg).toInt ∧ (str co.toNatClampNeg).toInt ≤ 100 := rg_at r_str b45
      refine lv_topi (fun x47 ex47 => ?_)
      have ix47 : x47.toInt = (str co.toNatClampNeg).toInt := by rw [ex47]
      have b48 : vp_in co 48 := inC rfl (by omega) (by omega)
      have g49 : rg 48 (0) (100) (upd ghs co.toNatClampNeg x47) := rg_upd r_ghs rfl (by omega) (by omega)
      refine va_iast hx hb hK hP hD hS 4 0 rfl rfl b48 dX1_cover_50 (fun H locs hP hD hS => ?_)
      obtain ⟨ghs_u50, eghs_u50⟩ : ∃ f : Nat → Int32, f = upd ghs co.toNatClampNeg x47 := ⟨_, rfl⟩
      have rghs_u50 : rg 48 (0) (100) ghs_u50 := by rw [eghs_u50]; exact g49
      have hP : va_P (dC, dI) vwCl (wCor cI cZ cQ a top str gho_u44 ghs_u50 pto cro pla_u18 wal fal tel gai day mar) H := by rw [eghs_u50]; exact hP
      have hD : va_D A (wCor cI cZ cQ a top str gho_u44 ghs_u50 pto cro pla_u18 wal fal tel gai day mar) := by rw [eghs_u50]; exact hD
      refine lv_aload_n hx hb dX1_cover_51 rfl (lv_at hl 1 rfl) ?_
      refine va_get (D := (dC, dI)) (ci := 1) (v := .ref (a 5)) (C := RX1) (T := TX1) (N := 13) hx hb hts inX1 hown hK hP 0 rfl rfl 1 (by decide) lf9 (fun _ h9 => h9) rfl dX1_cover_52 ?_
      refine lv_iload_n hx hb dX1_cover_55 rfl (lv_at hl 2 rfl) ?_
      refine lv_iload_n hx hb dX1_cover_56 rfl (lv_at hl 3 rfl) ?_
      have b51 : vp_in co 48 := inC rfl (by omega) (by omega)
      have g52 : rg 48 (-1) (23) (upd top co.toNatClampNeg th) := rg_upd r_top rfl (by omega) (by omega)
      refine va_iast hx hb hK hP hD hS 1 0 rfl rfl b51 dX1_cover_57 (fun H locs hP hD hS => ?_)
      obtain ⟨top_u53, etop_u53⟩ : ∃ f : Nat → Int32, f = upd top co.toNatClampNeg th := ⟨_, rfl⟩
      have rtop_u53 : rg 48 (-1) (23) top_u53 := by rw [etop_u53]; exact g52
      have hP : va_P (dC, dI) vwCl (wCor cI cZ cQ a top_u53 str gho_u44 ghs_u50 pto cro pla_u18 wal fal tel gai day mar) H := by rw [etop_u53]; exact hP
      have hD : va_D A (wCor cI cZ cQ a top_u53 str gho_u44 ghs_u50 pto cro pla_u18 wal fal tel gai day mar) := by rw [etop_u53]; exact hD
      refine lv_aload_n hx hb dX1_cover_58 rfl (lv_at hl 1 rfl) ?_
      refine va_get (D := (dC, dI)) (ci := 1) (v := .ref (a 6)) (C := RX1) (T := TX1) (N := 13) hx hb hts inX1 hown hK hP 0 rfl rfl 2 (by decide) lf15 (fun _ h9 => h9) rfl dX1_cover_59 ?_
      refine lv_iload_n hx hb dX1_cover_62 rfl (lv_at hl 2 rfl) ?_
      refine lv_bipush (v := 100) hx hb dX1_cover_63 (by decide) ?_
      have b54 : vp_in co 48 := inC rfl (by omega) (by omega)
      have g55 : rg 48 (0) (100) (upd str co.toNatClampNeg 100) := rg_upd r_str (show (100 : Int32).toInt = 100 from rfl) (by omega) (by omega)
      refine va_iast hx hb hK hP hD hS 2 0 rfl rfl b54 dX1_cover_65 (fun H locs hP hD hS => ?_)
      obtain ⟨str_u56, estr_u56⟩ : ∃ f : Nat → Int32, f = upd str co.toNatClampNeg 100 := ⟨_, rfl⟩
      have rstr_u56 : rg 48 (0) (100) str_u56 := by rw [estr_u56]; exact g55
      have hP : va_P (dC, dI) vwCl (wCor cI cZ cQ a top_u53 str_u56 gho_u44 ghs_u50 pto cro pla_u18 wal fal tel gai day mar) H := by rw [estr_u56]; exact hP
      have hD : va_D A (wCor cI cZ cQ a top_u53 str_u56 gho_u44 ghs_u50 pto cro pla_u18 wal fal tel gai day mar) := by rw [estr_u56]; exact hD
      refine lv_aload_n hx hb dX1_cover_66 rfl (lv_at hl 1 rfl) ?_
      refine va_get (D := (dC, dI)) (ci := 1) (v := .ref (a 9)) (C := RX1) (T := TX1) (N := 13) hx hb hts inX1 hown hK hP 0 rfl rfl 5 (by decide) lf24 (fun _ h9 => h9) rfl dX1_cover_67 ?_
      refine lv_iload_n hx hb dX1_cover_70 rfl (lv_at hl 2 rfl) ?_
      refine lv_aload_n hx hb dX1_cover_71 rfl (lv_at hl 1 rfl) ?_
      refine va_get (D := (dC, dI)) (ci := 1) (v := .int day) (C := RX1) (T := TX1) (N := 13) hx hb hts inX1 hown hK hP 0 rfl rfl 12 (by decide) lf62 (fun _ h9 => h9) rfl dX1_cover_72 ?_
      have b57 : vp_in co 48 := inC rfl (by omega) (by omega)
      refine va_iast hx hb hK hP hD hS 5 0 rfl rfl b57 dX1_cover_75 (fun H locs hP hD hS => ?_)
      obtain ⟨pto_u58, epto_u58⟩ : ∃ f : Nat → Int32, f = upd pto co.toNatClampNeg day := ⟨_, rfl⟩
      have hP : va_P (dC, dI) vwCl (wCor cI cZ cQ a top_u53 str_u56 gho_u44 ghs_u50 pto_u58 cro pla_u18 wal fal tel gai day mar) H := by rw [epto_u58]; exact hP
      have hD : va_D A (wCor cI cZ cQ a top_u53 str_u56 gho_u44 ghs_u50 pto_u58 cro pla_u18 wal fal tel gai day mar) := by rw [epto_u58]; exact hD
      refine lv_aload_n hx hb dX1_cover_76 rfl (lv_at hl 1 rfl) ?_
      refine va_get (D := (dC, dI)) (ci := 1) (v := .ref (a 11)) (C := RX1) (T := TX1) (N := 13) hx hb hts inX1 hown hK hP 0 rfl rfl 7 (by decide) lf30 (fun _ h9 => h9) rfl dX1_cover_77 ?_
      refine lv_iload_n hx hb dX1_cover_80 rfl (lv_at hl 3 rfl) ?_
      refine lv_iload_n hx hb dX1_cover_81 rfl (lv_at hl 2 rfl) ?_
      have b59 : vp_in th 24 := inC rfl (by omega) (by omega)
      have g60 : rg 24 (-1) (47) (upd pla_u18 th.toNatClampNeg co) := rg_upd rpla_u18 rfl (by omega) (by omega)
      refine va_iast hx hb hK hP hD hS 7 0 rfl rfl b59 dX1_cover_82 (fun H locs hP hD hS => ?_)
      obtain ⟨pla_u61, epla_u61⟩ : ∃ f : Nat → Int32, f = upd pla_u18 th.toNatClampNeg co := ⟨_, rfl⟩
      have rpla_u61 : rg 24 (-1) (47) pla_u61 := by rw [epla_u61]; exact g60
      have hP : va_P (dC, dI) vwCl (wCor cI cZ cQ a top_u53 str_u56 gho_u44 ghs_u50 pto_u58 cro pla_u61 wal fal tel gai day mar) H := by rw [epla_u61]; exact hP
      have hD : va_D A (wCor cI cZ cQ a top_u53 str_u56 gho_u44 ghs_u50 pto_u58 cro pla_u61 wal fal tel gai day mar) := by rw [epla_u61]; exact hD
      exact W.vret hx hb hr (fun tq ht hW => ⟨⟨(uS [top_u53, str_u56, gho_u44, ghs_u50, pto_u58, pla_u61] 0 (fun _ => 0)), rfl, ⟨(show top_u53 = upd top co.toNatClampNeg th from by (subst_vars; rfl)), (show (top co.toNatClampNeg = -1 ∧ pla_u61 = upd pla th.toNatClampNeg co) ∨ (top co.toNatClampNeg ≠ -1 ∧ pla_u61 = upd (upd pla (top co.toNatClampNeg).toNatClampNeg (-1)) th.toNatClampNeg co) from by (subst_vars; first | exact Or.inl ⟨by (first | assumption | exact Eq.symm (by assumption)), rfl⟩ | exact Or.inr ⟨by (first | assumption | exact Eq.symm (by assumption)), rfl⟩)), (show cvC top str gho ghs pto day co str_u56 gho_u44 ghs_u50 pto_u58 from by (subst_vars; refine ⟨rfl, rfl, ?_⟩; first | exact Or.inl ⟨by (first | assumption | exact Eq.symm (by assumption)), rfl, rfl⟩ | exact Or.inr (Or.inl ⟨by (first | assumption | exact Eq.symm (by assumption)), by omega, rfl, rfl⟩) | exact Or.inr (Or.inr ⟨by (first | assumption | exact Eq.symm (by assumption)), by omega, rfl, rfl⟩))), rtop_u53, rstr_u56, rgho_u44, rghs_u50, rpla_u61⟩, by rw [ht]; exact hP, hD⟩, hS.F ht⟩) hS.2.2 dX1_cover_83
set_option maxHeartbeats 4000000 in
set_option maxRecDepth 100000 in
theorem k_X1_takeOff3 (l : Launch) (dC : Nat → ClassId) (dI : Nat → Nat → Nat) (cI cZ cQ : ClassId) (a : Nat → Nat) (top : Nat → Int32) (str : Nat → Int32) (gho : Nat → Int32) (ghs : Nat → Int32) (pto : Nat → Int32) (cro : Nat → Int32) (pla : Nat → Int32) (wal : Nat → Int32) (fal : Nat → Int32) (tel : Int32) (gai : Int32) (day : Int32) (mar : Nat → Int32) (sz : Nat) (co : Int32) (r_top : rg 48 (-1) (23) top) (r_str : rg 48 (0) (100) str) (r_gho : rg 48 (-1) (23) gho) (r_ghs : rg 48 (0) (100) ghs) (r_cro : rg 48 (0) (6) cro) (r_pla : rg 24 (-1) (47) pla) (r_fal : rg 11 (0) (30) fal) (r_gai : 0 ≤ gai.toInt ∧ gai.toInt ≤ 100) (r_day : 0 ≤ day.toInt ∧ day.toInt ≤ 400) (r_mar : rg 24 (0) (255) mar) (q0 : 0 ≤ co.toInt) (q1 : co.toInt ≤ 47) : KV l yX1_takeOff wsX1_takeOff { frames := 0, cells := 0, slots := 0, locals := 0 } (dC, dI) (TY cI cZ cQ) (wCor cI cZ cQ a top str gho ghs pto cro pla wal fal tel gai day mar) [.ref (a 4), .int co] sz 0 0 (fun (u : US) => ((u.1 0) = upd top co.toNatClampNeg (-1)) ∧ ((top co.toNatClampNeg = -1 ∧ (u.1 2) = pla) ∨ (top co.toNatClampNeg ≠ -1 ∧ (u.1 2) = upd pla (top co.toNatClampNeg).toNatClampNeg (-1))) ∧ ((u.1 1) = upd gho co.toNatClampNeg (-1)) ∧ (rg 48 (-1) (23) (u.1 0)) ∧ (rg 48 (-1) (23) (u.1 1)) ∧ (rg 24 (-1) (47) (u.1 2))) (fun u : US => (wCor cI cZ cQ a (u.1 0) str (u.1 1) ghs pto cro (u.1 2) wal fal tel gai day mar)) := by
  refine Met.ofW (cc := cX1_takeOff) (maxL := 3) (ret := none) (by decide) rfl ?_
  intro p e s m args below meth c s₁ B hml hv
  obtain ⟨rfl, hsz, hP, hK, hD0, hN⟩ := hv
  have hx := B.exec
  have hb := B.bytes
  have hr := B.returns
  have hts := atoms_spec (ws := wsX1_takeOff) B.pre
  have hown : s.vm.findClass RX1 = some m.cls := findClass_of_methodNamed B.named
  have hlocks := B.notSynchronized
  have lf9 := hts (.fieldLink RX1 9 "PalaceOfRooms$Corners" "top" "[I") (List.mem_cons_of_mem _ (List.mem_append_left _ (List.mem_of_getElem? (i := 0) rfl)))
  have inX1 : ∀ w ∈ wsX10, w ∈ wsX1_takeOff := fun w h => List.mem_cons_of_mem _ (List.mem_append_right _ h)
  have lf18 := hts (.fieldLink RX1 18 "PalaceOfRooms$Corners" "ghost" "[I") (List.mem_cons_of_mem _ (List.mem_append_left _ (List.mem_of_getElem? (i := 2) rfl)))
  have lf30 := hts (.fieldLink RX1 30 "PalaceOfRooms$Corners" "placeOf" "[I") (List.mem_cons_of_mem _ (List.mem_append_left _ (List.mem_of_getElem? (i := 1) rfl)))
  subst hsz
  have hD := hD0.self (sz := s.heap.size)
  generalize hAe : va_A (wCor cI cZ cQ a top str gho ghs pto cro pla wal fal tel gai day mar) s.heap.size = A at hD ⊢
  have hA : ∀ q : Nat, s.heap.size ≤ q → A q := fun q h => by rw [← hAe]; exact Or.inr h
  have hS : va_S A s.heap s.heap [] := va_S.rf
  have hl := lv_entry ([.ref (a 4), .int co]) (n := 3) (Nat.le_of_ble_eq_true rfl)
  rw [lg_entry_eq]
  generalize (lg_sl ([.ref (a 4), .int co]) ++ List.replicate (3 - (lg_sl ([.ref (a 4), .int co])).length) Slot.unset).toArray = ls at hl ⊢
  have hl : lv_has ls 3 [(0, .ref (a 4)), (1, .int co)] := hl
  refine lv_aload_n hx hb dX1_takeOff_0 rfl (lv_at hl 0 rfl) ?_
  refine va_get (D := (dC, dI)) (ci := 1) (v := .ref (a 5)) (C := RX1) (T := TX1) (N := 13) hx hb hts inX1 hown hK hP 0 rfl rfl 1 (by decide) lf9 (fun _ h9 => h9) rfl dX1_takeOff_1 ?_
  refine lv_iload_n hx hb dX1_takeOff_4 rfl (lv_at hl 1 rfl) ?_
  have b1 : vp_in co 48 := inC rfl (by omega) (by omega)
  refine va_iald hx hb hK hP 1 0 rfl rfl b1 dX1_takeOff_5 ?_
  have g2 : -1 ≤ (top co.toNatClampNeg).toInt ∧ (top co.toNatClampNeg).toInt ≤ 23 := rg_at r_top b1
  refine lv_topi (fun x3 ex3 => ?_)
  have ix3 : x3.toInt = (top co.toNatClampNeg).toInt := by rw [ex3]
  refine lv_istore_n (lv' := [(2, .int x3), (0, .ref (a 4)), (1, .int co)]) hx hb dX1_takeOff_6 rfl hl (by decide) rfl (fun ls hl => ?_)
  refine lv_iload_n hx hb dX1_takeOff_7 rfl (lv_at hl 0 rfl) ?_
  refine lv_iconst (v := (-1)) hx hb dX1_takeOff_8 (by decide) ?_
  refine lv_icmp_eq (tgt := 19) hx hb dX1_takeOff_9 (by decide) (fun c4 => ?_) (fun c4 => ?_)
  · have dc4 : x3.toInt = (-1) := eqC rfl (show ((-1) : Int32).toInt = (-1) from rfl) c4
    refine lv_aload_n hx hb dX1_takeOff_19 rfl (lv_at hl 1 rfl) ?_
    refine va_get (D := (dC, dI)) (ci := 1) (v := .ref (a 5)) (C := RX1) (T := TX1) (N := 13) hx hb hts inX1 hown hK hP 0 rfl rfl 1 (by decide) lf9 (fun _ h9 => h9) rfl dX1_takeOff_20 ?_
    refine lv_iload_n hx hb dX1_takeOff_23 rfl (lv_at hl 2 rfl) ?_
    refine lv_iconst (v := (-1)) hx hb dX1_takeOff_24 (by decide) ?_
    have b5 : vp_in co 48 := inC rfl (by omega) (by omega)
    have g6 : rg 48 (-1) (23) (upd top co.toNatClampNeg (-1)) := rg_upd r_top (show ((-1) : Int32).toInt = (-1) from rfl) (by omega) (by omega)
    refine va_iast hx hb hK hP hD hS 1 0 rfl rfl b5 dX1_takeOff_25 (fun H locs hP hD hS => ?_)
    obtain ⟨top_u7, etop_u7⟩ : ∃ f : Nat → Int32, f = upd top co.toNatClampNeg (-1) := ⟨_, rfl⟩
    have rtop_u7 : rg 48 (-1) (23) top_u7 := by rw [etop_u7]; exact g6
    have hP : va_P (dC, dI) vwCl (wCor cI cZ cQ a top_u7 str gho ghs pto cro pla wal fal tel gai day mar) H := by rw [etop_u7]; exact hP
    have hD : va_D A (wCor cI cZ cQ a top_u7 str gho ghs pto cro pla wal fal tel gai day mar) := by rw [etop_u7]; exact hD
    refine lv_aload_n hx hb dX1_takeOff_26 rfl (lv_at hl 1 rfl) ?_
    refine va_get (D := (dC, dI)) (ci := 1) (v := .ref (a 7)) (C := RX1) (T := TX1) (N := 13) hx hb hts inX1 hown hK hP 0 rfl rfl 3 (by decide) lf18 (fun _ h9 => h9) rfl dX1_takeOff_27 ?_
    refine lv_iload_n hx hb dX1_takeOff_30 rfl (lv_at hl 2 rfl) ?_
    refine lv_iconst (v := (-1)) hx hb dX1_takeOff_31 (by decide) ?_
    have b8 : vp_in co 48 := inC rfl (by omega) (by omega)
    have g9 : rg 48 (-1) (23) (upd gho co.toNatClampNeg (-1)) := rg_upd r_gho (show ((-1) : Int32).toInt = (-1) from rfl) (by omega) (by omega)
    refine va_iast hx hb hK hP hD hS 3 0 rfl rfl b8 dX1_takeOff_32 (fun H locs hP hD hS => ?_)
    obtain ⟨gho_u10, egho_u10⟩ : ∃ f : Nat → Int32, f = upd gho co.toNatClampNeg (-1) := ⟨_, rfl⟩
    have rgho_u10 : rg 48 (-1) (23) gho_u10 := by rw [egho_u10]; exact g9
    have hP : va_P (dC, dI) vwCl (wCor cI cZ cQ a top_u7 str gho_u10 ghs pto cro pla wal fal tel gai day mar) H := by rw [egho_u10]; exact hP
    have hD : va_D A (wCor cI cZ cQ a top_u7 str gho_u10 ghs pto cro pla wal fal tel gai day mar) := by rw [egho_u10]; exact hD
    exact W.vret hx hb hr (fun tq ht hW => ⟨⟨(uS [top_u7, gho_u10, pla] 0 (fun _ => 0)), rfl, ⟨(show top_u7 = upd top co.toNatClampNeg (-1) from by (subst_vars; rfl)), (show (top co.toNatClampNeg = -1 ∧ pla = pla) ∨ (top co.toNatClampNeg ≠ -1 ∧ pla = upd pla (top co.toNatClampNeg).toNatClampNeg (-1)) from by (subst_vars; first | exact Or.inl ⟨by (first | assumption | exact Eq.symm (by assumption)), rfl⟩ | exact Or.inr ⟨by (first | assumption | exact Eq.symm (by assumption)), rfl⟩)), (show gho_u10 = upd gho co.toNatClampNeg (-1) from by (subst_vars; rfl)), rtop_u7, rgho_u10, r_pla⟩, by rw [ht]; exact hP, hD⟩, hS.F ht⟩) hS.2.2 dX1_takeOff_33
  · have dc4 : 0 ≤ x3.toInt := ka_lo (by omega) (neC rfl (show ((-1) : Int32).toInt = (-1) from rfl) c4)
    refine lv_aload_n hx hb dX1_takeOff_12 rfl (lv_at hl 1 rfl) ?_
    refine va_get (D := (dC, dI)) (ci := 1) (v := .ref (a 11)) (C := RX1) (T := TX1) (N := 13) hx hb hts inX1 hown hK hP 0 rfl rfl 7 (by decide) lf30 (fun _ h9 => h9) rfl dX1_takeOff_13 ?_
    refine lv_iload_n hx hb dX1_takeOff_16 rfl (lv_at hl 0 rfl) ?_
    refine lv_iconst (v := (-1)) hx hb dX1_takeOff_17 (by decide) ?_
    have b11 : vp_in x3 24 := inC rfl (by omega) (by omega)
    have g12 : rg 24 (-1) (47) (upd pla x3.toNatClampNeg (-1)) := rg_upd r_pla (show ((-1) : Int32).toInt = (-1) from rfl) (by omega) (by omega)
    refine va_iast hx hb hK hP hD hS 7 0 rfl rfl b11 dX1_takeOff_18 (fun H locs hP hD hS => ?_)
    obtain ⟨pla_u13, epla_u13⟩ : ∃ f : Nat → Int32, f = upd pla x3.toNatClampNeg (-1) := ⟨_, rfl⟩
    have rpla_u13 : rg 24 (-1) (47) pla_u13 := by rw [epla_u13]; exact g12
    have hP : va_P (dC, dI) vwCl (wCor cI cZ cQ a top str gho ghs pto cro pla_u13 wal fal tel gai day mar) H := by rw [epla_u13]; exact hP
    have hD : va_D A (wCor cI cZ cQ a top str gho ghs pto cro pla_u13 wal fal tel gai day mar) := by rw [epla_u13]; exact hD
    refine lv_aload_n hx hb dX1_takeOff_19 rfl (lv_at hl 1 rfl) ?_
    refine va_get (D := (dC, dI)) (ci := 1) (v := .ref (a 5)) (C := RX1) (T := TX1) (N := 13) hx hb hts inX1 hown hK hP 0 rfl rfl 1 (by decide) lf9 (fun _ h9 => h9) rfl dX1_takeOff_20 ?_
    refine lv_iload_n hx hb dX1_takeOff_23 rfl (lv_at hl 2 rfl) ?_
    refine lv_iconst (v := (-1)) hx hb dX1_takeOff_24 (by decide) ?_
    have b14 : vp_in co 48 := inC rfl (by omega) (by omega)
    have g15 : rg 48 (-1) (23) (upd top co.toNatClampNeg (-1)) := rg_upd r_top (show ((-1) : Int32).toInt = (-1) from rfl) (by omega) (by omega)
    refine va_iast hx hb hK hP hD hS 1 0 rfl rfl b14 dX1_takeOff_25 (fun H locs hP hD hS => ?_)
    obtain ⟨top_u16, etop_u16⟩ : ∃ f : Nat → Int32, f = upd top co.toNatClampNeg (-1) := ⟨_, rfl⟩
    have rtop_u16 : rg 48 (-1) (23) top_u16 := by rw [etop_u16]; exact g15
    have hP : va_P (dC, dI) vwCl (wCor cI cZ cQ a top_u16 str gho ghs pto cro pla_u13 wal fal tel gai day mar) H := by rw [etop_u16]; exact hP
    have hD : va_D A (wCor cI cZ cQ a top_u16 str gho ghs pto cro pla_u13 wal fal tel gai day mar) := by rw [etop_u16]; exact hD
    refine lv_aload_n hx hb dX1_takeOff_26 rfl (lv_at hl 1 rfl) ?_
    refine va_get (D := (dC, dI)) (ci := 1) (v := .ref (a 7)) (C := RX1) (T := TX1) (N := 13) hx hb hts inX1 hown hK hP 0 rfl rfl 3 (by decide) lf18 (fun _ h9 => h9) rfl dX1_takeOff_27 ?_
    refine lv_iload_n hx hb dX1_takeOff_30 rfl (lv_at hl 2 rfl) ?_
    refine lv_iconst (v := (-1)) hx hb dX1_takeOff_31 (by decide) ?_
    have b17 : vp_in co 48 := inC rfl (by omega) (by omega)
    have g18 : rg 48 (-1) (23) (upd gho co.toNatClampNeg (-1)) := rg_upd r_gho (show ((-1) : Int32).toInt = (-1) from rfl) (by omega) (by omega)
    refine va_iast hx hb hK hP hD hS 3 0 rfl rfl b17 dX1_takeOff_32 (fun H locs hP hD hS => ?_)
    obtain ⟨gho_u19, egho_u19⟩ : ∃ f : Nat → Int32, f = upd gho co.toNatClampNeg (-1) := ⟨_, rfl⟩
    have rgho_u19 : rg 48 (-1) (23) gho_u19 := by rw [egho_u19]; exact g18
    have hP : va_P (dC, dI) vwCl (wCor cI cZ cQ a top_u16 str gho_u19 ghs pto cro pla_u13 wal fal tel gai day mar) H := by rw [egho_u19]; exact hP
    have hD : va_D A (wCor cI cZ cQ a top_u16 str gho_u19 ghs pto cro pla_u13 wal fal tel gai day mar) := by rw [egho_u19]; exact hD
    exact W.vret hx hb hr (fun tq ht hW => ⟨⟨(uS [top_u16, gho_u19, pla_u13] 0 (fun _ => 0)), rfl, ⟨(show top_u16 = upd top co.toNatClampNeg (-1) from by (subst_vars; rfl)), (show (top co.toNatClampNeg = -1 ∧ pla_u13 = pla) ∨ (top co.toNatClampNeg ≠ -1 ∧ pla_u13 = upd pla (top co.toNatClampNeg).toNatClampNeg (-1)) from by (subst_vars; first | exact Or.inl ⟨by (first | assumption | exact Eq.symm (by assumption)), rfl⟩ | exact Or.inr ⟨by (first | assumption | exact Eq.symm (by assumption)), rfl⟩)), (show gho_u19 = upd gho co.toNatClampNeg (-1) from by (subst_vars; rfl)), rtop_u16, rgho_u19, rpla_u13⟩, by rw [ht]; exact hP, hD⟩, hS.F ht⟩) hS.2.2 dX1_takeOff_33
set_option maxHeartbeats 4000000 in
set_option maxRecDepth 100000 in
theorem k_X9_clear3 (l : Launch) (dC : Nat → ClassId) (dI : Nat → Nat → Nat) (cI cZ cQ : ClassId) (a : Nat → Nat) (rb0 : Nat) (rb1 : Nat) (rb2 : Nat) (db0 : Nat) (db1 : Nat) (db2 : Nat) (top : Nat → Int32) (str : Nat → Int32) (gho : Nat → Int32) (ghs : Nat → Int32) (pto : Nat → Int32) (cro : Nat → Int32) (pla : Nat → Int32) (wal : Nat → Int32) (fal : Nat → Int32) (tel : Int32) (gai : Int32) (day : Int32) (mar : Nat → Int32) (sz : Nat) (co : Int32) (r_top : rg 48 (-1) (23) top) (r_str : rg 48 (0) (100) str) (r_gho : rg 48 (-1) (23) gho) (r_ghs : rg 48 (0) (100) ghs) (r_cro : rg 48 (0) (6) cro) (r_pla : rg 24 (-1) (47) pla) (r_fal : rg 11 (0) (30) fal) (r_gai : 0 ≤ gai.toInt ∧ gai.toInt ≤ 100) (r_day : 0 ≤ day.toInt ∧ day.toInt ≤ 400) (r_mar : rg 24 (0) (255) mar) (q0 : plOK top pla) (q1 : crI top gho ghs) : KW l yX9_clear wsX9_clear { frames := 2, cells := 0, slots := 0, locals := 42 } (dC, dI) (TY cI cZ cQ) (wsC cI cZ cQ a rb0 rb1 rb2 db0 db1 db2 top str gho ghs pto cro pla wal fal tel gai day mar) [.ref (a 43), .int co] sz 0 0 (fun (r : Int32) (u : US) => (spClrC top gho co r (u.1 0) (u.1 1)) ∧ (plOK (u.1 0) (u.1 2)) ∧ (crI (u.1 0) (u.1 1) ghs) ∧ (rg 48 (-1) (23) (u.1 0)) ∧ (rg 48 (-1) (23) (u.1 1)) ∧ (rg 24 (-1) (47) (u.1 2))) (fun u : US => (wsC cI cZ cQ a rb0 rb1 rb2 db0 db1 db2 (u.1 0) str (u.1 1) ghs pto cro (u.1 2) wal fal tel gai day mar)) := by
  refine Met.ofW (cc := cX9_clear) (maxL := 3) (ret := (some .int)) (by decide) rfl ?_
  intro p e s m args below meth c s₁ B hml hv
  obtain ⟨rfl, hsz, hP, hK, hD0, hN⟩ := hv
  have hx := B.exec
  have hb := B.bytes
  have hr := B.returns
  have hts := atoms_spec (ws := wsX9_clear) B.pre
  have hown : s.vm.findClass RX9 = some m.cls := findClass_of_methodNamed B.named
  have hlocks := B.notSynchronized
  have lf28 := hts (.fieldLink RX9 28 "PalaceOfRooms" "corners" "LPalaceOfRooms$Corners;") (List.mem_cons_of_mem _ (List.mem_append_left _ (List.mem_append_left _ (List.mem_of_getElem? (i := 0) rfl))))
  have inX9 : ∀ w ∈ wsX90, w ∈ wsX9_clear := fun w h => List.mem_cons_of_mem _ (List.mem_append_left _ (List.mem_append_right _ h))
  have lf131 := hN.use (w := .fieldLinkNest "PalaceOfRooms" 131 "PalaceOfRooms$Corners" "top" "[I" "PalaceOfRooms") (List.mem_of_getElem? (i := 2) rfl) ([.ref (a 43), .int co] : List Value).toArray
  have inX1 : ∀ w ∈ wsX10, w ∈ wsX9_clear := fun w h => List.mem_cons_of_mem _ (List.mem_append_right _ h)
  subst hsz
  have hD := hD0.self (sz := s.heap.size)
  generalize hAe : va_A (wsC cI cZ cQ a rb0 rb1 rb2 db0 db1 db2 top str gho ghs pto cro pla wal fal tel gai day mar) s.heap.size = A at hD ⊢
  have hA : ∀ q : Nat, s.heap.size ≤ q → A q := fun q h => by rw [← hAe]; exact Or.inr h
  have hS : va_S A s.heap s.heap [] := va_S.rf
  have hl := lv_entry ([.ref (a 43), .int co]) (n := 3) (Nat.le_of_ble_eq_true rfl)
  rw [lg_entry_eq]
  generalize (lg_sl ([.ref (a 43), .int co]) ++ List.replicate (3 - (lg_sl ([.ref (a 43), .int co])).length) Slot.unset).toArray = ls at hl ⊢
  have hl : lv_has ls 3 [(0, .ref (a 43)), (1, .int co)] := hl
  refine lv_iload_n hx hb dX9_clear_0 rfl (lv_at hl 1 rfl) ?_
  refine rdS (As := [.int co]) (rest := []) ⟨hx, hb, hml, hown, hts⟩ (k_X9_isCorner l dC dI cI cZ cQ co) (va_cwS 1 hts gX9_clear_X9_isCorner rfl rfl rfl (by decide +kernel) ⟨Nat.le_of_ble_eq_true rfl, Nat.le_of_ble_eq_true rfl⟩) hP hK hN [] rfl rfl hl.1 rfl (Nat.le_of_ble_eq_true rfl) dX9_clear_1 ⟨Nat.le_of_ble_eq_true rfl, Nat.le_of_ble_eq_true rfl⟩ (fun r1 h2 => ?_)
  have h2 : ((((r1 = 1) ∧ (0 ≤ co.toInt) ∧ (co.toInt ≤ 47)) ∨ ((r1 = 0) ∧ (co.toInt < 0 ∨ 47 < co.toInt)))) := h2
  rcases h2 with (⟨rfl, h2_a0, h2_a1⟩ | ⟨rfl, h2_a0⟩)
  · refine lv_if_ne (tgt := 10) hx hb dX9_clear_4 (by decide) (fun _ => ?_) (fun c9 => absurd c9 (by decide))
    refine lv_aload_n hx hb dX9_clear_10 rfl (lv_at hl 0 rfl) ?_
    refine va_get (D := (dC, dI)) (ci := 9) (v := .ref (a 4)) (C := RX9) (T := TX9) (N := 11) hx hb hts inX9 hown hK hP 0 rfl rfl 2 (by decide) lf28 (fun _ h9 => h9) rfl dX9_clear_11 ?_
    refine va_getN (D := (dC, dI)) (ci := 1) (v := .ref (a 5)) (C := RX1) (T := TX1) (N := 13) hx hb hts inX1 hown hK hP 1 rfl rfl 1 (by decide) lf131 (fun _ h9 => h9) rfl dX9_clear_14 ?_
    refine lv_iload_n hx hb dX9_clear_17 rfl (lv_at hl 1 rfl) ?_
    have b3 : vp_in co 48 := inC rfl (by omega) (by omega)
    refine va_iald hx hb hK hP 2 0 rfl rfl b3 dX9_clear_18 ?_
    have g4 : -1 ≤ (top co.toNatClampNeg).toInt ∧ (top co.toNatClampNeg).toInt ≤ 23 := rg_at r_top b3
    refine lv_topi (fun x5 ex5 => ?_)
    have ix5 : x5.toInt = (top co.toNatClampNeg).toInt := by rw [ex5]
    refine lv_istore_n (lv' := [(2, .int x5), (0, .ref (a 43)), (1, .int co)]) hx hb dX9_clear_19 rfl hl (by decide) rfl (fun ls hl => ?_)
    refine lv_iload_n hx hb dX9_clear_20 rfl (lv_at hl 0 rfl) ?_
    refine lv_iconst (v := (-1)) hx hb dX9_clear_21 (by decide) ?_
    refine lv_icmp_ne (tgt := 28) hx hb dX9_clear_22 (by decide) (fun c6 => ?_) (fun c6 => ?_)
    · have dc6 : 0 ≤ x5.toInt := ka_lo (by omega) (neC rfl (show ((-1) : Int32).toInt = (-1) from rfl) c6)
      refine lv_aload_n hx hb dX9_clear_28 rfl (lv_at hl 1 rfl) ?_
      refine va_get (D := (dC, dI)) (ci := 9) (v := .ref (a 4)) (C := RX9) (T := TX9) (N := 11) hx hb hts inX9 hown hK hP 0 rfl rfl 2 (by decide) lf28 (fun _ h9 => h9) rfl dX9_clear_29 ?_
      refine lv_iload_n hx hb dX9_clear_32 rfl (lv_at hl 2 rfl) ?_
      refine wvV (As := [.int co]) (rest := []) (wr := [((a 43), .inr (9, [.ref (a 0), .ref (a 2), .ref (a 4), .ref (a 14), .ref (a 16), .ref (a 23), .ref (a 28), .ref (a 33), .ref (a 42), .ref rb0, .ref db0]))]) (w2 := (fun u : US => (wsC cI cZ cQ a rb0 rb1 rb2 db0 db1 db2 (u.1 0) str (u.1 1) ghs pto cro (u.1 2) wal fal tel gai day mar))) ⟨hx, hb, hml, hown, hts⟩ (k_X1_takeOff3 l dC dI cI cZ cQ a top str gho ghs pto cro pla wal fal tel gai day mar _ co r_top r_str r_gho r_ghs r_cro r_pla r_fal r_gai r_day r_mar (by omega) (by omega)) (cwV 1 hts gX9_clear_X1_takeOff rfl rfl rfl (by decide +kernel) ⟨Nat.le_of_ble_eq_true rfl, Nat.le_of_ble_eq_true rfl⟩) hP hD hS hA hK hN [1, 2, 3, 4, 5, 6, 7, 8, 9, 10, 11, 12] [0] [0, 1, 2, 3, 4, 5, 6, 7, 8, 9, 10, 11, 12] rfl rfl (by decide) (by decide) (by decide) (fun _ => rfl) (by decide) 1 1 rfl rfl rfl hl.1 rfl (Nat.le_of_ble_eq_true rfl) dX9_clear_33 ⟨Nat.le_of_ble_eq_true rfl, Nat.le_of_ble_eq_true rfl⟩ (fun u9 H locs h8 hP hD hS => ?_)
      obtain ⟨top_c10, etop_c10⟩ : ∃ f : Nat → Int32, f = (u9.1 0) := ⟨_, rfl⟩
      obtain ⟨gho_c11, egho_c11⟩ : ∃ f : Nat → Int32, f = (u9.1 1) := ⟨_, rfl⟩
      obtain ⟨pla_c12, epla_c12⟩ : ∃ f : Nat → Int32, f = (u9.1 2) := ⟨_, rfl⟩
      have hP : va_P (dC, dI) vwCl (wsC cI cZ cQ a rb0 rb1 rb2 db0 db1 db2 top_c10 str gho_c11 ghs pto cro pla_c12 wal fal tel gai day mar) H := by rw [etop_c10, egho_c11, epla_c12]; exact hP
      have hD : va_D A (wsC cI cZ cQ a rb0 rb1 rb2 db0 db1 db2 top_c10 str gho_c11 ghs pto cro pla_c12 wal fal tel gai day mar) := by rw [etop_c10, egho_c11, epla_c12]; exact hD
      have h8 : (top_c10 = upd top co.toNatClampNeg (-1)) ∧ ((top co.toNatClampNeg = -1 ∧ pla_c12 = pla) ∨ (top co.toNatClampNeg ≠ -1 ∧ pla_c12 = upd pla (top co.toNatClampNeg).toNatClampNeg (-1))) ∧ (gho_c11 = upd gho co.toNatClampNeg (-1)) ∧ (rg 48 (-1) (23) top_c10) ∧ (rg 48 (-1) (23) gho_c11) ∧ (rg 24 (-1) (47) pla_c12) := by (try rw [etop_c10]); (try rw [egho_c11]); (try rw [epla_c12]); exact h8
      obtain ⟨h8_0, h8_1, h8_2, h8_3, h8_4, h8_5⟩ := h8
      refine lv_iload_n hx hb dX9_clear_36 rfl (lv_at hl 0 rfl) ?_
      exact W.iret (v := x5) hx hb hr (fun tq ht hW => ⟨⟨x5, (uS [top_c10, gho_c11, pla_c12] 0 (fun _ => 0)), rfl, ⟨(show spClrC top gho co x5 top_c10 gho_c11 from by (first | exact Or.inl ⟨by omega, rfl, rfl, rfl⟩ | exact clrC_no (by omega) (by assumption) (by assumption) | exact clrC_ok (by omega) (by assumption) (by assumption) (by assumption) (by assumption))), (show plOK top_c10 pla_c12 from by (first | exact q0 | exact pl_clear (c := co) q0 (by omega) r_top (by assumption) (by assumption) (by assumption) (by assumption))), (show crI top_c10 gho_c11 ghs from by (first | exact q1 | exact crI_clr (c := co) q1 (by assumption) (by assumption))), h8_3, h8_4, h8_5⟩, by rw [ht]; exact hP, hD⟩, hS.F ht⟩) hS.2.2 dX9_clear_37
    · have dc6 : x5.toInt = (-1) := eqC rfl (show ((-1) : Int32).toInt = (-1) from rfl) c6
      refine lv_bipush (v := (-4)) hx hb dX9_clear_25 (by decide) ?_
      exact W.iret (v := (-4)) hx hb hr (fun tq ht hW => ⟨⟨(-4), (uS [top, gho, pla] 0 (fun _ => 0)), rfl, ⟨(show spClrC top gho co ((-4) : Int32) top gho from by (try rw [show ((-4) : Int32).toInt = (-4) from (show ((-4) : Int32).toInt = (-4) from rfl)]); (first | exact Or.inl ⟨by omega, rfl, rfl, rfl⟩ | exact clrC_no (by omega) (by assumption) (by assumption) | exact clrC_ok (by omega) (by assumption) (by assumption) (by assumption) (by assumption))), (show plOK top pla from by (try rw [show ((-4) : Int32).toInt = (-4) from (show ((-4) : Int32).toInt = (-4) from rfl)]); (first | exact q0 | exact pl_clear (c := co) q0 (by omega) r_top (by assumption) (by assumption) (by assumption) (by assumption))), (show crI top gho ghs from by (try rw [show ((-4) : Int32).toInt = (-4) from (show ((-4) : Int32).toInt = (-4) from rfl)]); (first | exact q1 | exact crI_clr (c := co) q1 (by assumption) (by assumption))), r_top, r_gho, r_pla⟩, by rw [ht]; exact hP, hD⟩, hS.F ht⟩) hS.2.2 dX9_clear_27
  · refine lv_if_ne (tgt := 10) hx hb dX9_clear_4 (by decide) (fun c9 => absurd (by decide) c9) (fun _ => ?_)
    refine lv_bipush (v := (-2)) hx hb dX9_clear_7 (by decide) ?_
    exact W.iret (v := (-2)) hx hb hr (fun tq ht hW => ⟨⟨(-2), (uS [top, gho, pla] 0 (fun _ => 0)), rfl, ⟨(show spClrC top gho co ((-2) : Int32) top gho from by (try rw [show ((-2) : Int32).toInt = (-2) from (show ((-2) : Int32).toInt = (-2) from rfl)]); (first | exact Or.inl ⟨by omega, rfl, rfl, rfl⟩ | exact clrC_no (by omega) (by assumption) (by assumption) | exact clrC_ok (by omega) (by assumption) (by assumption) (by assumption) (by assumption))), (show plOK top pla from by (try rw [show ((-2) : Int32).toInt = (-2) from (show ((-2) : Int32).toInt = (-2) from rfl)]); (first | exact q0 | exact pl_clear (c := co) q0 (by omega) r_top (by assumption) (by assumption) (by assumption) (by assumption))), (show crI top gho ghs from by (try rw [show ((-2) : Int32).toInt = (-2) from (show ((-2) : Int32).toInt = (-2) from rfl)]); (first | exact q1 | exact crI_clr (c := co) q1 (by assumption) (by assumption))), r_top, r_gho, r_pla⟩, by rw [ht]; exact hP, hD⟩, hS.F ht⟩) hS.2.2 dX9_clear_9
set_option maxHeartbeats 4000000 in
set_option maxRecDepth 100000 in
theorem k_X9_corner2 (l : Launch) (dC : Nat → ClassId) (dI : Nat → Nat → Nat) (cI cZ cQ : ClassId) (a : Nat → Nat) (rb0 : Nat) (rb1 : Nat) (rb2 : Nat) (db0 : Nat) (db1 : Nat) (db2 : Nat) (top : Nat → Int32) (str : Nat → Int32) (gho : Nat → Int32) (ghs : Nat → Int32) (pto : Nat → Int32) (cro : Nat → Int32) (pla : Nat → Int32) (wal : Nat → Int32) (fal : Nat → Int32) (tel : Int32) (gai : Int32) (day : Int32) (mar : Nat → Int32) (co : Int32) (wh : Int32) (r_top : rg 48 (-1) (23) top) (r_str : rg 48 (0) (100) str) (r_gho : rg 48 (-1) (23) gho) (r_ghs : rg 48 (0) (100) ghs) (r_cro : rg 48 (0) (6) cro) (r_pla : rg 24 (-1) (47) pla) (r_fal : rg 11 (0) (30) fal) (r_gai : 0 ≤ gai.toInt ∧ gai.toInt ≤ 100) (r_day : 0 ≤ day.toInt ∧ day.toInt ≤ 400) (r_mar : rg 24 (0) (255) mar) : KR l yX9_corner wsX9_corner { frames := 2, cells := 0, slots := 0, locals := 42 } (dC, dI) (TY cI cZ cQ) (wsC cI cZ cQ a rb0 rb1 rb2 db0 db1 db2 top str gho ghs pto cro pla wal fal tel gai day mar) [.ref (a 43), .int co, .int wh] (fun r : Int32 => (spCor top str gho ghs pto co wh r)) := by
  refine Met.ofW (cc := cX9_corner) (maxL := 3) (ret := (some .int)) (by decide) rfl ?_
  intro p e s m args below meth c s₁ B hml hv
  obtain ⟨rfl, hP, hK, hN⟩ := hv
  have hx := B.exec
  have hb := B.bytes
  have hr := B.returns
  have hts := atoms_spec (ws := wsX9_corner) B.pre
  have hown : s.vm.findClass RX9 = some m.cls := findClass_of_methodNamed B.named
  have hlocks := B.notSynchronized
  have lf28 := hts (.fieldLink RX9 28 "PalaceOfRooms" "corners" "LPalaceOfRooms$Corners;") (List.mem_cons_of_mem _ (List.mem_append_left _ (List.mem_append_left _ (List.mem_of_getElem? (i := 0) rfl))))
  have inX9 : ∀ w ∈ wsX90, w ∈ wsX9_corner := fun w h => List.mem_cons_of_mem _ (List.mem_append_left _ (List.mem_append_right _ h))
  have lf131 := hN.use (w := .fieldLinkNest "PalaceOfRooms" 131 "PalaceOfRooms$Corners" "top" "[I" "PalaceOfRooms") (List.mem_of_getElem? (i := 2) rfl) ([.ref (a 43), .int co, .int wh] : List Value).toArray
  have inX1 : ∀ w ∈ wsX10, w ∈ wsX9_corner := fun w h => List.mem_cons_of_mem _ (List.mem_append_right _ h)
  have lf141 := hN.use (w := .fieldLinkNest "PalaceOfRooms" 141 "PalaceOfRooms$Corners" "strength" "[I" "PalaceOfRooms") (List.mem_of_getElem? (i := 4) rfl) ([.ref (a 43), .int co, .int wh] : List Value).toArray
  have lf144 := hN.use (w := .fieldLinkNest "PalaceOfRooms" 144 "PalaceOfRooms$Corners" "ghost" "[I" "PalaceOfRooms") (List.mem_of_getElem? (i := 5) rfl) ([.ref (a 43), .int co, .int wh] : List Value).toArray
  have lf147 := hN.use (w := .fieldLinkNest "PalaceOfRooms" 147 "PalaceOfRooms$Corners" "ghostStrength" "[I" "PalaceOfRooms") (List.mem_of_getElem? (i := 6) rfl) ([.ref (a 43), .int co, .int wh] : List Value).toArray
  have lf150 := hN.use (w := .fieldLinkNest "PalaceOfRooms" 150 "PalaceOfRooms$Corners" "putOn" "[I" "PalaceOfRooms") (List.mem_of_getElem? (i := 7) rfl) ([.ref (a 43), .int co, .int wh] : List Value).toArray
  have hl := lv_entry ([.ref (a 43), .int co, .int wh]) (n := 3) (Nat.le_of_ble_eq_true rfl)
  rw [lg_entry_eq]
  generalize (lg_sl ([.ref (a 43), .int co, .int wh]) ++ List.replicate (3 - (lg_sl ([.ref (a 43), .int co, .int wh])).length) Slot.unset).toArray = ls at hl ⊢
  have hl : lv_has ls 3 [(0, .ref (a 43)), (1, .int co), (2, .int wh)] := hl
  refine lv_iload_n hx hb dX9_corner_0 rfl (lv_at hl 1 rfl) ?_
  refine rdS (As := [.int co]) (rest := []) ⟨hx, hb, hml, hown, hts⟩ (k_X9_isCorner l dC dI cI cZ cQ co) (va_cwS 1 hts gX9_corner_X9_isCorner rfl rfl rfl (by decide +kernel) ⟨Nat.le_of_ble_eq_true rfl, Nat.le_of_ble_eq_true rfl⟩) hP hK hN [] rfl rfl hl.1 rfl (Nat.le_of_ble_eq_true rfl) dX9_corner_1 ⟨Nat.le_of_ble_eq_true rfl, Nat.le_of_ble_eq_true rfl⟩ (fun r1 h2 => ?_)
  have h2 : ((((r1 = 1) ∧ (0 ≤ co.toInt) ∧ (co.toInt ≤ 47)) ∨ ((r1 = 0) ∧ (co.toInt < 0 ∨ 47 < co.toInt)))) := h2
  rcases h2 with (⟨rfl, h2_a0, h2_a1⟩ | ⟨rfl, h2_a0⟩)
  · refine lv_if_ne (tgt := 10) hx hb dX9_corner_4 (by decide) (fun _ => ?_) (fun c9 => absurd c9 (by decide))
    refine lv_iload_n hx hb dX9_corner_10 rfl (lv_at hl 2 rfl) ?_
    by_cases w3 : wh = 0
    · have dw3 : wh.toInt = 0 := eqC rfl rfl w3
      refine lv_tableIn (off := 33) (tgt := 44) hx hb dX9_corner_11 (by rw [w3]; decide) (by rw [w3]; decide) (by rw [w3]; decide) (by decide) ?_
      refine lv_aload_n hx hb dX9_corner_44 rfl (lv_at hl 0 rfl) ?_
      refine va_get (D := (dC, dI)) (ci := 9) (v := .ref (a 4)) (C := RX9) (T := TX9) (N := 11) hx hb hts inX9 hown hK hP 0 rfl rfl 2 (by decide) lf28 (fun _ h9 => h9) rfl dX9_corner_45 ?_
      refine va_getN (D := (dC, dI)) (ci := 1) (v := .ref (a 5)) (C := RX1) (T := TX1) (N := 13) hx hb hts inX1 hown hK hP 1 rfl rfl 1 (by decide) lf131 (fun _ h9 => h9) rfl dX9_corner_48 ?_
      refine lv_iload_n hx hb dX9_corner_51 rfl (lv_at hl 1 rfl) ?_
      have b4 : vp_in co 48 := inC rfl (by omega) (by omega)
      refine va_iald hx hb hK hP 2 0 rfl rfl b4 dX9_corner_52 ?_
      have g5 : -1 ≤ (top co.toNatClampNeg).toInt ∧ (top co.toNatClampNeg).toInt ≤ 23 := rg_at r_top b4
      exact W.iret (v := top co.toNatClampNeg) hx hb hr (fun tq ht hW => ⟨top co.toNatClampNeg, rfl, (show spCor top str gho ghs pto co wh (top co.toNatClampNeg) from by (first | exact Or.inl ⟨by omega, rfl⟩ | (refine Or.inr ⟨by omega, ?_⟩; first | exact Or.inl ⟨by omega, by first | rfl | assumption⟩ | exact Or.inr (Or.inl ⟨by omega, by first | exact Or.inl ⟨by assumption, rfl⟩ | exact Or.inr ⟨by assumption, by first | rfl | assumption⟩⟩) | exact Or.inr (Or.inr (Or.inl ⟨by omega, by first | rfl | assumption⟩)) | exact Or.inr (Or.inr (Or.inr (Or.inl ⟨by omega, by first | exact Or.inl ⟨by assumption, rfl⟩ | exact Or.inr ⟨by assumption, by first | rfl | assumption⟩⟩))) | exact Or.inr (Or.inr (Or.inr (Or.inr (Or.inl ⟨by omega, by first | rfl | assumption⟩)))) | exact Or.inr (Or.inr (Or.inr (Or.inr (Or.inr ⟨by omega, rfl⟩))))))), ht⟩) (fun q h => by cases h) dX9_corner_53
    by_cases w6 : wh = 1
    · have dw6 : wh.toInt = 1 := eqC rfl rfl w6
      refine lv_tableIn (off := 43) (tgt := 54) hx hb dX9_corner_11 (by rw [w6]; decide) (by rw [w6]; decide) (by rw [w6]; decide) (by decide) ?_
      refine lv_aload_n hx hb dX9_corner_54 rfl (lv_at hl 0 rfl) ?_
      refine va_get (D := (dC, dI)) (ci := 9) (v := .ref (a 4)) (C := RX9) (T := TX9) (N := 11) hx hb hts inX9 hown hK hP 0 rfl rfl 2 (by decide) lf28 (fun _ h9 => h9) rfl dX9_corner_55 ?_
      refine va_getN (D := (dC, dI)) (ci := 1) (v := .ref (a 5)) (C := RX1) (T := TX1) (N := 13) hx hb hts inX1 hown hK hP 1 rfl rfl 1 (by decide) lf131 (fun _ h9 => h9) rfl dX9_corner_58 ?_
      refine lv_iload_n hx hb dX9_corner_61 rfl (lv_at hl 1 rfl) ?_
      have b7 : vp_in co 48 := inC rfl (by omega) (by omega)
      refine va_iald hx hb hK hP 2 0 rfl rfl b7 dX9_corner_62 ?_
      have g8 : -1 ≤ (top co.toNatClampNeg).toInt ∧ (top co.toNatClampNeg).toInt ≤ 23 := rg_at r_top b7
      refine lv_iconst (v := (-1)) hx hb dX9_corner_63 (by decide) ?_
      refine lv_icmp_ne (tgt := 71) hx hb dX9_corner_64 (by decide) (fun c9 => ?_) (fun c9 => ?_)
      · have dc9 : 0 ≤ (top co.toNatClampNeg).toInt := ka_lo (by omega) (neC rfl (show ((-1) : Int32).toInt = (-1) from rfl) c9)
        refine lv_aload_n hx hb dX9_corner_71 rfl (lv_at hl 0 rfl) ?_
        refine va_get (D := (dC, dI)) (ci := 9) (v := .ref (a 4)) (C := RX9) (T := TX9) (N := 11) hx hb hts inX9 hown hK hP 0 rfl rfl 2 (by decide) lf28 (fun _ h9 => h9) rfl dX9_corner_72 ?_
        refine va_getN (D := (dC, dI)) (ci := 1) (v := .ref (a 6)) (C := RX1) (T := TX1) (N := 13) hx hb hts inX1 hown hK hP 1 rfl rfl 2 (by decide) lf141 (fun _ h9 => h9) rfl dX9_corner_75 ?_
        refine lv_iload_n hx hb dX9_corner_78 rfl (lv_at hl 1 rfl) ?_
        have b10 : vp_in co 48 := inC rfl (by omega) (by omega)
        refine va_iald hx hb hK hP 3 0 rfl rfl b10 dX9_corner_79 ?_
        have g11 : 0 ≤ (str co.toNatClampNeg).toInt ∧ (str co.toNatClampNeg).toInt ≤ 100 := rg_at r_str b10
        exact W.iret (v := str co.toNatClampNeg) hx hb hr (fun tq ht hW => ⟨str co.toNatClampNeg, rfl, (show spCor top str gho ghs pto co wh (str co.toNatClampNeg) from by (first | exact Or.inl ⟨by omega, rfl⟩ | (refine Or.inr ⟨by omega, ?_⟩; first | exact Or.inl ⟨by omega, by first | rfl | assumption⟩ | exact Or.inr (Or.inl ⟨by omega, by first | exact Or.inl ⟨by assumption, rfl⟩ | exact Or.inr ⟨by assumption, by first | rfl | assumption⟩⟩) | exact Or.inr (Or.inr (Or.inl ⟨by omega, by first | rfl | assumption⟩)) | exact Or.inr (Or.inr (Or.inr (Or.inl ⟨by omega, by first | exact Or.inl ⟨by assumption, rfl⟩ | exact Or.inr ⟨by assumption, by first | rfl | assumption⟩⟩))) | exact Or.inr (Or.inr (Or.inr (Or.inr (Or.inl ⟨by omega, by first | rfl | assumption⟩)))) | exact Or.inr (Or.inr (Or.inr (Or.inr (Or.inr ⟨by omega, rfl⟩))))))), ht⟩) (fun q h => by cases h) dX9_corner_80
      · have dc9 : (top co.toNatClampNeg).toInt = (-1) := eqC rfl (show ((-1) : Int32).toInt = (-1) from rfl) c9
        refine lv_iconst (v := (-1)) hx hb dX9_corner_67 (by decide) ?_
        refine lv_goto (tgt := 80) hx hb dX9_corner_68 (by decide) ?_
        exact W.iret (v := (-1)) hx hb hr (fun tq ht hW => ⟨(-1), rfl, (show spCor top str gho ghs pto co wh ((-1) : Int32) from by (try rw [show ((-1) : Int32).toInt = (-1) from (show ((-1) : Int32).toInt = (-1) from rfl)]); (first | exact Or.inl ⟨by omega, rfl⟩ | (refine Or.inr ⟨by omega, ?_⟩; first | exact Or.inl ⟨by omega, by first | rfl | assumption⟩ | exact Or.inr (Or.inl ⟨by omega, by first | exact Or.inl ⟨by assumption, rfl⟩ | exact Or.inr ⟨by assumption, by first | rfl | assumption⟩⟩) | exact Or.inr (Or.inr (Or.inl ⟨by omega, by first | rfl | assumption⟩)) | exact Or.inr (Or.inr (Or.inr (Or.inl ⟨by omega, by first | exact Or.inl ⟨by assumption, rfl⟩ | exact Or.inr ⟨by assumption, by first | rfl | assumption⟩⟩))) | exact Or.inr (Or.inr (Or.inr (Or.inr (Or.inl ⟨by omega, by first | rfl | assumption⟩)))) | exact Or.inr (Or.inr (Or.inr (Or.inr (Or.inr ⟨by omega, rfl⟩))))))), ht⟩) (fun q h => by cases h) dX9_corner_80
    by_cases w12 : wh = 2
    · have dw12 : wh.toInt = 2 := eqC rfl rfl w12
      refine lv_tableIn (off := 70) (tgt := 81) hx hb dX9_corner_11 (by rw [w12]; decide) (by rw [w12]; decide) (by rw [w12]; decide) (by decide) ?_
      refine lv_aload_n hx hb dX9_corner_81 rfl (lv_at hl 0 rfl) ?_
      refine va_get (D := (dC, dI)) (ci := 9) (v := .ref (a 4)) (C := RX9) (T := TX9) (N := 11) hx hb hts inX9 hown hK hP 0 rfl rfl 2 (by decide) lf28 (fun _ h9 => h9) rfl dX9_corner_82 ?_
      refine va_getN (D := (dC, dI)) (ci := 1) (v := .ref (a 7)) (C := RX1) (T := TX1) (N := 13) hx hb hts inX1 hown hK hP 1 rfl rfl 3 (by decide) lf144 (fun _ h9 => h9) rfl dX9_corner_85 ?_
      refine lv_iload_n hx hb dX9_corner_88 rfl (lv_at hl 1 rfl) ?_
      have b13 : vp_in co 48 := inC rfl (by omega) (by omega)
      refine va_iald hx hb hK hP 4 0 rfl rfl b13 dX9_corner_89 ?_
      have g14 : -1 ≤ (gho co.toNatClampNeg).toInt ∧ (gho co.toNatClampNeg).toInt ≤ 23 := rg_at r_gho b13
      exact W.iret (v := gho co.toNatClampNeg) hx hb hr (fun tq ht hW => ⟨gho co.toNatClampNeg, rfl, (show spCor top str gho ghs pto co wh (gho co.toNatClampNeg) from by (first | exact Or.inl ⟨by omega, rfl⟩ | (refine Or.inr ⟨by omega, ?_⟩; first | exact Or.inl ⟨by omega, by first | rfl | assumption⟩ | exact Or.inr (Or.inl ⟨by omega, by first | exact Or.inl ⟨by assumption, rfl⟩ | exact Or.inr ⟨by assumption, by first | rfl | assumption⟩⟩) | exact Or.inr (Or.inr (Or.inl ⟨by omega, by first | rfl | assumption⟩)) | exact Or.inr (Or.inr (Or.inr (Or.inl ⟨by omega, by first | exact Or.inl ⟨by assumption, rfl⟩ | exact Or.inr ⟨by assumption, by first | rfl | assumption⟩⟩))) | exact Or.inr (Or.inr (Or.inr (Or.inr (Or.inl ⟨by omega, by first | rfl | assumption⟩)))) | exact Or.inr (Or.inr (Or.inr (Or.inr (Or.inr ⟨by omega, rfl⟩))))))), ht⟩) (fun q h => by cases h) dX9_corner_90
    by_cases w15 : wh = 3
    · have dw15 : wh.toInt = 3 := eqC rfl rfl w15
      refine lv_tableIn (off := 80) (tgt := 91) hx hb dX9_corner_11 (by rw [w15]; decide) (by rw [w15]; decide) (by rw [w15]; decide) (by decide) ?_
      refine lv_aload_n hx hb dX9_corner_91 rfl (lv_at hl 0 rfl) ?_
      refine va_get (D := (dC, dI)) (ci := 9) (v := .ref (a 4)) (C := RX9) (T := TX9) (N := 11) hx hb hts inX9 hown hK hP 0 rfl rfl 2 (by decide) lf28 (fun _ h9 => h9) rfl dX9_corner_92 ?_
      refine va_getN (D := (dC, dI)) (ci := 1) (v := .ref (a 7)) (C := RX1) (T := TX1) (N := 13) hx hb hts inX1 hown hK hP 1 rfl rfl 3 (by decide) lf144 (fun _ h9 => h9) rfl dX9_corner_95 ?_
      refine lv_iload_n hx hb dX9_corner_98 rfl (lv_at hl 1 rfl) ?_
      have b16 : vp_in co 48 := inC rfl (by omega) (by omega)
      refine va_iald hx hb hK hP 4 0 rfl rfl b16 dX9_corner_99 ?_
      have g17 : -1 ≤ (gho co.toNatClampNeg).toInt ∧ (gho co.toNatClampNeg).toInt ≤ 23 := rg_at r_gho b16
      refine lv_iconst (v := (-1)) hx hb dX9_corner_100 (by decide) ?_
      refine lv_icmp_ne (tgt := 108) hx hb dX9_corner_101 (by decide) (fun c18 => ?_) (fun c18 => ?_)
      · have dc18 : 0 ≤ (gho co.toNatClampNeg).toInt := ka_lo (by omega) (neC rfl (show ((-1) : Int32).toInt = (-1) from rfl) c18)
        refine lv_aload_n hx hb dX9_corner_108 rfl (lv_at hl 0 rfl) ?_
        refine va_get (D := (dC, dI)) (ci := 9) (v := .ref (a 4)) (C := RX9) (T := TX9) (N := 11) hx hb hts inX9 hown hK hP 0 rfl rfl 2 (by decide) lf28 (fun _ h9 => h9) rfl dX9_corner_109 ?_
        refine va_getN (D := (dC, dI)) (ci := 1) (v := .ref (a 8)) (C := RX1) (T := TX1) (N := 13) hx hb hts inX1 hown hK hP 1 rfl rfl 4 (by decide) lf147 (fun _ h9 => h9) rfl dX9_corner_112 ?_
        refine lv_iload_n hx hb dX9_corner_115 rfl (lv_at hl 1 rfl) ?_
        have b19 : vp_in co 48 := inC rfl (by omega) (by omega)
        refine va_iald hx hb hK hP 5 0 rfl rfl b19 dX9_corner_116 ?_
        have g20 : 0 ≤ (ghs co.toNatClampNeg).toInt ∧ (ghs co.toNatClampNeg).toInt ≤ 100 := rg_at r_ghs b19
        exact W.iret (v := ghs co.toNatClampNeg) hx hb hr (fun tq ht hW => ⟨ghs co.toNatClampNeg, rfl, (show spCor top str gho ghs pto co wh (ghs co.toNatClampNeg) from by (first | exact Or.inl ⟨by omega, rfl⟩ | (refine Or.inr ⟨by omega, ?_⟩; first | exact Or.inl ⟨by omega, by first | rfl | assumption⟩ | exact Or.inr (Or.inl ⟨by omega, by first | exact Or.inl ⟨by assumption, rfl⟩ | exact Or.inr ⟨by assumption, by first | rfl | assumption⟩⟩) | exact Or.inr (Or.inr (Or.inl ⟨by omega, by first | rfl | assumption⟩)) | exact Or.inr (Or.inr (Or.inr (Or.inl ⟨by omega, by first | exact Or.inl ⟨by assumption, rfl⟩ | exact Or.inr ⟨by assumption, by first | rfl | assumption⟩⟩))) | exact Or.inr (Or.inr (Or.inr (Or.inr (Or.inl ⟨by omega, by first | rfl | assumption⟩)))) | exact Or.inr (Or.inr (Or.inr (Or.inr (Or.inr ⟨by omega, rfl⟩))))))), ht⟩) (fun q h => by cases h) dX9_corner_117
      · have dc18 : (gho co.toNatClampNeg).toInt = (-1) := eqC rfl (show ((-1) : Int32).toInt = (-1) from rfl) c18
        refine lv_iconst (v := (-1)) hx hb dX9_corner_104 (by decide) ?_
        refine lv_goto (tgt := 117) hx hb dX9_corner_105 (by decide) ?_
        exact W.iret (v := (-1)) hx hb hr (fun tq ht hW => ⟨(-1), rfl, (show spCor top str gho ghs pto co wh ((-1) : Int32) from by (try rw [show ((-1) : Int32).toInt = (-1) from (show ((-1) : Int32).toInt = (-1) from rfl)]); (first | exact Or.inl ⟨by omega, rfl⟩ | (refine Or.inr ⟨by omega, ?_⟩; first | exact Or.inl ⟨by omega, by first | rfl | assumption⟩ | exact Or.inr (Or.inl ⟨by omega, by first | exact Or.inl ⟨by assumption, rfl⟩ | exact Or.inr ⟨by assumption, by first | rfl | assumption⟩⟩) | exact Or.inr (Or.inr (Or.inl ⟨by omega, by first | rfl | assumption⟩)) | exact Or.inr (Or.inr (Or.inr (Or.inl ⟨by omega, by first | exact Or.inl ⟨by assumption, rfl⟩ | exact Or.inr ⟨by assumption, by first | rfl | assumption⟩⟩))) | exact Or.inr (Or.inr (Or.inr (Or.inr (Or.inl ⟨by omega, by first | rfl | assumption⟩)))) | exact Or.inr (Or.inr (Or.inr (Or.inr (Or.inr ⟨by omega, rfl⟩))))))), ht⟩) (fun q h => by cases h) dX9_corner_117
    by_cases w21 : wh = 4
    · have dw21 : wh.toInt = 4 := eqC rfl rfl w21
      refine lv_tableIn (off := 107) (tgt := 118) hx hb dX9_corner_11 (by rw [w21]; decide) (by rw [w21]; decide) (by rw [w21]; decide) (by decide) ?_
      refine lv_aload_n hx hb dX9_corner_118 rfl (lv_at hl 0 rfl) ?_
      refine va_get (D := (dC, dI)) (ci := 9) (v := .ref (a 4)) (C := RX9) (T := TX9) (N := 11) hx hb hts inX9 hown hK hP 0 rfl rfl 2 (by decide) lf28 (fun _ h9 => h9) rfl dX9_corner_119 ?_
      refine va_getN (D := (dC, dI)) (ci := 1) (v := .ref (a 9)) (C := RX1) (T := TX1) (N := 13) hx hb hts inX1 hown hK hP 1 rfl rfl 5 (by decide) lf150 (fun _ h9 => h9) rfl dX9_corner_122 ?_
      refine lv_iload_n hx hb dX9_corner_125 rfl (lv_at hl 1 rfl) ?_
      have b22 : vp_in co 48 := inC rfl (by omega) (by omega)
      refine va_iald hx hb hK hP 6 0 rfl rfl b22 dX9_corner_126 ?_
      exact W.iret (v := pto co.toNatClampNeg) hx hb hr (fun tq ht hW => ⟨pto co.toNatClampNeg, rfl, (show spCor top str gho ghs pto co wh (pto co.toNatClampNeg) from by (first | exact Or.inl ⟨by omega, rfl⟩ | (refine Or.inr ⟨by omega, ?_⟩; first | exact Or.inl ⟨by omega, by first | rfl | assumption⟩ | exact Or.inr (Or.inl ⟨by omega, by first | exact Or.inl ⟨by assumption, rfl⟩ | exact Or.inr ⟨by assumption, by first | rfl | assumption⟩⟩) | exact Or.inr (Or.inr (Or.inl ⟨by omega, by first | rfl | assumption⟩)) | exact Or.inr (Or.inr (Or.inr (Or.inl ⟨by omega, by first | exact Or.inl ⟨by assumption, rfl⟩ | exact Or.inr ⟨by assumption, by first | rfl | assumption⟩⟩))) | exact Or.inr (Or.inr (Or.inr (Or.inr (Or.inl ⟨by omega, by first | rfl | assumption⟩)))) | exact Or.inr (Or.inr (Or.inr (Or.inr (Or.inr ⟨by omega, rfl⟩))))))), ht⟩) (fun q h => by cases h) dX9_corner_127
    have nw3 : wh.toInt ≠ 0 := neC rfl rfl w3
    have nw6 : wh.toInt ≠ 1 := neC rfl rfl w6
    have nw12 : wh.toInt ≠ 2 := neC rfl rfl w12
    have nw15 : wh.toInt ≠ 3 := neC rfl rfl w15
    have nw21 : wh.toInt ≠ 4 := neC rfl rfl w21
    have o11 : wh.toInt < 0 ∨ 4 < wh.toInt := by rw [show wh.toInt = wh.toInt from rfl]; omega
    refine lv_tableOut (tgt := 128) hx hb dX9_corner_11 o11 (by decide) ?_
    refine lv_bipush (v := (-3)) hx hb dX9_corner_128 (by decide) ?_
    exact W.iret (v := (-3)) hx hb hr (fun tq ht hW => ⟨(-3), rfl, (show spCor top str gho ghs pto co wh ((-3) : Int32) from by (try rw [show ((-3) : Int32).toInt = (-3) from (show ((-3) : Int32).toInt = (-3) from rfl)]); (first | exact Or.inl ⟨by omega, rfl⟩ | (refine Or.inr ⟨by omega, ?_⟩; first | exact Or.inl ⟨by omega, by first | rfl | assumption⟩ | exact Or.inr (Or.inl ⟨by omega, by first | exact Or.inl ⟨by assumption, rfl⟩ | exact Or.inr ⟨by assumption, by first | rfl | assumption⟩⟩) | exact Or.inr (Or.inr (Or.inl ⟨by omega, by first | rfl | assumption⟩)) | exact Or.inr (Or.inr (Or.inr (Or.inl ⟨by omega, by first | exact Or.inl ⟨by assumption, rfl⟩ | exact Or.inr ⟨by assumption, by first | rfl | assumption⟩⟩))) | exact Or.inr (Or.inr (Or.inr (Or.inr (Or.inl ⟨by omega, by first | rfl | assumption⟩)))) | exact Or.inr (Or.inr (Or.inr (Or.inr (Or.inr ⟨by omega, rfl⟩))))))), ht⟩) (fun q h => by cases h) dX9_corner_130
  · refine lv_if_ne (tgt := 10) hx hb dX9_corner_4 (by decide) (fun c9 => absurd (by decide) c9) (fun _ => ?_)
    refine lv_bipush (v := (-2)) hx hb dX9_corner_7 (by decide) ?_
    exact W.iret (v := (-2)) hx hb hr (fun tq ht hW => ⟨(-2), rfl, (show spCor top str gho ghs pto co wh ((-2) : Int32) from by (try rw [show ((-2) : Int32).toInt = (-2) from (show ((-2) : Int32).toInt = (-2) from rfl)]); (first | exact Or.inl ⟨by omega, rfl⟩ | (refine Or.inr ⟨by omega, ?_⟩; first | exact Or.inl ⟨by omega, by first | rfl | assumption⟩ | exact Or.inr (Or.inl ⟨by omega, by first | exact Or.inl ⟨by assumption, rfl⟩ | exact Or.inr ⟨by assumption, by first | rfl | assumption⟩⟩) | exact Or.inr (Or.inr (Or.inl ⟨by omega, by first | rfl | assumption⟩)) | exact Or.inr (Or.inr (Or.inr (Or.inl ⟨by omega, by first | exact Or.inl ⟨by assumption, rfl⟩ | exact Or.inr ⟨by assumption, by first | rfl | assumption⟩⟩))) | exact Or.inr (Or.inr (Or.inr (Or.inr (Or.inl ⟨by omega, by first | rfl | assumption⟩)))) | exact Or.inr (Or.inr (Or.inr (Or.inr (Or.inr ⟨by omega, rfl⟩))))))), ht⟩) (fun q h => by cases h) dX9_corner_9
set_option maxHeartbeats 4000000 in
set_option maxRecDepth 100000 in
theorem k_X9_walk2 (l : Launch) (dC : Nat → ClassId) (dI : Nat → Nat → Nat) (cI cZ cQ : ClassId) (a : Nat → Nat) (rb0 : Nat) (rb1 : Nat) (rb2 : Nat) (db0 : Nat) (db1 : Nat) (db2 : Nat) (top : Nat → Int32) (str : Nat → Int32) (gho : Nat → Int32) (ghs : Nat → Int32) (pto : Nat → Int32) (cro : Nat → Int32) (pla : Nat → Int32) (wal : Nat → Int32) (fal : Nat → Int32) (tel : Int32) (gai : Int32) (day : Int32) (mar : Nat → Int32) (sz : Nat) (ro : Int32) (r_top : rg 48 (-1) (23) top) (r_str : rg 48 (0) (100) str) (r_gho : rg 48 (-1) (23) gho) (r_ghs : rg 48 (0) (100) ghs) (r_cro : rg 48 (0) (6) cro) (r_pla : rg 24 (-1) (47) pla) (r_fal : rg 11 (0) (30) fal) (r_gai : 0 ≤ gai.toInt ∧ gai.toInt ≤ 100) (r_day : 0 ≤ day.toInt ∧ day.toInt ≤ 400) (r_mar : rg 24 (0) (255) mar) : KW l yX9_walk wsX9_walk { frames := 2, cells := 0, slots := 0, locals := 46 } (dC, dI) (TY cI cZ cQ) (wsC cI cZ cQ a rb0 rb1 rb2 db0 db1 db2 top str gho ghs pto cro pla wal fal tel gai day mar) [.ref (a 43), .int ro] sz 0 0 (fun (r : Int32) (u : US) => (spWlkC top str wal gai day ro r (u.1 0) (u.1 1)) ∧ (rg 48 (0) (100) (u.1 0))) (fun u : US => (wsC cI cZ cQ a rb0 rb1 rb2 db0 db1 db2 top (u.1 0) gho ghs pto cro pla (u.1 1) fal tel gai day mar)) := by
  refine Met.ofW (cc := cX9_walk) (maxL := 2) (ret := (some .int)) (by decide) rfl ?_
  intro p e s m args below meth c s₁ B hml hv
  obtain ⟨rfl, hsz, hP, hK, hD0, hN⟩ := hv
  have hx := B.exec
  have hb := B.bytes
  have hr := B.returns
  have hts := atoms_spec (ws := wsX9_walk) B.pre
  have hown : s.vm.findClass RX9 = some m.cls := findClass_of_methodNamed B.named
  have hlocks := B.notSynchronized
  have lf28 := hts (.fieldLink RX9 28 "PalaceOfRooms" "corners" "LPalaceOfRooms$Corners;") (List.mem_cons_of_mem _ (List.mem_append_left _ (List.mem_append_left _ (List.mem_of_getElem? (i := 0) rfl))))
  have inX9 : ∀ w ∈ wsX90, w ∈ wsX9_walk := fun w h => List.mem_cons_of_mem _ (List.mem_append_left _ (List.mem_append_right _ h))
  subst hsz
  have hD := hD0.self (sz := s.heap.size)
  generalize hAe : va_A (wsC cI cZ cQ a rb0 rb1 rb2 db0 db1 db2 top str gho ghs pto cro pla wal fal tel gai day mar) s.heap.size = A at hD ⊢
  have hA : ∀ q : Nat, s.heap.size ≤ q → A q := fun q h => by rw [← hAe]; exact Or.inr h
  have hS : va_S A s.heap s.heap [] := va_S.rf
  have hl := lv_entry ([.ref (a 43), .int ro]) (n := 2) (Nat.le_of_ble_eq_true rfl)
  rw [lg_entry_eq]
  generalize (lg_sl ([.ref (a 43), .int ro]) ++ List.replicate (2 - (lg_sl ([.ref (a 43), .int ro])).length) Slot.unset).toArray = ls at hl ⊢
  have hl : lv_has ls 2 [(0, .ref (a 43)), (1, .int ro)] := hl
  refine lv_iload_n hx hb dX9_walk_0 rfl (lv_at hl 1 rfl) ?_
  refine rdS (As := [.int ro]) (rest := []) ⟨hx, hb, hml, hown, hts⟩ (k_X9_isRoom l dC dI cI cZ cQ ro) (va_cwS 1 hts gX9_walk_X9_isRoom rfl rfl rfl (by decide +kernel) ⟨Nat.le_of_ble_eq_true rfl, Nat.le_of_ble_eq_true rfl⟩) hP hK hN [] rfl rfl hl.1 rfl (Nat.le_of_ble_eq_true rfl) dX9_walk_1 ⟨Nat.le_of_ble_eq_true rfl, Nat.le_of_ble_eq_true rfl⟩ (fun r1 h2 => ?_)
  have h2 : ((((r1 = 1) ∧ (0 ≤ ro.toInt) ∧ (ro.toInt ≤ 7)) ∨ ((r1 = 0) ∧ (ro.toInt < 0 ∨ 7 < ro.toInt)))) := h2
  rcases h2 with (⟨rfl, h2_a0, h2_a1⟩ | ⟨rfl, h2_a0⟩)
  · refine lv_if_eq (tgt := 18) hx hb dX9_walk_4 (by decide) (fun c9 => absurd c9 (by decide)) (fun _ => ?_)
    refine lv_aload_n hx hb dX9_walk_7 rfl (lv_at hl 0 rfl) ?_
    refine va_get (D := (dC, dI)) (ci := 9) (v := .ref (a 4)) (C := RX9) (T := TX9) (N := 11) hx hb hts inX9 hown hK hP 0 rfl rfl 2 (by decide) lf28 (fun _ h9 => h9) rfl dX9_walk_8 ?_
    refine lv_iload_n hx hb dX9_walk_11 rfl (lv_at hl 1 rfl) ?_
    refine wrV (As := [.int ro]) (rest := []) (wr := [((a 43), .inr (9, [.ref (a 0), .ref (a 2), .ref (a 4), .ref (a 14), .ref (a 16), .ref (a 23), .ref (a 28), .ref (a 33), .ref (a 42), .ref rb0, .ref db0]))]) (w2 := (fun u : US => (wsC cI cZ cQ a rb0 rb1 rb2 db0 db1 db2 top (u.1 0) gho ghs pto cro pla (u.1 1) fal tel gai day mar))) ⟨hx, hb, hml, hown, hts⟩ (k_X1_walkPast2 l dC dI cI cZ cQ a top str gho ghs pto cro pla wal fal tel gai day mar _ ro r_top r_str r_gho r_ghs r_cro r_pla r_fal r_gai r_day r_mar (by omega) (by omega)) (cwV 1 hts gX9_walk_X1_walkPast rfl rfl rfl (by decide +kernel) ⟨Nat.le_of_ble_eq_true rfl, Nat.le_of_ble_eq_true rfl⟩) hP hD hS hA hK hN [1, 2, 3, 4, 5, 6, 7, 8, 9, 10, 11, 12] [0] [0, 1, 2, 3, 4, 5, 6, 7, 8, 9, 10, 11, 12] rfl rfl (by decide) (by decide) (by decide) (fun _ => rfl) (by decide) 1 1 rfl rfl rfl hl.1 rfl (Nat.le_of_ble_eq_true rfl) dX9_walk_12 ⟨Nat.le_of_ble_eq_true rfl, Nat.le_of_ble_eq_true rfl⟩ (fun r3 u5 H locs h4 hP hD hS => ?_)
    obtain ⟨str_c6, estr_c6⟩ : ∃ f : Nat → Int32, f = (u5.1 0) := ⟨_, rfl⟩
    obtain ⟨wal_c7, ewal_c7⟩ : ∃ f : Nat → Int32, f = (u5.1 1) := ⟨_, rfl⟩
    have hP : va_P (dC, dI) vwCl (wsC cI cZ cQ a rb0 rb1 rb2 db0 db1 db2 top str_c6 gho ghs pto cro pla wal_c7 fal tel gai day mar) H := by rw [estr_c6, ewal_c7]; exact hP
    have hD : va_D A (wsC cI cZ cQ a rb0 rb1 rb2 db0 db1 db2 top str_c6 gho ghs pto cro pla wal_c7 fal tel gai day mar) := by rw [estr_c6, ewal_c7]; exact hD
    have h4 : (wkS top str gai.toInt (ro.toInt * 6) (ro.toInt * 6 + 6) str_c6 r3.toInt) ∧ (wal_c7 = upd wal ro.toNatClampNeg day) ∧ (rg 48 (0) (100) str_c6) := by (try rw [estr_c6]); (try rw [ewal_c7]); exact h4
    obtain ⟨h4_0, h4_1, h4_2⟩ := h4
    refine lv_goto (tgt := 20) hx hb dX9_walk_15 (by decide) ?_
    exact W.iret (v := r3) hx hb hr (fun tq ht hW => ⟨⟨r3, (uS [str_c6, wal_c7] 0 (fun _ => 0)), rfl, ⟨(show spWlkC top str wal gai day ro r3 str_c6 wal_c7 from by (first | exact Or.inl ⟨by omega, rfl, rfl, rfl⟩ | exact Or.inr ⟨by omega, by assumption, by assumption⟩)), h4_2⟩, by rw [ht]; exact hP, hD⟩, hS.F ht⟩) hS.2.2 dX9_walk_20
  · refine lv_if_eq (tgt := 18) hx hb dX9_walk_4 (by decide) (fun _ => ?_) (fun c9 => absurd (by decide) c9)
    refine lv_bipush (v := (-2)) hx hb dX9_walk_18 (by decide) ?_
    exact W.iret (v := (-2)) hx hb hr (fun tq ht hW => ⟨⟨(-2), (uS [str, wal] 0 (fun _ => 0)), rfl, ⟨(show spWlkC top str wal gai day ro ((-2) : Int32) str wal from by (try rw [show ((-2) : Int32).toInt = (-2) from (show ((-2) : Int32).toInt = (-2) from rfl)]); (first | exact Or.inl ⟨by omega, rfl, rfl, rfl⟩ | exact Or.inr ⟨by omega, by assumption, by assumption⟩)), r_str⟩, by rw [ht]; exact hP, hD⟩, hS.F ht⟩) hS.2.2 dX9_walk_20
set_option maxHeartbeats 4000000 in
set_option maxRecDepth 100000 in
theorem k_X10_put3 (l : Launch) (dC : Nat → ClassId) (dI : Nat → Nat → Nat) (cI cZ cQ : ClassId) (b : Nat → Nat) (mday : Int32) (mdoo : Int32) (mdA : Nat → Int32) (mdB : Nat → Int32) (mfar : Nat → Int32) (mmar : Nat → Int32) (mtel : Int32) (mgai : Int32) (mfal : Nat → Int32) (mtop : Nat → Int32) (mstr : Nat → Int32) (mgho : Nat → Int32) (mfai : Nat → Int32) (mpto : Nat → Int32) (mwal : Nat → Int32) (mahd : Nat → Int32) (mahf : Nat → Int32) (mcho : Nat → Int32) (mbes : Nat → Int32) (mbyt : Int32) (mtxt : Nat → Int32) (mpos : Int32) (mtka : Int32) (mtok : Int64) (mdig : Int32) (mnum : Int32) (mfau : Int32) (mrdm : Int32) (mrea : Nat → Int32) (mlin : Int32) (mlne : Nat → Int32) (mthg : Nat → Int32) (mord : Nat → Int32) (mbor : Nat → Int32) (mbsm : Int32) (mans : Nat → Int32) (mand : Nat → Int32) (manr : Nat → Int32) (mali : Nat → Int32) (sz : Nat) (t : Int32) (co : Int32) (r_mday : 0 ≤ mday.toInt ∧ mday.toInt ≤ 400) (r_mdoo : 0 ≤ mdoo.toInt ∧ mdoo.toInt ≤ 14) (r_mdA : rg 14 (0) (7) mdA) (r_mdB : rg 14 (0) (7) mdB) (r_mmar : rg 24 (0) (255) mmar) (r_mgai : 0 ≤ mgai.toInt ∧ mgai.toInt ≤ 100) (r_mfal : rg 11 (0) (30) mfal) (r_mtop : rg 48 (-1) (23) mtop) (r_mstr : rg 48 (0) (100) mstr) (r_mgho : rg 48 (-1) (23) mgho) (r_mfai : rg 48 (0) (100) mfai) (r_mahd : rg 240 (0) (100) mahd) (r_mahf : rg 240 (0) (100) mahf) (r_mcho : rg 5 (-1) (9) mcho) (r_mbyt : 0 ≤ mbyt.toInt ∧ mbyt.toInt ≤ 160) (r_mpos : 0 ≤ mpos.toInt ∧ mpos.toInt ≤ 160) (r_mrdm : 0 ≤ mrdm.toInt ∧ mrdm.toInt ≤ 10) (r_mlin : 0 ≤ mlin.toInt ∧ mlin.toInt ≤ 10) (r_mthg : rg 8 (0) (31) mthg) (r_mord : rg 8 (-1) (8) mord) (r_mans : rg 4 (0) (12) mans) : KW l yX10_put wsX10_put { frames := 2, cells := 0, slots := 0, locals := 42 } (dC, dI) (TY cI cZ cQ) (wMod cI cZ cQ b mday mdoo mdA mdB mfar mmar mtel mgai mfal mtop mstr mgho mfai mpto mwal mahd mahf mcho mbes mbyt mtxt mpos mtka mtok mdig mnum mfau mrdm mrea mlin mlne mthg mord mbor mbsm mans mand manr mali) [.ref (b 39), .int t, .int co] sz 0 0 (fun (r : Int32) (u : US) => (spPutM mtop mstr mgho mfai mpto mday t co r (u.1 2) (u.1 3) (u.1 0) (u.1 1) (u.1 4)) ∧ (rg 48 (-1) (23) (u.1 0)) ∧ (rg 48 (0) (100) (u.1 1)) ∧ (rg 48 (-1) (23) (u.1 2)) ∧ (rg 48 (0) (100) (u.1 3))) (fun u : US => (wMod cI cZ cQ b mday mdoo mdA mdB mfar mmar mtel mgai mfal (u.1 2) (u.1 3) (u.1 0) (u.1 1) (u.1 4) mwal mahd mahf mcho mbes mbyt mtxt mpos mtka mtok mdig mnum mfau mrdm mrea mlin mlne mthg mord mbor mbsm mans mand manr mali)) := by
  refine Met.ofW (cc := cX10_put) (maxL := 5) (ret := (some .int)) (by decide) rfl ?_
  intro p e s m args below meth c s₁ B hml hv
  obtain ⟨rfl, hsz, hP, hK, hD0, hN⟩ := hv
  have hx := B.exec
  have hb := B.bytes
  have hr := B.returns
  have hts := atoms_spec (ws := wsX10_put) B.pre
  have hown : s.vm.findClass RX10 = some m.cls := findClass_of_methodNamed B.named
  have hlocks := B.notSynchronized
  have lf32 := hts (.fieldLink RX10 32 "PalaceOfRoomsModel" "top" "[I") (List.mem_cons_of_mem _ (List.mem_append_left _ (List.mem_of_getElem? (i := 0) rfl)))
  have inX10 : ∀ w ∈ wsX100, w ∈ wsX10_put := fun w h => List.mem_cons_of_mem _ (List.mem_append_right _ h)
  have lf38 := hts (.fieldLink RX10 38 "PalaceOfRoomsModel" "ghost" "[I") (List.mem_cons_of_mem _ (List.mem_append_left _ (List.mem_of_getElem? (i := 2) rfl)))
  have lf41 := hts (.fieldLink RX10 41 "PalaceOfRoomsModel" "faint" "[I") (List.mem_cons_of_mem _ (List.mem_append_left _ (List.mem_of_getElem? (i := 3) rfl)))
  have lf35 := hts (.fieldLink RX10 35 "PalaceOfRoomsModel" "strength" "[I") (List.mem_cons_of_mem _ (List.mem_append_left _ (List.mem_of_getElem? (i := 1) rfl)))
  have lf44 := hts (.fieldLink RX10 44 "PalaceOfRoomsModel" "putOn" "[I") (List.mem_cons_of_mem _ (List.mem_append_left _ (List.mem_of_getElem? (i := 4) rfl)))
  have lf125 := hts (.fieldLink RX10 125 "PalaceOfRoomsModel" "day" "I") (List.mem_cons_of_mem _ (List.mem_append_left _ (List.mem_of_getElem? (i := 5) rfl)))
  subst hsz
  have hD := hD0.self (sz := s.heap.size)
  generalize hAe : va_A (wMod cI cZ cQ b mday mdoo mdA mdB mfar mmar mtel mgai mfal mtop mstr mgho mfai mpto mwal mahd mahf mcho mbes mbyt mtxt mpos mtka mtok mdig mnum mfau mrdm mrea mlin mlne mthg mord mbor mbsm mans mand manr mali) s.heap.size = A at hD ⊢
  have hA : ∀ q : Nat, s.heap.size ≤ q → A q := fun q h => by rw [← hAe]; exact Or.inr h
  have hS : va_S A s.heap s.heap [] := va_S.rf
  have hl := lv_entry ([.ref (b 39), .int t, .int co]) (n := 5) (Nat.le_of_ble_eq_true rfl)
  rw [lg_entry_eq]
  generalize (lg_sl ([.ref (b 39), .int t, .int co]) ++ List.replicate (5 - (lg_sl ([.ref (b 39), .int t, .int co])).length) Slot.unset).toArray = ls at hl ⊢
  have hl : lv_has ls 5 [(0, .ref (b 39)), (1, .int t), (2, .int co)] := hl
  refine lv_iload_n hx hb dX10_put_0 rfl (lv_at hl 1 rfl) ?_
  refine rdS (As := [.int t]) (rest := []) ⟨hx, hb, hml, hown, hts⟩ (k_X10_isThing l dC dI cI cZ cQ t) (va_cwS 1 hts gX10_put_X10_isThing rfl rfl rfl (by decide +kernel) ⟨Nat.le_of_ble_eq_true rfl, Nat.le_of_ble_eq_true rfl⟩) hP hK hN [] rfl rfl hl.1 rfl (Nat.le_of_ble_eq_true rfl) dX10_put_1 ⟨Nat.le_of_ble_eq_true rfl, Nat.le_of_ble_eq_true rfl⟩ (fun r1 h2 => ?_)
  have h2 : ((((r1 = 1) ∧ (0 ≤ t.toInt) ∧ (t.toInt ≤ 23)) ∨ ((r1 = 0) ∧ (t.toInt < 0 ∨ 23 < t.toInt)))) := h2
  rcases h2 with (⟨rfl, h2_a0, h2_a1⟩ | ⟨rfl, h2_a0⟩)
  · refine lv_if_eq (tgt := 14) hx hb dX10_put_4 (by decide) (fun c9 => absurd c9 (by decide)) (fun _ => ?_)
    refine lv_iload_n hx hb dX10_put_7 rfl (lv_at hl 2 rfl) ?_
    refine rdS (As := [.int co]) (rest := []) ⟨hx, hb, hml, hown, hts⟩ (k_X10_isCorner l dC dI cI cZ cQ co) (va_cwS 1 hts gX10_put_X10_isCorner rfl rfl rfl (by decide +kernel) ⟨Nat.le_of_ble_eq_true rfl, Nat.le_of_ble_eq_true rfl⟩) hP hK hN [] rfl rfl hl.1 rfl (Nat.le_of_ble_eq_true rfl) dX10_put_8 ⟨Nat.le_of_ble_eq_true rfl, Nat.le_of_ble_eq_true rfl⟩ (fun r3 h4 => ?_)
    have h4 : ((((r3 = 1) ∧ (0 ≤ co.toInt) ∧ (co.toInt ≤ 47)) ∨ ((r3 = 0) ∧ (co.toInt < 0 ∨ 47 < co.toInt)))) := h4
    rcases h4 with (⟨rfl, h4_a0, h4_a1⟩ | ⟨rfl, h4_a0⟩)
    · refine lv_if_ne (tgt := 17) hx hb dX10_put_11 (by decide) (fun _ => ?_) (fun c9 => absurd c9 (by decide))
      refine lv_aload_n hx hb dX10_put_17 rfl (lv_at hl 0 rfl) ?_
      refine lv_iload_n hx hb dX10_put_18 rfl (lv_at hl 1 rfl) ?_
      refine rdV (As := [.int t]) (rest := []) ⟨hx, hb, hml, hown, hts⟩ (k_X10_cornerOf2 l dC dI cI cZ cQ b mday mdoo mdA mdB mfar mmar mtel mgai mfal mtop mstr mgho mfai mpto mwal mahd mahf mcho mbes mbyt mtxt mpos mtka mtok mdig mnum mfau mrdm mrea mlin mlne mthg mord mbor mbsm mans mand manr mali t r_mday r_mdoo r_mdA r_mdB r_mmar r_mgai r_mfal r_mtop r_mstr r_mgho r_mfai r_mahd r_mahf r_mcho r_mbyt r_mpos r_mrdm r_mlin r_mthg r_mord r_mans) (cwV 1 hts gX10_put_X10_cornerOf rfl rfl rfl (by decide +kernel) ⟨Nat.le_of_ble_eq_true rfl, Nat.le_of_ble_eq_true rfl⟩) hP hK hN [0, 1, 2, 3, 4, 5, 6, 7, 8, 9, 10, 11, 12, 13, 14, 15, 16, 17, 18, 19, 20, 21, 22, 23, 24, 25] rfl 0 10 rfl rfl rfl hl.1 rfl (Nat.le_of_ble_eq_true rfl) dX10_put_19 ⟨Nat.le_of_ble_eq_true rfl, Nat.le_of_ble_eq_true rfl⟩ (fun r5 h6 => ?_)
      have h6 : (-1 ≤ r5.toInt) ∧ (r5.toInt ≤ 47) ∧ (whr mtop t r5) := h6
      obtain ⟨h6_0, h6_1, h6_2⟩ := h6
      refine lv_iconst (v := (-1)) hx hb dX10_put_22 (by decide) ?_
      refine lv_icmp_eq (tgt := 29) hx hb dX10_put_23 (by decide) (fun c7 => ?_) (fun c7 => ?_)
      · have dc7 : r5.toInt = (-1) := eqC rfl (show ((-1) : Int32).toInt = (-1) from rfl) c7
        refine lv_aload_n hx hb dX10_put_29 rfl (lv_at hl 0 rfl) ?_
        refine va_get (D := (dC, dI)) (ci := 10) (v := .ref (b 9)) (C := RX10) (T := TX10) (N := 39) hx hb hts inX10 hown hK hP 0 rfl rfl 9 (by decide) lf32 (fun _ h9 => h9) rfl dX10_put_30 ?_
        refine lv_iload_n hx hb dX10_put_33 rfl (lv_at hl 2 rfl) ?_
        have b8 : vp_in co 48 := inC rfl (by omega) (by omega)
        refine va_iald hx hb hK hP 6 0 rfl rfl b8 dX10_put_34 ?_
        have g9 : -1 ≤ (mtop co.toNatClampNeg).toInt ∧ (mtop co.toNatClampNeg).toInt ≤ 23 := rg_at r_mtop b8
        refine lv_topi (fun x10 ex10 => ?_)
        have ix10 : x10.toInt = (mtop co.toNatClampNeg).toInt := by rw [ex10]
        refine lv_istore_n (lv' := [(3, .int x10), (0, .ref (b 39)), (1, .int t), (2, .int co)]) hx hb dX10_put_35 rfl hl (by decide) rfl (fun ls hl => ?_)
        refine lv_iload_n hx hb dX10_put_36 rfl (lv_at hl 0 rfl) ?_
        refine lv_iconst (v := (-1)) hx hb dX10_put_37 (by decide) ?_
        refine lv_icmp_eq (tgt := 54) hx hb dX10_put_38 (by decide) (fun c11 => ?_) (fun c11 => ?_)
        · have dc11 : x10.toInt = (-1) := eqC rfl (show ((-1) : Int32).toInt = (-1) from rfl) c11
          refine lv_iconst (v := 0) hx hb dX10_put_54 (by decide) ?_
          refine lv_istore (lv' := [(4, .int 0), (3, .int x10), (0, .ref (b 39)), (1, .int t), (2, .int co)]) hx hb dX10_put_55 hl (by decide) rfl (fun ls hl => ?_)
          refine lv_aload_n hx hb dX10_put_57 rfl (lv_at hl 2 rfl) ?_
          refine va_get (D := (dC, dI)) (ci := 10) (v := .ref (b 11)) (C := RX10) (T := TX10) (N := 39) hx hb hts inX10 hown hK hP 0 rfl rfl 11 (by decide) lf38 (fun _ h9 => h9) rfl dX10_put_58 ?_
          refine lv_iload_n hx hb dX10_put_61 rfl (lv_at hl 4 rfl) ?_
          refine lv_iload hx hb dX10_put_62 (lv_at hl 0 rfl) ?_
          refine lv_if_eq (tgt := 71) hx hb dX10_put_64 (by decide) (fun _ => ?_) (fun c9 => absurd (by decide) c9)
          refine lv_iconst (v := (-1)) hx hb dX10_put_71 (by decide) ?_
          have b12 : vp_in co 48 := inC rfl (by omega) (by omega)
          have g13 : rg 48 (-1) (23) (upd mgho co.toNatClampNeg (-1)) := rg_upd r_mgho (show ((-1) : Int32).toInt = (-1) from rfl) (by omega) (by omega)
          refine va_iast hx hb hK hP hD hS 8 0 rfl rfl b12 dX10_put_72 (fun H locs hP hD hS => ?_)
          obtain ⟨mgho_u14, emgho_u14⟩ : ∃ f : Nat → Int32, f = upd mgho co.toNatClampNeg (-1) := ⟨_, rfl⟩
          have rmgho_u14 : rg 48 (-1) (23) mgho_u14 := by rw [emgho_u14]; exact g13
          have hP : va_P (dC, dI) vwCl (wMod cI cZ cQ b mday mdoo mdA mdB mfar mmar mtel mgai mfal mtop mstr mgho_u14 mfai mpto mwal mahd mahf mcho mbes mbyt mtxt mpos mtka mtok mdig mnum mfau mrdm mrea mlin mlne mthg mord mbor mbsm mans mand manr mali) H := by rw [emgho_u14]; exact hP
          have hD : va_D A (wMod cI cZ cQ b mday mdoo mdA mdB mfar mmar mtel mgai mfal mtop mstr mgho_u14 mfai mpto mwal mahd mahf mcho mbes mbyt mtxt mpos mtka mtok mdig mnum mfau mrdm mrea mlin mlne mthg mord mbor mbsm mans mand manr mali) := by rw [emgho_u14]; exact hD
          refine lv_aload_n hx hb dX10_put_73 rfl (lv_at hl 2 rfl) ?_
          refine va_get (D := (dC, dI)) (ci := 10) (v := .ref (b 12)) (C := RX10) (T := TX10) (N := 39) hx hb hts inX10 hown hK hP 0 rfl rfl 12 (by decide) lf41 (fun _ h9 => h9) rfl dX10_put_74 ?_
          refine lv_iload_n hx hb dX10_put_77 rfl (lv_at hl 4 rfl) ?_
          refine lv_iload hx hb dX10_put_78 (lv_at hl 0 rfl) ?_
          refine lv_if_eq (tgt := 92) hx hb dX10_put_80 (by decide) (fun _ => ?_) (fun c9 => absurd (by decide) c9)
          refine lv_iconst (v := 0) hx hb dX10_put_92 (by decide) ?_
          have b15 : vp_in co 48 := inC rfl (by omega) (by omega)
          have g16 : rg 48 (0) (100) (upd mfai co.toNatClampNeg 0) := rg_upd r_mfai (show (0 : Int32).toInt = 0 from rfl) (by omega) (by omega)
          refine va_iast hx hb hK hP hD hS 9 0 rfl rfl b15 dX10_put_93 (fun H locs hP hD hS => ?_)
          obtain ⟨mfai_u17, emfai_u17⟩ : ∃ f : Nat → Int32, f = upd mfai co.toNatClampNeg 0 := ⟨_, rfl⟩
          have rmfai_u17 : rg 48 (0) (100) mfai_u17 := by rw [emfai_u17]; exact g16
          have hP : va_P (dC, dI) vwCl (wMod cI cZ cQ b mday mdoo mdA mdB mfar mmar mtel mgai mfal mtop mstr mgho_u14 mfai_u17 mpto mwal mahd mahf mcho mbes mbyt mtxt mpos mtka mtok mdig mnum mfau mrdm mrea mlin mlne mthg mord mbor mbsm mans mand manr mali) H := by rw [emfai_u17]; exact hP
          have hD : va_D A (wMod cI cZ cQ b mday mdoo mdA mdB mfar mmar mtel mgai mfal mtop mstr mgho_u14 mfai_u17 mpto mwal mahd mahf mcho mbes mbyt mtxt mpos mtka mtok mdig mnum mfau mrdm mrea mlin mlne mthg mord mbor mbsm mans mand manr mali) := by rw [emfai_u17]; exact hD
          refine lv_aload_n hx hb dX10_put_94 rfl (lv_at hl 2 rfl) ?_
          refine va_get (D := (dC, dI)) (ci := 10) (v := .ref (b 9)) (C := RX10) (T := TX10) (N := 39) hx hb hts inX10 hown hK hP 0 rfl rfl 9 (by decide) lf32 (fun _ h9 => h9) rfl dX10_put_95 ?_
          refine lv_iload_n hx hb dX10_put_98 rfl (lv_at hl 4 rfl) ?_
          refine lv_iload_n hx hb dX10_put_99 rfl (lv_at hl 3 rfl) ?_
          have b18 : vp_in co 48 := inC rfl (by omega) (by omega)
          have g19 : rg 48 (-1) (23) (upd mtop co.toNatClampNeg t) := rg_upd r_mtop rfl (by omega) (by omega)
          refine va_iast hx hb hK hP hD hS 6 0 rfl rfl b18 dX10_put_100 (fun H locs hP hD hS => ?_)
          obtain ⟨mtop_u20, emtop_u20⟩ : ∃ f : Nat → Int32, f = upd mtop co.toNatClampNeg t := ⟨_, rfl⟩
          have rmtop_u20 : rg 48 (-1) (23) mtop_u20 := by rw [emtop_u20]; exact g19
          have hP : va_P (dC, dI) vwCl (wMod cI cZ cQ b mday mdoo mdA mdB mfar mmar mtel mgai mfal mtop_u20 mstr mgho_u14 mfai_u17 mpto mwal mahd mahf mcho mbes mbyt mtxt mpos mtka mtok mdig mnum mfau mrdm mrea mlin mlne mthg mord mbor mbsm mans mand manr mali) H := by rw [emtop_u20]; exact hP
          have hD : va_D A (wMod cI cZ cQ b mday mdoo mdA mdB mfar mmar mtel mgai mfal mtop_u20 mstr mgho_u14 mfai_u17 mpto mwal mahd mahf mcho mbes mbyt mtxt mpos mtka mtok mdig mnum mfau mrdm mrea mlin mlne mthg mord mbor mbsm mans mand manr mali) := by rw [emtop_u20]; exact hD
          refine lv_aload_n hx hb dX10_put_101 rfl (lv_at hl 2 rfl) ?_
          refine va_get (D := (dC, dI)) (ci := 10) (v := .ref (b 10)) (C := RX10) (T := TX10) (N := 39) hx hb hts inX10 hown hK hP 0 rfl rfl 10 (by decide) lf35 (fun _ h9 => h9) rfl dX10_put_102 ?_
          refine lv_iload_n hx hb dX10_put_105 rfl (lv_at hl 4 rfl) ?_
          refine lv_bipush (v := 100) hx hb dX10_put_106 (by decide) ?_
          have b21 : vp_in co 48 := inC rfl (by omega) (by omega)
          have g22 : rg 48 (0) (100) (upd mstr co.toNatClampNeg 100) := rg_upd r_mstr (show (100 : Int32).toInt = 100 from rfl) (by omega) (by omega)
          refine va_iast hx hb hK hP hD hS 7 0 rfl rfl b21 dX10_put_108 (fun H locs hP hD hS => ?_)
          obtain ⟨mstr_u23, emstr_u23⟩ : ∃ f : Nat → Int32, f = upd mstr co.toNatClampNeg 100 := ⟨_, rfl⟩
          have rmstr_u23 : rg 48 (0) (100) mstr_u23 := by rw [emstr_u23]; exact g22
          have hP : va_P (dC, dI) vwCl (wMod cI cZ cQ b mday mdoo mdA mdB mfar mmar mtel mgai mfal mtop_u20 mstr_u23 mgho_u14 mfai_u17 mpto mwal mahd mahf mcho mbes mbyt mtxt mpos mtka mtok mdig mnum mfau mrdm mrea mlin mlne mthg mord mbor mbsm mans mand manr mali) H := by rw [emstr_u23]; exact hP
          have hD : va_D A (wMod cI cZ cQ b mday mdoo mdA mdB mfar mmar mtel mgai mfal mtop_u20 mstr_u23 mgho_u14 mfai_u17 mpto mwal mahd mahf mcho mbes mbyt mtxt mpos mtka mtok mdig mnum mfau mrdm mrea mlin mlne mthg mord mbor mbsm mans mand manr mali) := by rw [emstr_u23]; exact hD
          refine lv_aload_n hx hb dX10_put_109 rfl (lv_at hl 2 rfl) ?_
          refine va_get (D := (dC, dI)) (ci := 10) (v := .ref (b 13)) (C := RX10) (T := TX10) (N := 39) hx hb hts inX10 hown hK hP 0 rfl rfl 13 (by decide) lf44 (fun _ h9 => h9) rfl dX10_put_110 ?_
          refine lv_iload_n hx hb dX10_put_113 rfl (lv_at hl 4 rfl) ?_
          refine lv_aload_n hx hb dX10_put_114 rfl (lv_at hl 2 rfl) ?_
          refine va_get (D := (dC, dI)) (ci := 10) (v := .int mday) (C := RX10) (T := TX10) (N := 39) hx hb hts inX10 hown hK hP 0 rfl rfl 0 (by decide) lf125 (fun _ h9 => h9) rfl dX10_put_115 ?_
          have b24 : vp_in co 48 := inC rfl (by omega) (by omega)
          refine va_iast hx hb hK hP hD hS 10 0 rfl rfl b24 dX10_put_118 (fun H locs hP hD hS => ?_)
          obtain ⟨mpto_u25, empto_u25⟩ : ∃ f : Nat → Int32, f = upd mpto co.toNatClampNeg mday := ⟨_, rfl⟩
          have hP : va_P (dC, dI) vwCl (wMod cI cZ cQ b mday mdoo mdA mdB mfar mmar mtel mgai mfal mtop_u20 mstr_u23 mgho_u14 mfai_u17 mpto_u25 mwal mahd mahf mcho mbes mbyt mtxt mpos mtka mtok mdig mnum mfau mrdm mrea mlin mlne mthg mord mbor mbsm mans mand manr mali) H := by rw [empto_u25]; exact hP
          have hD : va_D A (wMod cI cZ cQ b mday mdoo mdA mdB mfar mmar mtel mgai mfal mtop_u20 mstr_u23 mgho_u14 mfai_u17 mpto_u25 mwal mahd mahf mcho mbes mbyt mtxt mpos mtka mtok mdig mnum mfau mrdm mrea mlin mlne mthg mord mbor mbsm mans mand manr mali) := by rw [empto_u25]; exact hD
          refine lv_iload_n hx hb dX10_put_119 rfl (lv_at hl 1 rfl) ?_
          exact W.iret (v := x10) hx hb hr (fun tq ht hW => ⟨⟨x10, (uS [mgho_u14, mfai_u17, mtop_u20, mstr_u23, mpto_u25] 0 (fun _ => 0)), rfl, ⟨(show spPutM mtop mstr mgho mfai mpto mday t co x10 mtop_u20 mstr_u23 mgho_u14 mfai_u17 mpto_u25 from by (first | exact putM_bad (by omega) | exact putM_no (by assumption) (by omega) (by assumption) | (refine putM_ok (by assumption) (by omega) (by assumption) (by assumption) (by assumption) ?_; (subst_vars; refine ⟨rfl, rfl, ?_⟩; first | exact Or.inl ⟨by (first | assumption | exact Eq.symm (by assumption)), by omega, rfl, rfl⟩ | exact Or.inr ⟨Or.inl (by (first | assumption | exact Eq.symm (by assumption))), rfl, rfl⟩ | exact Or.inr ⟨Or.inr (by omega), rfl, rfl⟩)))), rmgho_u14, rmfai_u17, rmtop_u20, rmstr_u23⟩, by rw [ht]; exact hP, hD⟩, hS.F ht⟩) hS.2.2 dX10_put_120
        · have dc11 : 0 ≤ x10.toInt := ka_lo (by omega) (neC rfl (show ((-1) : Int32).toInt = (-1) from rfl) c11)
          refine lv_aload_n hx hb dX10_put_41 rfl (lv_at hl 1 rfl) ?_
          refine va_get (D := (dC, dI)) (ci := 10) (v := .ref (b 10)) (C := RX10) (T := TX10) (N := 39) hx hb hts inX10 hown hK hP 0 rfl rfl 10 (by decide) lf35 (fun _ h9 => h9) rfl dX10_put_42 ?_
          refine lv_iload_n hx hb dX10_put_45 rfl (lv_at hl 3 rfl) ?_
          have b26 : vp_in co 48 := inC rfl (by omega) (by omega)
          refine va_iald hx hb hK hP 7 0 rfl rfl b26 dX10_put_46 ?_
          have g27 : 0 ≤ (mstr co.toNatClampNeg).toInt ∧ (mstr co.toNatClampNeg).toInt ≤ 100 := rg_at r_mstr b26
          refine lv_if_le (tgt := 54) hx hb dX10_put_47 (by decide) (fun c28 => ?_) (fun c28 => ?_)
          · have dc28 : (mstr co.toNatClampNeg).toInt ≤ 0 := leC rfl (show (0 : Int32).toInt = 0 from rfl) c28
            refine lv_iconst (v := 0) hx hb dX10_put_54 (by decide) ?_
            refine lv_istore (lv' := [(4, .int 0), (3, .int x10), (0, .ref (b 39)), (1, .int t), (2, .int co)]) hx hb dX10_put_55 hl (by decide) rfl (fun ls hl => ?_)
            refine lv_aload_n hx hb dX10_put_57 rfl (lv_at hl 2 rfl) ?_
            refine va_get (D := (dC, dI)) (ci := 10) (v := .ref (b 11)) (C := RX10) (T := TX10) (N := 39) hx hb hts inX10 hown hK hP 0 rfl rfl 11 (by decide) lf38 (fun _ h9 => h9) rfl dX10_put_58 ?_
            refine lv_iload_n hx hb dX10_put_61 rfl (lv_at hl 4 rfl) ?_
            refine lv_iload hx hb dX10_put_62 (lv_at hl 0 rfl) ?_
            refine lv_if_eq (tgt := 71) hx hb dX10_put_64 (by decide) (fun _ => ?_) (fun c9 => absurd (by decide) c9)
            refine lv_iconst (v := (-1)) hx hb dX10_put_71 (by decide) ?_
            have b29 : vp_in co 48 := inC rfl (by omega) (by omega)
            have g30 : rg 48 (-1) (23) (upd mgho co.toNatClampNeg (-1)) := rg_upd r_mgho (show ((-1) : Int32).toInt = (-1) from rfl) (by omega) (by omega)
            refine va_iast hx hb hK hP hD hS 8 0 rfl rfl b29 dX10_put_72 (fun H locs hP hD hS => ?_)
            obtain ⟨mgho_u31, emgho_u31⟩ : ∃ f : Nat → Int32, f = upd mgho co.toNatClampNeg (-1) := ⟨_, rfl⟩
            have rmgho_u31 : rg 48 (-1) (23) mgho_u31 := by rw [emgho_u31]; exact g30
            have hP : va_P (dC, dI) vwCl (wMod cI cZ cQ b mday mdoo mdA mdB mfar mmar mtel mgai mfal mtop mstr mgho_u31 mfai mpto mwal mahd mahf mcho mbes mbyt mtxt mpos mtka mtok mdig mnum mfau mrdm mrea mlin mlne mthg mord mbor mbsm mans mand manr mali) H := by rw [emgho_u31]; exact hP
            have hD : va_D A (wMod cI cZ cQ b mday mdoo mdA mdB mfar mmar mtel mgai mfal mtop mstr mgho_u31 mfai mpto mwal mahd mahf mcho mbes mbyt mtxt mpos mtka mtok mdig mnum mfau mrdm mrea mlin mlne mthg mord mbor mbsm mans mand manr mali) := by rw [emgho_u31]; exact hD
            refine lv_aload_n hx hb dX10_put_73 rfl (lv_at hl 2 rfl) ?_
            refine va_get (D := (dC, dI)) (ci := 10) (v := .ref (b 12)) (C := RX10) (T := TX10) (N := 39) hx hb hts inX10 hown hK hP 0 rfl rfl 12 (by decide) lf41 (fun _ h9 => h9) rfl dX10_put_74 ?_
            refine lv_iload_n hx hb dX10_put_77 rfl (lv_at hl 4 rfl) ?_
            refine lv_iload hx hb dX10_put_78 (lv_at hl 0 rfl) ?_
            refine lv_if_eq (tgt := 92) hx hb dX10_put_80 (by decide) (fun _ => ?_) (fun c9 => absurd (by decide) c9)
            refine lv_iconst (v := 0) hx hb dX10_put_92 (by decide) ?_
            have b32 : vp_in co 48 := inC rfl (by omega) (by omega)
            have g33 : rg 48 (0) (100) (upd mfai co.toNatClampNeg 0) := rg_upd r_mfai (show (0 : Int32).toInt = 0 from rfl) (by omega) (by omega)
            refine va_iast hx hb hK hP hD hS 9 0 rfl rfl b32 dX10_put_93 (fun H locs hP hD hS => ?_)
            obtain ⟨mfai_u34, emfai_u34⟩ : ∃ f : Nat → Int32, f = upd mfai co.toNatClampNeg 0 := ⟨_, rfl⟩
            have rmfai_u34 : rg 48 (0) (100) mfai_u34 := by rw [emfai_u34]; exact g33
            have hP : va_P (dC, dI) vwCl (wMod cI cZ cQ b mday mdoo mdA mdB mfar mmar mtel mgai mfal mtop mstr mgho_u31 mfai_u34 mpto mwal mahd mahf mcho mbes mbyt mtxt mpos mtka mtok mdig mnum mfau mrdm mrea mlin mlne mthg mord mbor mbsm mans mand manr mali) H := by rw [emfai_u34]; exact hP
            have hD : va_D A (wMod cI cZ cQ b mday mdoo mdA mdB mfar mmar mtel mgai mfal mtop mstr mgho_u31 mfai_u34 mpto mwal mahd mahf mcho mbes mbyt mtxt mpos mtka mtok mdig mnum mfau mrdm mrea mlin mlne mthg mord mbor mbsm mans mand manr mali) := by rw [emfai_u34]; exact hD
            refine lv_aload_n hx hb dX10_put_94 rfl (lv_at hl 2 rfl) ?_
            refine va_get (D := (dC, dI)) (ci := 10) (v := .ref (b 9)) (C := RX10) (T := TX10) (N := 39) hx hb hts inX10 hown hK hP 0 rfl rfl 9 (by decide) lf32 (fun _ h9 => h9) rfl dX10_put_95 ?_
            refine lv_iload_n hx hb dX10_put_98 rfl (lv_at hl 4 rfl) ?_
            refine lv_iload_n hx hb dX10_put_99 rfl (lv_at hl 3 rfl) ?_
            have b35 : vp_in co 48 := inC rfl (by omega) (by omega)
            have g36 : rg 48 (-1) (23) (upd mtop co.toNatClampNeg t) := rg_upd r_mtop rfl (by omega) (by omega)
            refine va_iast hx hb hK hP hD hS 6 0 rfl rfl b35 dX10_put_100 (fun H locs hP hD hS => ?_)
            obtain ⟨mtop_u37, emtop_u37⟩ : ∃ f : Nat → Int32, f = upd mtop co.toNatClampNeg t := ⟨_, rfl⟩
            have rmtop_u37 : rg 48 (-1) (23) mtop_u37 := by rw [emtop_u37]; exact g36
            have hP : va_P (dC, dI) vwCl (wMod cI cZ cQ b mday mdoo mdA mdB mfar mmar mtel mgai mfal mtop_u37 mstr mgho_u31 mfai_u34 mpto mwal mahd mahf mcho mbes mbyt mtxt mpos mtka mtok mdig mnum mfau mrdm mrea mlin mlne mthg mord mbor mbsm mans mand manr mali) H := by rw [emtop_u37]; exact hP
            have hD : va_D A (wMod cI cZ cQ b mday mdoo mdA mdB mfar mmar mtel mgai mfal mtop_u37 mstr mgho_u31 mfai_u34 mpto mwal mahd mahf mcho mbes mbyt mtxt mpos mtka mtok mdig mnum mfau mrdm mrea mlin mlne mthg mord mbor mbsm mans mand manr mali) := by rw [emtop_u37]; exact hD
            refine lv_aload_n hx hb dX10_put_101 rfl (lv_at hl 2 rfl) ?_
            refine va_get (D := (dC, dI)) (ci := 10) (v := .ref (b 10)) (C := RX10) (T := TX10) (N := 39) hx hb hts inX10 hown hK hP 0 rfl rfl 10 (by decide) lf35 (fun _ h9 => h9) rfl dX10_put_102 ?_
            refine lv_iload_n hx hb dX10_put_105 rfl (lv_at hl 4 rfl) ?_
            refine lv_bipush (v := 100) hx hb dX10_put_106 (by decide) ?_
            have b38 : vp_in co 48 := inC rfl (by omega) (by omega)
            have g39 : rg 48 (0) (100) (upd mstr co.toNatClampNeg 100) := rg_upd r_mstr (show (100 : Int32).toInt = 100 from rfl) (by omega) (by omega)
            refine va_iast hx hb hK hP hD hS 7 0 rfl rfl b38 dX10_put_108 (fun H locs hP hD hS => ?_)
            obtain ⟨mstr_u40, emstr_u40⟩ : ∃ f : Nat → Int32, f = upd mstr co.toNatClampNeg 100 := ⟨_, rfl⟩
            have rmstr_u40 : rg 48 (0) (100) mstr_u40 := by rw [emstr_u40]; exact g39
            have hP : va_P (dC, dI) vwCl (wMod cI cZ cQ b mday mdoo mdA mdB mfar mmar mtel mgai mfal mtop_u37 mstr_u40 mgho_u31 mfai_u34 mpto mwal mahd mahf mcho mbes mbyt mtxt mpos mtka mtok mdig mnum mfau mrdm mrea mlin mlne mthg mord mbor mbsm mans mand manr mali) H := by rw [emstr_u40]; exact hP
            have hD : va_D A (wMod cI cZ cQ b mday mdoo mdA mdB mfar mmar mtel mgai mfal mtop_u37 mstr_u40 mgho_u31 mfai_u34 mpto mwal mahd mahf mcho mbes mbyt mtxt mpos mtka mtok mdig mnum mfau mrdm mrea mlin mlne mthg mord mbor mbsm mans mand manr mali) := by rw [emstr_u40]; exact hD
            refine lv_aload_n hx hb dX10_put_109 rfl (lv_at hl 2 rfl) ?_
            refine va_get (D := (dC, dI)) (ci := 10) (v := .ref (b 13)) (C := RX10) (T := TX10) (N := 39) hx hb hts inX10 hown hK hP 0 rfl rfl 13 (by decide) lf44 (fun _ h9 => h9) rfl dX10_put_110 ?_
            refine lv_iload_n hx hb dX10_put_113 rfl (lv_at hl 4 rfl) ?_
            refine lv_aload_n hx hb dX10_put_114 rfl (lv_at hl 2 rfl) ?_
            refine va_get (D := (dC, dI)) (ci := 10) (v := .int mday) (C := RX10) (T := TX10) (N := 39) hx hb hts inX10 hown hK hP 0 rfl rfl 0 (by decide) lf125 (fun _ h9 => h9) rfl dX10_put_115 ?_
            have b41 : vp_in co 48 := inC rfl (by omega) (by omega)
            refine va_iast hx hb hK hP hD hS 10 0 rfl rfl b41 dX10_put_118 (fun H locs hP hD hS => ?_)
            obtain ⟨mpto_u42, empto_u42⟩ : ∃ f : Nat → Int32, f = upd mpto co.toNatClampNeg mday := ⟨_, rfl⟩
            have hP : va_P (dC, dI) vwCl (wMod cI cZ cQ b mday mdoo mdA mdB mfar mmar mtel mgai mfal mtop_u37 mstr_u40 mgho_u31 mfai_u34 mpto_u42 mwal mahd mahf mcho mbes mbyt mtxt mpos mtka mtok mdig mnum mfau mrdm mrea mlin mlne mthg mord mbor mbsm mans mand manr mali) H := by rw [empto_u42]; exact hP
            have hD : va_D A (wMod cI cZ cQ b mday mdoo mdA mdB mfar mmar mtel mgai mfal mtop_u37 mstr_u40 mgho_u31 mfai_u34 mpto_u42 mwal mahd mahf mcho mbes mbyt mtxt mpos mtka mtok mdig mnum mfau mrdm mrea mlin mlne mthg mord mbor mbsm mans mand manr mali) := by rw [empto_u42]; exact hD
            refine lv_iload_n hx hb dX10_put_119 rfl (lv_at hl 1 rfl) ?_
            exact W.iret (v := x10) hx hb hr (fun tq ht hW => ⟨⟨x10, (uS [mgho_u31, mfai_u34, mtop_u37, mstr_u40, mpto_u42] 0 (fun _ => 0)), rfl, ⟨(show spPutM mtop mstr mgho mfai mpto mday t co x10 mtop_u37 mstr_u40 mgho_u31 mfai_u34 mpto_u42 from by (first | exact putM_bad (by omega) | exact putM_no (by assumption) (by omega) (by assumption) | (refine putM_ok (by assumption) (by omega) (by assumption) (by assumption) (by assumption) ?_; (subst_vars; refine ⟨rfl, rfl, ?_⟩; first | exact Or.inl ⟨by (first | assumption | exact Eq.symm (by assumption)), by omega, rfl, rfl⟩ | exact Or.inr ⟨Or.inl (by (first | assumption | exact Eq.symm (by assumption))), rfl, rfl⟩ | exact Or.inr ⟨Or.inr (by omega), rfl, rfl⟩)))), rmgho_u31, rmfai_u34, rmtop_u37, rmstr_u40⟩, by rw [ht]; exact hP, hD⟩, hS.F ht⟩) hS.2.2 dX10_put_120
          · have dc28 : 0 < (mstr co.toNatClampNeg).toInt := nleC rfl (show (0 : Int32).toInt = 0 from rfl) c28
            refine lv_iconst (v := 1) hx hb dX10_put_50 (by decide) ?_
            refine lv_goto (tgt := 55) hx hb dX10_put_51 (by decide) ?_
            refine lv_istore (lv' := [(4, .int 1), (3, .int x10), (0, .ref (b 39)), (1, .int t), (2, .int co)]) hx hb dX10_put_55 hl (by decide) rfl (fun ls hl => ?_)
            refine lv_aload_n hx hb dX10_put_57 rfl (lv_at hl 2 rfl) ?_
            refine va_get (D := (dC, dI)) (ci := 10) (v := .ref (b 11)) (C := RX10) (T := TX10) (N := 39) hx hb hts inX10 hown hK hP 0 rfl rfl 11 (by decide) lf38 (fun _ h9 => h9) rfl dX10_put_58 ?_
            refine lv_iload_n hx hb dX10_put_61 rfl (lv_at hl 4 rfl) ?_
            refine lv_iload hx hb dX10_put_62 (lv_at hl 0 rfl) ?_
            refine lv_if_eq (tgt := 71) hx hb dX10_put_64 (by decide) (fun c9 => absurd c9 (by decide)) (fun _ => ?_)
            refine lv_iload_n hx hb dX10_put_67 rfl (lv_at hl 1 rfl) ?_
            refine lv_goto (tgt := 72) hx hb dX10_put_68 (by decide) ?_
            have b43 : vp_in co 48 := inC rfl (by omega) (by omega)
            have g44 : rg 48 (-1) (23) (upd mgho co.toNatClampNeg x10) := rg_upd r_mgho rfl (by omega) (by omega)
            refine va_iast hx hb hK hP hD hS 8 0 rfl rfl b43 dX10_put_72 (fun H locs hP hD hS => ?_)
            obtain ⟨mgho_u45, emgho_u45⟩ : ∃ f : Nat → Int32, f = upd mgho co.toNatClampNeg x10 := ⟨_, rfl⟩
            have rmgho_u45 : rg 48 (-1) (23) mgho_u45 := by rw [emgho_u45]; exact g44
            have hP : va_P (dC, dI) vwCl (wMod cI cZ cQ b mday mdoo mdA mdB mfar mmar mtel mgai mfal mtop mstr mgho_u45 mfai mpto mwal mahd mahf mcho mbes mbyt mtxt mpos mtka mtok mdig mnum mfau mrdm mrea mlin mlne mthg mord mbor mbsm mans mand manr mali) H := by rw [emgho_u45]; exact hP
            have hD : va_D A (wMod cI cZ cQ b mday mdoo mdA mdB mfar mmar mtel mgai mfal mtop mstr mgho_u45 mfai mpto mwal mahd mahf mcho mbes mbyt mtxt mpos mtka mtok mdig mnum mfau mrdm mrea mlin mlne mthg mord mbor mbsm mans mand manr mali) := by rw [emgho_u45]; exact hD
            refine lv_aload_n hx hb dX10_put_73 rfl (lv_at hl 2 rfl) ?_
            refine va_get (D := (dC, dI)) (ci := 10) (v := .ref (b 12)) (C := RX10) (T := TX10) (N := 39) hx hb hts inX10 hown hK hP 0 rfl rfl 12 (by decide) lf41 (fun _ h9 => h9) rfl dX10_put_74 ?_
            refine lv_iload_n hx hb dX10_put_77 rfl (lv_at hl 4 rfl) ?_
            refine lv_iload hx hb dX10_put_78 (lv_at hl 0 rfl) ?_
            refine lv_if_eq (tgt := 92) hx hb dX10_put_80 (by decide) (fun c9 => absurd c9 (by decide)) (fun _ => ?_)
            refine lv_aload_n hx hb dX10_put_83 rfl (lv_at hl 2 rfl) ?_
            refine va_get (D := (dC, dI)) (ci := 10) (v := .ref (b 10)) (C := RX10) (T := TX10) (N := 39) hx hb hts inX10 hown hK hP 0 rfl rfl 10 (by decide) lf35 (fun _ h9 => h9) rfl dX10_put_84 ?_
            refine lv_iload_n hx hb dX10_put_87 rfl (lv_at hl 4 rfl) ?_
            have b46 : vp_in co 48 := inC rfl (by omega) (by omega)
            refine va_iald hx hb hK hP 7 0 rfl rfl b46 dX10_put_88 ?_
            have g47 : 0 ≤ (mstr co.toNatClampNeg).toInt ∧ (mstr co.toNatClampNeg).toInt ≤ 100 := rg_at r_mstr b46
            refine lv_goto (tgt := 93) hx hb dX10_put_89 (by decide) ?_
            refine lv_topi (fun x48 ex48 => ?_)
            have ix48 : x48.toInt = (mstr co.toNatClampNeg).toInt := by rw [ex48]
            have b49 : vp_in co 48 := inC rfl (by omega) (by omega)
            have g50 : rg 48 (0) (100) (upd mfai co.toNatClampNeg x48) := rg_upd r_mfai rfl (by omega) (by omega)
            refine va_iast hx hb hK hP hD hS 9 0 rfl rfl b49 dX10_put_93 (fun H locs hP hD hS => ?_)
            obtain ⟨mfai_u51, emfai_u51⟩ : ∃ f : Nat → Int32, f = upd mfai co.toNatClampNeg x48 := ⟨_, rfl⟩
            have rmfai_u51 : rg 48 (0) (100) mfai_u51 := by rw [emfai_u51]; exact g50
            have hP : va_P (dC, dI) vwCl (wMod cI cZ cQ b mday mdoo mdA mdB mfar mmar mtel mgai mfal mtop mstr mgho_u45 mfai_u51 mpto mwal mahd mahf mcho mbes mbyt mtxt mpos mtka mtok mdig mnum mfau mrdm mrea mlin mlne mthg mord mbor mbsm mans mand manr mali) H := by rw [emfai_u51]; exact hP
            have hD : va_D A (wMod cI cZ cQ b mday mdoo mdA mdB mfar mmar mtel mgai mfal mtop mstr mgho_u45 mfai_u51 mpto mwal mahd mahf mcho mbes mbyt mtxt mpos mtka mtok mdig mnum mfau mrdm mrea mlin mlne mthg mord mbor mbsm mans mand manr mali) := by rw [emfai_u51]; exact hD
            refine lv_aload_n hx hb dX10_put_94 rfl (lv_at hl 2 rfl) ?_
            refine va_get (D := (dC, dI)) (ci := 10) (v := .ref (b 9)) (C := RX10) (T := TX10) (N := 39) hx hb hts inX10 hown hK hP 0 rfl rfl 9 (by decide) lf32 (fun _ h9 => h9) rfl dX10_put_95 ?_
            refine lv_iload_n hx hb dX10_put_98 rfl (lv_at hl 4 rfl) ?_
            refine lv_iload_n hx hb dX10_put_99 rfl (lv_at hl 3 rfl) ?_
            have b52 : vp_in co 48 := inC rfl (by omega) (by omega)
            have g53 : rg 48 (-1) (23) (upd mtop co.toNatClampNeg t) := rg_upd r_mtop rfl (by omega) (by omega)
            refine va_iast hx hb hK hP hD hS 6 0 rfl rfl b52 dX10_put_100 (fun H locs hP hD hS => ?_)
            obtain ⟨mtop_u54, emtop_u54⟩ : ∃ f : Nat → Int32, f = upd mtop co.toNatClampNeg t := ⟨_, rfl⟩
            have rmtop_u54 : rg 48 (-1) (23) mtop_u54 := by rw [emtop_u54]; exact g53
            have hP : va_P (dC, dI) vwCl (wMod cI cZ cQ b mday mdoo mdA mdB mfar mmar mtel mgai mfal mtop_u54 mstr mgho_u45 mfai_u51 mpto mwal mahd mahf mcho mbes mbyt mtxt mpos mtka mtok mdig mnum mfau mrdm mrea mlin mlne mthg mord mbor mbsm mans mand manr mali) H := by rw [emtop_u54]; exact hP
            have hD : va_D A (wMod cI cZ cQ b mday mdoo mdA mdB mfar mmar mtel mgai mfal mtop_u54 mstr mgho_u45 mfai_u51 mpto mwal mahd mahf mcho mbes mbyt mtxt mpos mtka mtok mdig mnum mfau mrdm mrea mlin mlne mthg mord mbor mbsm mans mand manr mali) := by rw [emtop_u54]; exact hD
            refine lv_aload_n hx hb dX10_put_101 rfl (lv_at hl 2 rfl) ?_
            refine va_get (D := (dC, dI)) (ci := 10) (v := .ref (b 10)) (C := RX10) (T := TX10) (N := 39) hx hb hts inX10 hown hK hP 0 rfl rfl 10 (by decide) lf35 (fun _ h9 => h9) rfl dX10_put_102 ?_
            refine lv_iload_n hx hb dX10_put_105 rfl (lv_at hl 4 rfl) ?_
            refine lv_bipush (v := 100) hx hb dX10_put_106 (by decide) ?_
            have b55 : vp_in co 48 := inC rfl (by omega) (by omega)
            have g56 : rg 48 (0) (100) (upd mstr co.toNatClampNeg 100) := rg_upd r_mstr (show (100 : Int32).toInt = 100 from rfl) (by omega) (by omega)
            refine va_iast hx hb hK hP hD hS 7 0 rfl rfl b55 dX10_put_108 (fun H locs hP hD hS => ?_)
            obtain ⟨mstr_u57, emstr_u57⟩ : ∃ f : Nat → Int32, f = upd mstr co.toNatClampNeg 100 := ⟨_, rfl⟩
            have rmstr_u57 : rg 48 (0) (100) mstr_u57 := by rw [emstr_u57]; exact g56
            have hP : va_P (dC, dI) vwCl (wMod cI cZ cQ b mday mdoo mdA mdB mfar mmar mtel mgai mfal mtop_u54 mstr_u57 mgho_u45 mfai_u51 mpto mwal mahd mahf mcho mbes mbyt mtxt mpos mtka mtok mdig mnum mfau mrdm mrea mlin mlne mthg mord mbor mbsm mans mand manr mali) H := by rw [emstr_u57]; exact hP
            have hD : va_D A (wMod cI cZ cQ b mday mdoo mdA mdB mfar mmar mtel mgai mfal mtop_u54 mstr_u57 mgho_u45 mfai_u51 mpto mwal mahd mahf mcho mbes mbyt mtxt mpos mtka mtok mdig mnum mfau mrdm mrea mlin mlne mthg mord mbor mbsm mans mand manr mali) := by rw [emstr_u57]; exact hD
            refine lv_aload_n hx hb dX10_put_109 rfl (lv_at hl 2 rfl) ?_
            refine va_get (D := (dC, dI)) (ci := 10) (v := .ref (b 13)) (C := RX10) (T := TX10) (N := 39) hx hb hts inX10 hown hK hP 0 rfl rfl 13 (by decide) lf44 (fun _ h9 => h9) rfl dX10_put_110 ?_
            refine lv_iload_n hx hb dX10_put_113 rfl (lv_at hl 4 rfl) ?_
            refine lv_aload_n hx hb dX10_put_114 rfl (lv_at hl 2 rfl) ?_
            refine va_get (D := (dC, dI)) (ci := 10) (v := .int mday) (C := RX10) (T := TX10) (N := 39) hx hb hts inX10 hown hK hP 0 rfl rfl 0 (by decide) lf125 (fun _ h9 => h9) rfl dX10_put_115 ?_
            have b58 : vp_in co 48 := inC rfl (by omega) (by omega)
            refine va_iast hx hb hK hP hD hS 10 0 rfl rfl b58 dX10_put_118 (fun H locs hP hD hS => ?_)
            obtain ⟨mpto_u59, empto_u59⟩ : ∃ f : Nat → Int32, f = upd mpto co.toNatClampNeg mday := ⟨_, rfl⟩
            have hP : va_P (dC, dI) vwCl (wMod cI cZ cQ b mday mdoo mdA mdB mfar mmar mtel mgai mfal mtop_u54 mstr_u57 mgho_u45 mfai_u51 mpto_u59 mwal mahd mahf mcho mbes mbyt mtxt mpos mtka mtok mdig mnum mfau mrdm mrea mlin mlne mthg mord mbor mbsm mans mand manr mali) H := by rw [empto_u59]; exact hP
            have hD : va_D A (wMod cI cZ cQ b mday mdoo mdA mdB mfar mmar mtel mgai mfal mtop_u54 mstr_u57 mgho_u45 mfai_u51 mpto_u59 mwal mahd mahf mcho mbes mbyt mtxt mpos mtka mtok mdig mnum mfau mrdm mrea mlin mlne mthg mord mbor mbsm mans mand manr mali) := by rw [empto_u59]; exact hD
            refine lv_iload_n hx hb dX10_put_119 rfl (lv_at hl 1 rfl) ?_
            exact W.iret (v := x10) hx hb hr (fun tq ht hW => ⟨⟨x10, (uS [mgho_u45, mfai_u51, mtop_u54, mstr_u57, mpto_u59] 0 (fun _ => 0)), rfl, ⟨(show spPutM mtop mstr mgho mfai mpto mday t co x10 mtop_u54 mstr_u57 mgho_u45 mfai_u51 mpto_u59 from by (first | exact putM_bad (by omega) | exact putM_no (by assumption) (by omega) (by assumption) | (refine putM_ok (by assumption) (by omega) (by assumption) (by assumption) (by assumption) ?_; (subst_vars; refine ⟨rfl, rfl, ?_⟩; first | exact Or.inl ⟨by (first | assumption | exact Eq.symm (by assumption)), by omega, rfl, rfl⟩ | exact Or.inr ⟨Or.inl (by (first | assumption | exact Eq.symm (by assumption))), rfl, rfl⟩ | exact Or.inr ⟨Or.inr (by omega), rfl, rfl⟩)))), rmgho_u45, rmfai_u51, rmtop_u54, rmstr_u57⟩, by rw [ht]; exact hP, hD⟩, hS.F ht⟩) hS.2.2 dX10_put_120
      · have dc7 : 0 ≤ r5.toInt := ka_lo (by omega) (neC rfl (show ((-1) : Int32).toInt = (-1) from rfl) c7)
        refine lv_bipush (v := (-4)) hx hb dX10_put_26 (by decide) ?_
        exact W.iret (v := (-4)) hx hb hr (fun tq ht hW => ⟨⟨(-4), (uS [mgho, mfai, mtop, mstr, mpto] 0 (fun _ => 0)), rfl, ⟨(show spPutM mtop mstr mgho mfai mpto mday t co ((-4) : Int32) mtop mstr mgho mfai mpto from by (try rw [show ((-4) : Int32).toInt = (-4) from (show ((-4) : Int32).toInt = (-4) from rfl)]); (first | exact putM_bad (by omega) | exact putM_no (by assumption) (by omega) (by assumption) | (refine putM_ok (by assumption) (by omega) (by assumption) (by assumption) (by assumption) ?_; (subst_vars; refine ⟨rfl, rfl, ?_⟩; first | exact Or.inl ⟨by (first | assumption | exact Eq.symm (by assumption)), by omega, rfl, rfl⟩ | exact Or.inr ⟨Or.inl (by (first | assumption | exact Eq.symm (by assumption))), rfl, rfl⟩ | exact Or.inr ⟨Or.inr (by omega), rfl, rfl⟩)))), r_mgho, r_mfai, r_mtop, r_mstr⟩, by rw [ht]; exact hP, hD⟩, hS.F ht⟩) hS.2.2 dX10_put_28
    · refine lv_if_ne (tgt := 17) hx hb dX10_put_11 (by decide) (fun c9 => absurd (by decide) c9) (fun _ => ?_)
      refine lv_bipush (v := (-2)) hx hb dX10_put_14 (by decide) ?_
      exact W.iret (v := (-2)) hx hb hr (fun tq ht hW => ⟨⟨(-2), (uS [mgho, mfai, mtop, mstr, mpto] 0 (fun _ => 0)), rfl, ⟨(show spPutM mtop mstr mgho mfai mpto mday t co ((-2) : Int32) mtop mstr mgho mfai mpto from by (try rw [show ((-2) : Int32).toInt = (-2) from (show ((-2) : Int32).toInt = (-2) from rfl)]); (first | exact putM_bad (by omega) | exact putM_no (by assumption) (by omega) (by assumption) | (refine putM_ok (by assumption) (by omega) (by assumption) (by assumption) (by assumption) ?_; (subst_vars; refine ⟨rfl, rfl, ?_⟩; first | exact Or.inl ⟨by (first | assumption | exact Eq.symm (by assumption)), by omega, rfl, rfl⟩ | exact Or.inr ⟨Or.inl (by (first | assumption | exact Eq.symm (by assumption))), rfl, rfl⟩ | exact Or.inr ⟨Or.inr (by omega), rfl, rfl⟩)))), r_mgho, r_mfai, r_mtop, r_mstr⟩, by rw [ht]; exact hP, hD⟩, hS.F ht⟩) hS.2.2 dX10_put_16
  · refine lv_if_eq (tgt := 14) hx hb dX10_put_4 (by decide) (fun _ => ?_) (fun c9 => absurd (by decide) c9)
    refine lv_bipush (v := (-2)) hx hb dX10_put_14 (by decide) ?_
    exact W.iret (v := (-2)) hx hb hr (fun tq ht hW => ⟨⟨(-2), (uS [mgho, mfai, mtop, mstr, mpto] 0 (fun _ => 0)), rfl, ⟨(show spPutM mtop mstr mgho mfai mpto mday t co ((-2) : Int32) mtop mstr mgho mfai mpto from by (try rw [show ((-2) : Int32).toInt = (-2) from (show ((-2) : Int32).toInt = (-2) from rfl)]); (first | exact putM_bad (by omega) | exact putM_no (by assumption) (by omega) (by assumption) | (refine putM_ok (by assumption) (by omega) (by assumption) (by assumption) (by assumption) ?_; (subst_vars; refine ⟨rfl, rfl, ?_⟩; first | exact Or.inl ⟨by (first | assumption | exact Eq.symm (by assumption)), by omega, rfl, rfl⟩ | exact Or.inr ⟨Or.inl (by (first | assumption | exact Eq.symm (by assumption))), rfl, rfl⟩ | exact Or.inr ⟨Or.inr (by omega), rfl, rfl⟩)))), r_mgho, r_mfai, r_mtop, r_mstr⟩, by rw [ht]; exact hP, hD⟩, hS.F ht⟩) hS.2.2 dX10_put_16
set_option maxHeartbeats 4000000 in
set_option maxRecDepth 100000 in
theorem k_X10_clear3 (l : Launch) (dC : Nat → ClassId) (dI : Nat → Nat → Nat) (cI cZ cQ : ClassId) (b : Nat → Nat) (mday : Int32) (mdoo : Int32) (mdA : Nat → Int32) (mdB : Nat → Int32) (mfar : Nat → Int32) (mmar : Nat → Int32) (mtel : Int32) (mgai : Int32) (mfal : Nat → Int32) (mtop : Nat → Int32) (mstr : Nat → Int32) (mgho : Nat → Int32) (mfai : Nat → Int32) (mpto : Nat → Int32) (mwal : Nat → Int32) (mahd : Nat → Int32) (mahf : Nat → Int32) (mcho : Nat → Int32) (mbes : Nat → Int32) (mbyt : Int32) (mtxt : Nat → Int32) (mpos : Int32) (mtka : Int32) (mtok : Int64) (mdig : Int32) (mnum : Int32) (mfau : Int32) (mrdm : Int32) (mrea : Nat → Int32) (mlin : Int32) (mlne : Nat → Int32) (mthg : Nat → Int32) (mord : Nat → Int32) (mbor : Nat → Int32) (mbsm : Int32) (mans : Nat → Int32) (mand : Nat → Int32) (manr : Nat → Int32) (mali : Nat → Int32) (sz : Nat) (co : Int32) (r_mday : 0 ≤ mday.toInt ∧ mday.toInt ≤ 400) (r_mdoo : 0 ≤ mdoo.toInt ∧ mdoo.toInt ≤ 14) (r_mdA : rg 14 (0) (7) mdA) (r_mdB : rg 14 (0) (7) mdB) (r_mmar : rg 24 (0) (255) mmar) (r_mgai : 0 ≤ mgai.toInt ∧ mgai.toInt ≤ 100) (r_mfal : rg 11 (0) (30) mfal) (r_mtop : rg 48 (-1) (23) mtop) (r_mstr : rg 48 (0) (100) mstr) (r_mgho : rg 48 (-1) (23) mgho) (r_mfai : rg 48 (0) (100) mfai) (r_mahd : rg 240 (0) (100) mahd) (r_mahf : rg 240 (0) (100) mahf) (r_mcho : rg 5 (-1) (9) mcho) (r_mbyt : 0 ≤ mbyt.toInt ∧ mbyt.toInt ≤ 160) (r_mpos : 0 ≤ mpos.toInt ∧ mpos.toInt ≤ 160) (r_mrdm : 0 ≤ mrdm.toInt ∧ mrdm.toInt ≤ 10) (r_mlin : 0 ≤ mlin.toInt ∧ mlin.toInt ≤ 10) (r_mthg : rg 8 (0) (31) mthg) (r_mord : rg 8 (-1) (8) mord) (r_mans : rg 4 (0) (12) mans) : KW l yX10_clear wsX10_clear { frames := 2, cells := 0, slots := 0, locals := 42 } (dC, dI) (TY cI cZ cQ) (wMod cI cZ cQ b mday mdoo mdA mdB mfar mmar mtel mgai mfal mtop mstr mgho mfai mpto mwal mahd mahf mcho mbes mbyt mtxt mpos mtka mtok mdig mnum mfau mrdm mrea mlin mlne mthg mord mbor mbsm mans mand manr mali) [.ref (b 39), .int co] sz 0 0 (fun (r : Int32) (u : US) => (spClrM mtop mstr mgho mfai co r (u.1 2) (u.1 3) (u.1 0) (u.1 1)) ∧ (rg 48 (-1) (23) (u.1 0)) ∧ (rg 48 (0) (100) (u.1 1)) ∧ (rg 48 (-1) (23) (u.1 2)) ∧ (rg 48 (0) (100) (u.1 3))) (fun u : US => (wMod cI cZ cQ b mday mdoo mdA mdB mfar mmar mtel mgai mfal (u.1 2) (u.1 3) (u.1 0) (u.1 1) mpto mwal mahd mahf mcho mbes mbyt mtxt mpos mtka mtok mdig mnum mfau mrdm mrea mlin mlne mthg mord mbor mbsm mans mand manr mali)) := by
  refine Met.ofW (cc := cX10_clear) (maxL := 3) (ret := (some .int)) (by decide) rfl ?_
  intro p e s m args below meth c s₁ B hml hv
  obtain ⟨rfl, hsz, hP, hK, hD0, hN⟩ := hv
  have hx := B.exec
  have hb := B.bytes
  have hr := B.returns
  have hts := atoms_spec (ws := wsX10_clear) B.pre
  have hown : s.vm.findClass RX10 = some m.cls := findClass_of_methodNamed B.named
  have hlocks := B.notSynchronized
  have lf32 := hts (.fieldLink RX10 32 "PalaceOfRoomsModel" "top" "[I") (List.mem_cons_of_mem _ (List.mem_append_left _ (List.mem_of_getElem? (i := 0) rfl)))
  have inX10 : ∀ w ∈ wsX100, w ∈ wsX10_clear := fun w h => List.mem_cons_of_mem _ (List.mem_append_right _ h)
  have lf38 := hts (.fieldLink RX10 38 "PalaceOfRoomsModel" "ghost" "[I") (List.mem_cons_of_mem _ (List.mem_append_left _ (List.mem_of_getElem? (i := 1) rfl)))
  have lf35 := hts (.fieldLink RX10 35 "PalaceOfRoomsModel" "strength" "[I") (List.mem_cons_of_mem _ (List.mem_append_left _ (List.mem_of_getElem? (i := 2) rfl)))
  have lf41 := hts (.fieldLink RX10 41 "PalaceOfRoomsModel" "faint" "[I") (List.mem_cons_of_mem _ (List.mem_append_left _ (List.mem_of_getElem? (i := 3) rfl)))
  subst hsz
  have hD := hD0.self (sz := s.heap.size)
  generalize hAe : va_A (wMod cI cZ cQ b mday mdoo mdA mdB mfar mmar mtel mgai mfal mtop mstr mgho mfai mpto mwal mahd mahf mcho mbes mbyt mtxt mpos mtka mtok mdig mnum mfau mrdm mrea mlin mlne mthg mord mbor mbsm mans mand manr mali) s.heap.size = A at hD ⊢
  have hA : ∀ q : Nat, s.heap.size ≤ q → A q := fun q h => by rw [← hAe]; exact Or.inr h
  have hS : va_S A s.heap s.heap [] := va_S.rf
  have hl := lv_entry ([.ref (b 39), .int co]) (n := 3) (Nat.le_of_ble_eq_true rfl)
  rw [lg_entry_eq]
  generalize (lg_sl ([.ref (b 39), .int co]) ++ List.replicate (3 - (lg_sl ([.ref (b 39), .int co])).length) Slot.unset).toArray = ls at hl ⊢
  have hl : lv_has ls 3 [(0, .ref (b 39)), (1, .int co)] := hl
  refine lv_iload_n hx hb dX10_clear_0 rfl (lv_at hl 1 rfl) ?_
  refine rdS (As := [.int co]) (rest := []) ⟨hx, hb, hml, hown, hts⟩ (k_X10_isCorner l dC dI cI cZ cQ co) (va_cwS 1 hts gX10_clear_X10_isCorner rfl rfl rfl (by decide +kernel) ⟨Nat.le_of_ble_eq_true rfl, Nat.le_of_ble_eq_true rfl⟩) hP hK hN [] rfl rfl hl.1 rfl (Nat.le_of_ble_eq_true rfl) dX10_clear_1 ⟨Nat.le_of_ble_eq_true rfl, Nat.le_of_ble_eq_true rfl⟩ (fun r1 h2 => ?_)
  have h2 : ((((r1 = 1) ∧ (0 ≤ co.toInt) ∧ (co.toInt ≤ 47)) ∨ ((r1 = 0) ∧ (co.toInt < 0 ∨ 47 < co.toInt)))) := h2
  rcases h2 with (⟨rfl, h2_a0, h2_a1⟩ | ⟨rfl, h2_a0⟩)
  · refine lv_if_ne (tgt := 10) hx hb dX10_clear_4 (by decide) (fun _ => ?_) (fun c9 => absurd c9 (by decide))
    refine lv_aload_n hx hb dX10_clear_10 rfl (lv_at hl 0 rfl) ?_
    refine va_get (D := (dC, dI)) (ci := 10) (v := .ref (b 9)) (C := RX10) (T := TX10) (N := 39) hx hb hts inX10 hown hK hP 0 rfl rfl 9 (by decide) lf32 (fun _ h9 => h9) rfl dX10_clear_11 ?_
    refine lv_iload_n hx hb dX10_clear_14 rfl (lv_at hl 1 rfl) ?_
    have b3 : vp_in co 48 := inC rfl (by omega) (by omega)
    refine va_iald hx hb hK hP 6 0 rfl rfl b3 dX10_clear_15 ?_
    have g4 : -1 ≤ (mtop co.toNatClampNeg).toInt ∧ (mtop co.toNatClampNeg).toInt ≤ 23 := rg_at r_mtop b3
    refine lv_iconst (v := (-1)) hx hb dX10_clear_16 (by decide) ?_
    refine lv_icmp_ne (tgt := 23) hx hb dX10_clear_17 (by decide) (fun c5 => ?_) (fun c5 => ?_)
    · have dc5 : 0 ≤ (mtop co.toNatClampNeg).toInt := ka_lo (by omega) (neC rfl (show ((-1) : Int32).toInt = (-1) from rfl) c5)
      refine lv_aload_n hx hb dX10_clear_23 rfl (lv_at hl 0 rfl) ?_
      refine va_get (D := (dC, dI)) (ci := 10) (v := .ref (b 9)) (C := RX10) (T := TX10) (N := 39) hx hb hts inX10 hown hK hP 0 rfl rfl 9 (by decide) lf32 (fun _ h9 => h9) rfl dX10_clear_24 ?_
      refine lv_iload_n hx hb dX10_clear_27 rfl (lv_at hl 1 rfl) ?_
      have b6 : vp_in co 48 := inC rfl (by omega) (by omega)
      refine va_iald hx hb hK hP 6 0 rfl rfl b6 dX10_clear_28 ?_
      have g7 : -1 ≤ (mtop co.toNatClampNeg).toInt ∧ (mtop co.toNatClampNeg).toInt ≤ 23 := rg_at r_mtop b6
      refine lv_topi (fun x8 ex8 => ?_)
      have ix8 : x8.toInt = (mtop co.toNatClampNeg).toInt := by rw [ex8]
      refine lv_istore_n (lv' := [(2, .int x8), (0, .ref (b 39)), (1, .int co)]) hx hb dX10_clear_29 rfl hl (by decide) rfl (fun ls hl => ?_)
      refine lv_aload_n hx hb dX10_clear_30 rfl (lv_at hl 1 rfl) ?_
      refine va_get (D := (dC, dI)) (ci := 10) (v := .ref (b 9)) (C := RX10) (T := TX10) (N := 39) hx hb hts inX10 hown hK hP 0 rfl rfl 9 (by decide) lf32 (fun _ h9 => h9) rfl dX10_clear_31 ?_
      refine lv_iload_n hx hb dX10_clear_34 rfl (lv_at hl 2 rfl) ?_
      refine lv_iconst (v := (-1)) hx hb dX10_clear_35 (by decide) ?_
      have b9 : vp_in co 48 := inC rfl (by omega) (by omega)
      have g10 : rg 48 (-1) (23) (upd mtop co.toNatClampNeg (-1)) := rg_upd r_mtop (show ((-1) : Int32).toInt = (-1) from rfl) (by omega) (by omega)
      refine va_iast hx hb hK hP hD hS 6 0 rfl rfl b9 dX10_clear_36 (fun H locs hP hD hS => ?_)
      obtain ⟨mtop_u11, emtop_u11⟩ : ∃ f : Nat → Int32, f = upd mtop co.toNatClampNeg (-1) := ⟨_, rfl⟩
      have rmtop_u11 : rg 48 (-1) (23) mtop_u11 := by rw [emtop_u11]; exact g10
      have hP : va_P (dC, dI) vwCl (wMod cI cZ cQ b mday mdoo mdA mdB mfar mmar mtel mgai mfal mtop_u11 mstr mgho mfai mpto mwal mahd mahf mcho mbes mbyt mtxt mpos mtka mtok mdig mnum mfau mrdm mrea mlin mlne mthg mord mbor mbsm mans mand manr mali) H := by rw [emtop_u11]; exact hP
      have hD : va_D A (wMod cI cZ cQ b mday mdoo mdA mdB mfar mmar mtel mgai mfal mtop_u11 mstr mgho mfai mpto mwal mahd mahf mcho mbes mbyt mtxt mpos mtka mtok mdig mnum mfau mrdm mrea mlin mlne mthg mord mbor mbsm mans mand manr mali) := by rw [emtop_u11]; exact hD
      refine lv_aload_n hx hb dX10_clear_37 rfl (lv_at hl 1 rfl) ?_
      refine va_get (D := (dC, dI)) (ci := 10) (v := .ref (b 11)) (C := RX10) (T := TX10) (N := 39) hx hb hts inX10 hown hK hP 0 rfl rfl 11 (by decide) lf38 (fun _ h9 => h9) rfl dX10_clear_38 ?_
      refine lv_iload_n hx hb dX10_clear_41 rfl (lv_at hl 2 rfl) ?_
      refine lv_iconst (v := (-1)) hx hb dX10_clear_42 (by decide) ?_
      have b12 : vp_in co 48 := inC rfl (by omega) (by omega)
      have g13 : rg 48 (-1) (23) (upd mgho co.toNatClampNeg (-1)) := rg_upd r_mgho (show ((-1) : Int32).toInt = (-1) from rfl) (by omega) (by omega)
      refine va_iast hx hb hK hP hD hS 8 0 rfl rfl b12 dX10_clear_43 (fun H locs hP hD hS => ?_)
      obtain ⟨mgho_u14, emgho_u14⟩ : ∃ f : Nat → Int32, f = upd mgho co.toNatClampNeg (-1) := ⟨_, rfl⟩
      have rmgho_u14 : rg 48 (-1) (23) mgho_u14 := by rw [emgho_u14]; exact g13
      have hP : va_P (dC, dI) vwCl (wMod cI cZ cQ b mday mdoo mdA mdB mfar mmar mtel mgai mfal mtop_u11 mstr mgho_u14 mfai mpto mwal mahd mahf mcho mbes mbyt mtxt mpos mtka mtok mdig mnum mfau mrdm mrea mlin mlne mthg mord mbor mbsm mans mand manr mali) H := by rw [emgho_u14]; exact hP
      have hD : va_D A (wMod cI cZ cQ b mday mdoo mdA mdB mfar mmar mtel mgai mfal mtop_u11 mstr mgho_u14 mfai mpto mwal mahd mahf mcho mbes mbyt mtxt mpos mtka mtok mdig mnum mfau mrdm mrea mlin mlne mthg mord mbor mbsm mans mand manr mali) := by rw [emgho_u14]; exact hD
      refine lv_aload_n hx hb dX10_clear_44 rfl (lv_at hl 1 rfl) ?_
      refine va_get (D := (dC, dI)) (ci := 10) (v := .ref (b 10)) (C := RX10) (T := TX10) (N := 39) hx hb hts inX10 hown hK hP 0 rfl rfl 10 (by decide) lf35 (fun _ h9 => h9) rfl dX10_clear_45 ?_
      refine lv_iload_n hx hb dX10_clear_48 rfl (lv_at hl 2 rfl) ?_
      refine lv_iconst (v := 0) hx hb dX10_clear_49 (by decide) ?_
      have b15 : vp_in co 48 := inC rfl (by omega) (by omega)
      have g16 : rg 48 (0) (100) (upd mstr co.toNatClampNeg 0) := rg_upd r_mstr (show (0 : Int32).toInt = 0 from rfl) (by omega) (by omega)
      refine va_iast hx hb hK hP hD hS 7 0 rfl rfl b15 dX10_clear_50 (fun H locs hP hD hS => ?_)
      obtain ⟨mstr_u17, emstr_u17⟩ : ∃ f : Nat → Int32, f = upd mstr co.toNatClampNeg 0 := ⟨_, rfl⟩
      have rmstr_u17 : rg 48 (0) (100) mstr_u17 := by rw [emstr_u17]; exact g16
      have hP : va_P (dC, dI) vwCl (wMod cI cZ cQ b mday mdoo mdA mdB mfar mmar mtel mgai mfal mtop_u11 mstr_u17 mgho_u14 mfai mpto mwal mahd mahf mcho mbes mbyt mtxt mpos mtka mtok mdig mnum mfau mrdm mrea mlin mlne mthg mord mbor mbsm mans mand manr mali) H := by rw [emstr_u17]; exact hP
      have hD : va_D A (wMod cI cZ cQ b mday mdoo mdA mdB mfar mmar mtel mgai mfal mtop_u11 mstr_u17 mgho_u14 mfai mpto mwal mahd mahf mcho mbes mbyt mtxt mpos mtka mtok mdig mnum mfau mrdm mrea mlin mlne mthg mord mbor mbsm mans mand manr mali) := by rw [emstr_u17]; exact hD
      refine lv_aload_n hx hb dX10_clear_51 rfl (lv_at hl 1 rfl) ?_
      refine va_get (D := (dC, dI)) (ci := 10) (v := .ref (b 12)) (C := RX10) (T := TX10) (N := 39) hx hb hts inX10 hown hK hP 0 rfl rfl 12 (by decide) lf41 (fun _ h9 => h9) rfl dX10_clear_52 ?_
      refine lv_iload_n hx hb dX10_clear_55 rfl (lv_at hl 2 rfl) ?_
      refine lv_iconst (v := 0) hx hb dX10_clear_56 (by decide) ?_
      have b18 : vp_in co 48 := inC rfl (by omega) (by omega)
      have g19 : rg 48 (0) (100) (upd mfai co.toNatClampNeg 0) := rg_upd r_mfai (show (0 : Int32).toInt = 0 from rfl) (by omega) (by omega)
      refine va_iast hx hb hK hP hD hS 9 0 rfl rfl b18 dX10_clear_57 (fun H locs hP hD hS => ?_)
      obtain ⟨mfai_u20, emfai_u20⟩ : ∃ f : Nat → Int32, f = upd mfai co.toNatClampNeg 0 := ⟨_, rfl⟩
      have rmfai_u20 : rg 48 (0) (100) mfai_u20 := by rw [emfai_u20]; exact g19
      have hP : va_P (dC, dI) vwCl (wMod cI cZ cQ b mday mdoo mdA mdB mfar mmar mtel mgai mfal mtop_u11 mstr_u17 mgho_u14 mfai_u20 mpto mwal mahd mahf mcho mbes mbyt mtxt mpos mtka mtok mdig mnum mfau mrdm mrea mlin mlne mthg mord mbor mbsm mans mand manr mali) H := by rw [emfai_u20]; exact hP
      have hD : va_D A (wMod cI cZ cQ b mday mdoo mdA mdB mfar mmar mtel mgai mfal mtop_u11 mstr_u17 mgho_u14 mfai_u20 mpto mwal mahd mahf mcho mbes mbyt mtxt mpos mtka mtok mdig mnum mfau mrdm mrea mlin mlne mthg mord mbor mbsm mans mand manr mali) := by rw [emfai_u20]; exact hD
      refine lv_iload_n hx hb dX10_clear_58 rfl (lv_at hl 0 rfl) ?_
      exact W.iret (v := x8) hx hb hr (fun tq ht hW => ⟨⟨x8, (uS [mgho_u14, mfai_u20, mtop_u11, mstr_u17] 0 (fun _ => 0)), rfl, ⟨(show spClrM mtop mstr mgho mfai co x8 mtop_u11 mstr_u17 mgho_u14 mfai_u20 from by (first | exact Or.inl ⟨by omega, rfl, rfl, rfl, rfl, rfl⟩ | exact clrM_no (by omega) (by assumption) | exact clrM_ok (by omega) (by assumption) (by assumption) (by assumption) (by assumption) (by assumption) (by assumption))), rmgho_u14, rmfai_u20, rmtop_u11, rmstr_u17⟩, by rw [ht]; exact hP, hD⟩, hS.F ht⟩) hS.2.2 dX10_clear_59
    · have dc5 : (mtop co.toNatClampNeg).toInt = (-1) := eqC rfl (show ((-1) : Int32).toInt = (-1) from rfl) c5
      refine lv_bipush (v := (-4)) hx hb dX10_clear_20 (by decide) ?_
      exact W.iret (v := (-4)) hx hb hr (fun tq ht hW => ⟨⟨(-4), (uS [mgho, mfai, mtop, mstr] 0 (fun _ => 0)), rfl, ⟨(show spClrM mtop mstr mgho mfai co ((-4) : Int32) mtop mstr mgho mfai from by (try rw [show ((-4) : Int32).toInt = (-4) from (show ((-4) : Int32).toInt = (-4) from rfl)]); (first | exact Or.inl ⟨by omega, rfl, rfl, rfl, rfl, rfl⟩ | exact clrM_no (by omega) (by assumption) | exact clrM_ok (by omega) (by assumption) (by assumption) (by assumption) (by assumption) (by assumption) (by assumption))), r_mgho, r_mfai, r_mtop, r_mstr⟩, by rw [ht]; exact hP, hD⟩, hS.F ht⟩) hS.2.2 dX10_clear_22
  · refine lv_if_ne (tgt := 10) hx hb dX10_clear_4 (by decide) (fun c9 => absurd (by decide) c9) (fun _ => ?_)
    refine lv_bipush (v := (-2)) hx hb dX10_clear_7 (by decide) ?_
    exact W.iret (v := (-2)) hx hb hr (fun tq ht hW => ⟨⟨(-2), (uS [mgho, mfai, mtop, mstr] 0 (fun _ => 0)), rfl, ⟨(show spClrM mtop mstr mgho mfai co ((-2) : Int32) mtop mstr mgho mfai from by (try rw [show ((-2) : Int32).toInt = (-2) from (show ((-2) : Int32).toInt = (-2) from rfl)]); (first | exact Or.inl ⟨by omega, rfl, rfl, rfl, rfl, rfl⟩ | exact clrM_no (by omega) (by assumption) | exact clrM_ok (by omega) (by assumption) (by assumption) (by assumption) (by assumption) (by assumption) (by assumption))), r_mgho, r_mfai, r_mtop, r_mstr⟩, by rw [ht]; exact hP, hD⟩, hS.F ht⟩) hS.2.2 dX10_clear_9
set_option maxHeartbeats 4000000 in
set_option maxRecDepth 100000 in
theorem k_X10_corner2 (l : Launch) (dC : Nat → ClassId) (dI : Nat → Nat → Nat) (cI cZ cQ : ClassId) (b : Nat → Nat) (mday : Int32) (mdoo : Int32) (mdA : Nat → Int32) (mdB : Nat → Int32) (mfar : Nat → Int32) (mmar : Nat → Int32) (mtel : Int32) (mgai : Int32) (mfal : Nat → Int32) (mtop : Nat → Int32) (mstr : Nat → Int32) (mgho : Nat → Int32) (mfai : Nat → Int32) (mpto : Nat → Int32) (mwal : Nat → Int32) (mahd : Nat → Int32) (mahf : Nat → Int32) (mcho : Nat → Int32) (mbes : Nat → Int32) (mbyt : Int32) (mtxt : Nat → Int32) (mpos : Int32) (mtka : Int32) (mtok : Int64) (mdig : Int32) (mnum : Int32) (mfau : Int32) (mrdm : Int32) (mrea : Nat → Int32) (mlin : Int32) (mlne : Nat → Int32) (mthg : Nat → Int32) (mord : Nat → Int32) (mbor : Nat → Int32) (mbsm : Int32) (mans : Nat → Int32) (mand : Nat → Int32) (manr : Nat → Int32) (mali : Nat → Int32) (co : Int32) (wh : Int32) (r_mday : 0 ≤ mday.toInt ∧ mday.toInt ≤ 400) (r_mdoo : 0 ≤ mdoo.toInt ∧ mdoo.toInt ≤ 14) (r_mdA : rg 14 (0) (7) mdA) (r_mdB : rg 14 (0) (7) mdB) (r_mmar : rg 24 (0) (255) mmar) (r_mgai : 0 ≤ mgai.toInt ∧ mgai.toInt ≤ 100) (r_mfal : rg 11 (0) (30) mfal) (r_mtop : rg 48 (-1) (23) mtop) (r_mstr : rg 48 (0) (100) mstr) (r_mgho : rg 48 (-1) (23) mgho) (r_mfai : rg 48 (0) (100) mfai) (r_mahd : rg 240 (0) (100) mahd) (r_mahf : rg 240 (0) (100) mahf) (r_mcho : rg 5 (-1) (9) mcho) (r_mbyt : 0 ≤ mbyt.toInt ∧ mbyt.toInt ≤ 160) (r_mpos : 0 ≤ mpos.toInt ∧ mpos.toInt ≤ 160) (r_mrdm : 0 ≤ mrdm.toInt ∧ mrdm.toInt ≤ 10) (r_mlin : 0 ≤ mlin.toInt ∧ mlin.toInt ≤ 10) (r_mthg : rg 8 (0) (31) mthg) (r_mord : rg 8 (-1) (8) mord) (r_mans : rg 4 (0) (12) mans) : KR l yX10_corner wsX10_corner { frames := 2, cells := 0, slots := 0, locals := 42 } (dC, dI) (TY cI cZ cQ) (wMod cI cZ cQ b mday mdoo mdA mdB mfar mmar mtel mgai mfal mtop mstr mgho mfai mpto mwal mahd mahf mcho mbes mbyt mtxt mpos mtka mtok mdig mnum mfau mrdm mrea mlin mlne mthg mord mbor mbsm mans mand manr mali) [.ref (b 39), .int co, .int wh] (fun r : Int32 => (spCor mtop mstr mgho mfai mpto co wh r)) := by
  refine Met.ofW (cc := cX10_corner) (maxL := 3) (ret := (some .int)) (by decide) rfl ?_
  intro p e s m args below meth c s₁ B hml hv
  obtain ⟨rfl, hP, hK, hN⟩ := hv
  have hx := B.exec
  have hb := B.bytes
  have hr := B.returns
  have hts := atoms_spec (ws := wsX10_corner) B.pre
  have hown : s.vm.findClass RX10 = some m.cls := findClass_of_methodNamed B.named
  have hlocks := B.notSynchronized
  have lf32 := hts (.fieldLink RX10 32 "PalaceOfRoomsModel" "top" "[I") (List.mem_cons_of_mem _ (List.mem_append_left _ (List.mem_of_getElem? (i := 0) rfl)))
  have inX10 : ∀ w ∈ wsX100, w ∈ wsX10_corner := fun w h => List.mem_cons_of_mem _ (List.mem_append_right _ h)
  have lf35 := hts (.fieldLink RX10 35 "PalaceOfRoomsModel" "strength" "[I") (List.mem_cons_of_mem _ (List.mem_append_left _ (List.mem_of_getElem? (i := 1) rfl)))
  have lf38 := hts (.fieldLink RX10 38 "PalaceOfRoomsModel" "ghost" "[I") (List.mem_cons_of_mem _ (List.mem_append_left _ (List.mem_of_getElem? (i := 2) rfl)))
  have lf41 := hts (.fieldLink RX10 41 "PalaceOfRoomsModel" "faint" "[I") (List.mem_cons_of_mem _ (List.mem_append_left _ (List.mem_of_getElem? (i := 3) rfl)))
  have lf44 := hts (.fieldLink RX10 44 "PalaceOfRoomsModel" "putOn" "[I") (List.mem_cons_of_mem _ (List.mem_append_left _ (List.mem_of_getElem? (i := 4) rfl)))
  have hl := lv_entry ([.ref (b 39), .int co, .int wh]) (n := 3) (Nat.le_of_ble_eq_true rfl)
  rw [lg_entry_eq]
  generalize (lg_sl ([.ref (b 39), .int co, .int wh]) ++ List.replicate (3 - (lg_sl ([.ref (b 39), .int co, .int wh])).length) Slot.unset).toArray = ls at hl ⊢
  have hl : lv_has ls 3 [(0, .ref (b 39)), (1, .int co), (2, .int wh)] := hl
  refine lv_iload_n hx hb dX10_corner_0 rfl (lv_at hl 1 rfl) ?_
  refine rdS (As := [.int co]) (rest := []) ⟨hx, hb, hml, hown, hts⟩ (k_X10_isCorner l dC dI cI cZ cQ co) (va_cwS 1 hts gX10_corner_X10_isCorner rfl rfl rfl (by decide +kernel) ⟨Nat.le_of_ble_eq_true rfl, Nat.le_of_ble_eq_true rfl⟩) hP hK hN [] rfl rfl hl.1 rfl (Nat.le_of_ble_eq_true rfl) dX10_corner_1 ⟨Nat.le_of_ble_eq_true rfl, Nat.le_of_ble_eq_true rfl⟩ (fun r1 h2 => ?_)
  have h2 : ((((r1 = 1) ∧ (0 ≤ co.toInt) ∧ (co.toInt ≤ 47)) ∨ ((r1 = 0) ∧ (co.toInt < 0 ∨ 47 < co.toInt)))) := h2
  rcases h2 with (⟨rfl, h2_a0, h2_a1⟩ | ⟨rfl, h2_a0⟩)
  · refine lv_if_ne (tgt := 10) hx hb dX10_corner_4 (by decide) (fun _ => ?_) (fun c9 => absurd c9 (by decide))
    refine lv_iload_n hx hb dX10_corner_10 rfl (lv_at hl 2 rfl) ?_
    by_cases w3 : wh = 0
    · have dw3 : wh.toInt = 0 := eqC rfl rfl w3
      refine lv_tableIn (off := 33) (tgt := 44) hx hb dX10_corner_11 (by rw [w3]; decide) (by rw [w3]; decide) (by rw [w3]; decide) (by decide) ?_
      refine lv_aload_n hx hb dX10_corner_44 rfl (lv_at hl 0 rfl) ?_
      refine va_get (D := (dC, dI)) (ci := 10) (v := .ref (b 9)) (C := RX10) (T := TX10) (N := 39) hx hb hts inX10 hown hK hP 0 rfl rfl 9 (by decide) lf32 (fun _ h9 => h9) rfl dX10_corner_45 ?_
      refine lv_iload_n hx hb dX10_corner_48 rfl (lv_at hl 1 rfl) ?_
      have b4 : vp_in co 48 := inC rfl (by omega) (by omega)
      refine va_iald hx hb hK hP 6 0 rfl rfl b4 dX10_corner_49 ?_
      have g5 : -1 ≤ (mtop co.toNatClampNeg).toInt ∧ (mtop co.toNatClampNeg).toInt ≤ 23 := rg_at r_mtop b4
      exact W.iret (v := mtop co.toNatClampNeg) hx hb hr (fun tq ht hW => ⟨mtop co.toNatClampNeg, rfl, (show spCor mtop mstr mgho mfai mpto co wh (mtop co.toNatClampNeg) from by (first | exact Or.inl ⟨by omega, rfl⟩ | (refine Or.inr ⟨by omega, ?_⟩; first | exact Or.inl ⟨by omega, by first | rfl | assumption⟩ | exact Or.inr (Or.inl ⟨by omega, by first | exact Or.inl ⟨by assumption, rfl⟩ | exact Or.inr ⟨by assumption, by first | rfl | assumption⟩⟩) | exact Or.inr (Or.inr (Or.inl ⟨by omega, by first | rfl | assumption⟩)) | exact Or.inr (Or.inr (Or.inr (Or.inl ⟨by omega, by first | exact Or.inl ⟨by assumption, rfl⟩ | exact Or.inr ⟨by assumption, by first | rfl | assumption⟩⟩))) | exact Or.inr (Or.inr (Or.inr (Or.inr (Or.inl ⟨by omega, by first | rfl | assumption⟩)))) | exact Or.inr (Or.inr (Or.inr (Or.inr (Or.inr ⟨by omega, rfl⟩))))))), ht⟩) (fun q h => by cases h) dX10_corner_50
    by_cases w6 : wh = 1
    · have dw6 : wh.toInt = 1 := eqC rfl rfl w6
      refine lv_tableIn (off := 40) (tgt := 51) hx hb dX10_corner_11 (by rw [w6]; decide) (by rw [w6]; decide) (by rw [w6]; decide) (by decide) ?_
      refine lv_aload_n hx hb dX10_corner_51 rfl (lv_at hl 0 rfl) ?_
      refine va_get (D := (dC, dI)) (ci := 10) (v := .ref (b 9)) (C := RX10) (T := TX10) (N := 39) hx hb hts inX10 hown hK hP 0 rfl rfl 9 (by decide) lf32 (fun _ h9 => h9) rfl dX10_corner_52 ?_
      refine lv_iload_n hx hb dX10_corner_55 rfl (lv_at hl 1 rfl) ?_
      have b7 : vp_in co 48 := inC rfl (by omega) (by omega)
      refine va_iald hx hb hK hP 6 0 rfl rfl b7 dX10_corner_56 ?_
      have g8 : -1 ≤ (mtop co.toNatClampNeg).toInt ∧ (mtop co.toNatClampNeg).toInt ≤ 23 := rg_at r_mtop b7
      refine lv_iconst (v := (-1)) hx hb dX10_corner_57 (by decide) ?_
      refine lv_icmp_ne (tgt := 65) hx hb dX10_corner_58 (by decide) (fun c9 => ?_) (fun c9 => ?_)
      · have dc9 : 0 ≤ (mtop co.toNatClampNeg).toInt := ka_lo (by omega) (neC rfl (show ((-1) : Int32).toInt = (-1) from rfl) c9)
        refine lv_aload_n hx hb dX10_corner_65 rfl (lv_at hl 0 rfl) ?_
        refine va_get (D := (dC, dI)) (ci := 10) (v := .ref (b 10)) (C := RX10) (T := TX10) (N := 39) hx hb hts inX10 hown hK hP 0 rfl rfl 10 (by decide) lf35 (fun _ h9 => h9) rfl dX10_corner_66 ?_
        refine lv_iload_n hx hb dX10_corner_69 rfl (lv_at hl 1 rfl) ?_
        have b10 : vp_in co 48 := inC rfl (by omega) (by omega)
        refine va_iald hx hb hK hP 7 0 rfl rfl b10 dX10_corner_70 ?_
        have g11 : 0 ≤ (mstr co.toNatClampNeg).toInt ∧ (mstr co.toNatClampNeg).toInt ≤ 100 := rg_at r_mstr b10
        exact W.iret (v := mstr co.toNatClampNeg) hx hb hr (fun tq ht hW => ⟨mstr co.toNatClampNeg, rfl, (show spCor mtop mstr mgho mfai mpto co wh (mstr co.toNatClampNeg) from by (first | exact Or.inl ⟨by omega, rfl⟩ | (refine Or.inr ⟨by omega, ?_⟩; first | exact Or.inl ⟨by omega, by first | rfl | assumption⟩ | exact Or.inr (Or.inl ⟨by omega, by first | exact Or.inl ⟨by assumption, rfl⟩ | exact Or.inr ⟨by assumption, by first | rfl | assumption⟩⟩) | exact Or.inr (Or.inr (Or.inl ⟨by omega, by first | rfl | assumption⟩)) | exact Or.inr (Or.inr (Or.inr (Or.inl ⟨by omega, by first | exact Or.inl ⟨by assumption, rfl⟩ | exact Or.inr ⟨by assumption, by first | rfl | assumption⟩⟩))) | exact Or.inr (Or.inr (Or.inr (Or.inr (Or.inl ⟨by omega, by first | rfl | assumption⟩)))) | exact Or.inr (Or.inr (Or.inr (Or.inr (Or.inr ⟨by omega, rfl⟩))))))), ht⟩) (fun q h => by cases h) dX10_corner_71
      · have dc9 : (mtop co.toNatClampNeg).toInt = (-1) := eqC rfl (show ((-1) : Int32).toInt = (-1) from rfl) c9
        refine lv_iconst (v := (-1)) hx hb dX10_corner_61 (by decide) ?_
        refine lv_goto (tgt := 71) hx hb dX10_corner_62 (by decide) ?_
        exact W.iret (v := (-1)) hx hb hr (fun tq ht hW => ⟨(-1), rfl, (show spCor mtop mstr mgho mfai mpto co wh ((-1) : Int32) from by (try rw [show ((-1) : Int32).toInt = (-1) from (show ((-1) : Int32).toInt = (-1) from rfl)]); (first | exact Or.inl ⟨by omega, rfl⟩ | (refine Or.inr ⟨by omega, ?_⟩; first | exact Or.inl ⟨by omega, by first | rfl | assumption⟩ | exact Or.inr (Or.inl ⟨by omega, by first | exact Or.inl ⟨by assumption, rfl⟩ | exact Or.inr ⟨by assumption, by first | rfl | assumption⟩⟩) | exact Or.inr (Or.inr (Or.inl ⟨by omega, by first | rfl | assumption⟩)) | exact Or.inr (Or.inr (Or.inr (Or.inl ⟨by omega, by first | exact Or.inl ⟨by assumption, rfl⟩ | exact Or.inr ⟨by assumption, by first | rfl | assumption⟩⟩))) | exact Or.inr (Or.inr (Or.inr (Or.inr (Or.inl ⟨by omega, by first | rfl | assumption⟩)))) | exact Or.inr (Or.inr (Or.inr (Or.inr (Or.inr ⟨by omega, rfl⟩))))))), ht⟩) (fun q h => by cases h) dX10_corner_71
    by_cases w12 : wh = 2
    · have dw12 : wh.toInt = 2 := eqC rfl rfl w12
      refine lv_tableIn (off := 61) (tgt := 72) hx hb dX10_corner_11 (by rw [w12]; decide) (by rw [w12]; decide) (by rw [w12]; decide) (by decide) ?_
      refine lv_aload_n hx hb dX10_corner_72 rfl (lv_at hl 0 rfl) ?_
      refine va_get (D := (dC, dI)) (ci := 10) (v := .ref (b 11)) (C := RX10) (T := TX10) (N := 39) hx hb hts inX10 hown hK hP 0 rfl rfl 11 (by decide) lf38 (fun _ h9 => h9) rfl dX10_corner_73 ?_
      refine lv_iload_n hx hb dX10_corner_76 rfl (lv_at hl 1 rfl) ?_
      have b13 : vp_in co 48 := inC rfl (by omega) (by omega)
      refine va_iald hx hb hK hP 8 0 rfl rfl b13 dX10_corner_77 ?_
      have g14 : -1 ≤ (mgho co.toNatClampNeg).toInt ∧ (mgho co.toNatClampNeg).toInt ≤ 23 := rg_at r_mgho b13
      exact W.iret (v := mgho co.toNatClampNeg) hx hb hr (fun tq ht hW => ⟨mgho co.toNatClampNeg, rfl, (show spCor mtop mstr mgho mfai mpto co wh (mgho co.toNatClampNeg) from by (first | exact Or.inl ⟨by omega, rfl⟩ | (refine Or.inr ⟨by omega, ?_⟩; first | exact Or.inl ⟨by omega, by first | rfl | assumption⟩ | exact Or.inr (Or.inl ⟨by omega, by first | exact Or.inl ⟨by assumption, rfl⟩ | exact Or.inr ⟨by assumption, by first | rfl | assumption⟩⟩) | exact Or.inr (Or.inr (Or.inl ⟨by omega, by first | rfl | assumption⟩)) | exact Or.inr (Or.inr (Or.inr (Or.inl ⟨by omega, by first | exact Or.inl ⟨by assumption, rfl⟩ | exact Or.inr ⟨by assumption, by first | rfl | assumption⟩⟩))) | exact Or.inr (Or.inr (Or.inr (Or.inr (Or.inl ⟨by omega, by first | rfl | assumption⟩)))) | exact Or.inr (Or.inr (Or.inr (Or.inr (Or.inr ⟨by omega, rfl⟩))))))), ht⟩) (fun q h => by cases h) dX10_corner_78
    by_cases w15 : wh = 3
    · have dw15 : wh.toInt = 3 := eqC rfl rfl w15
      refine lv_tableIn (off := 68) (tgt := 79) hx hb dX10_corner_11 (by rw [w15]; decide) (by rw [w15]; decide) (by rw [w15]; decide) (by decide) ?_
      refine lv_aload_n hx hb dX10_corner_79 rfl (lv_at hl 0 rfl) ?_
      refine va_get (D := (dC, dI)) (ci := 10) (v := .ref (b 11)) (C := RX10) (T := TX10) (N := 39) hx hb hts inX10 hown hK hP 0 rfl rfl 11 (by decide) lf38 (fun _ h9 => h9) rfl dX10_corner_80 ?_
      refine lv_iload_n hx hb dX10_corner_83 rfl (lv_at hl 1 rfl) ?_
      have b16 : vp_in co 48 := inC rfl (by omega) (by omega)
      refine va_iald hx hb hK hP 8 0 rfl rfl b16 dX10_corner_84 ?_
      have g17 : -1 ≤ (mgho co.toNatClampNeg).toInt ∧ (mgho co.toNatClampNeg).toInt ≤ 23 := rg_at r_mgho b16
      refine lv_iconst (v := (-1)) hx hb dX10_corner_85 (by decide) ?_
      refine lv_icmp_ne (tgt := 93) hx hb dX10_corner_86 (by decide) (fun c18 => ?_) (fun c18 => ?_)
      · have dc18 : 0 ≤ (mgho co.toNatClampNeg).toInt := ka_lo (by omega) (neC rfl (show ((-1) : Int32).toInt = (-1) from rfl) c18)
        refine lv_aload_n hx hb dX10_corner_93 rfl (lv_at hl 0 rfl) ?_
        refine va_get (D := (dC, dI)) (ci := 10) (v := .ref (b 12)) (C := RX10) (T := TX10) (N := 39) hx hb hts inX10 hown hK hP 0 rfl rfl 12 (by decide) lf41 (fun _ h9 => h9) rfl dX10_corner_94 ?_
        refine lv_iload_n hx hb dX10_corner_97 rfl (lv_at hl 1 rfl) ?_
        have b19 : vp_in co 48 := inC rfl (by omega) (by omega)
        refine va_iald hx hb hK hP 9 0 rfl rfl b19 dX10_corner_98 ?_
        have g20 : 0 ≤ (mfai co.toNatClampNeg).toInt ∧ (mfai co.toNatClampNeg).toInt ≤ 100 := rg_at r_mfai b19
        exact W.iret (v := mfai co.toNatClampNeg) hx hb hr (fun tq ht hW => ⟨mfai co.toNatClampNeg, rfl, (show spCor mtop mstr mgho mfai mpto co wh (mfai co.toNatClampNeg) from by (first | exact Or.inl ⟨by omega, rfl⟩ | (refine Or.inr ⟨by omega, ?_⟩; first | exact Or.inl ⟨by omega, by first | rfl | assumption⟩ | exact Or.inr (Or.inl ⟨by omega, by first | exact Or.inl ⟨by assumption, rfl⟩ | exact Or.inr ⟨by assumption, by first | rfl | assumption⟩⟩) | exact Or.inr (Or.inr (Or.inl ⟨by omega, by first | rfl | assumption⟩)) | exact Or.inr (Or.inr (Or.inr (Or.inl ⟨by omega, by first | exact Or.inl ⟨by assumption, rfl⟩ | exact Or.inr ⟨by assumption, by first | rfl | assumption⟩⟩))) | exact Or.inr (Or.inr (Or.inr (Or.inr (Or.inl ⟨by omega, by first | rfl | assumption⟩)))) | exact Or.inr (Or.inr (Or.inr (Or.inr (Or.inr ⟨by omega, rfl⟩))))))), ht⟩) (fun q h => by cases h) dX10_corner_99
      · have dc18 : (mgho co.toNatClampNeg).toInt = (-1) := eqC rfl (show ((-1) : Int32).toInt = (-1) from rfl) c18
        refine lv_iconst (v := (-1)) hx hb dX10_corner_89 (by decide) ?_
        refine lv_goto (tgt := 99) hx hb dX10_corner_90 (by decide) ?_
        exact W.iret (v := (-1)) hx hb hr (fun tq ht hW => ⟨(-1), rfl, (show spCor mtop mstr mgho mfai mpto co wh ((-1) : Int32) from by (try rw [show ((-1) : Int32).toInt = (-1) from (show ((-1) : Int32).toInt = (-1) from rfl)]); (first | exact Or.inl ⟨by omega, rfl⟩ | (refine Or.inr ⟨by omega, ?_⟩; first | exact Or.inl ⟨by omega, by first | rfl | assumption⟩ | exact Or.inr (Or.inl ⟨by omega, by first | exact Or.inl ⟨by assumption, rfl⟩ | exact Or.inr ⟨by assumption, by first | rfl | assumption⟩⟩) | exact Or.inr (Or.inr (Or.inl ⟨by omega, by first | rfl | assumption⟩)) | exact Or.inr (Or.inr (Or.inr (Or.inl ⟨by omega, by first | exact Or.inl ⟨by assumption, rfl⟩ | exact Or.inr ⟨by assumption, by first | rfl | assumption⟩⟩))) | exact Or.inr (Or.inr (Or.inr (Or.inr (Or.inl ⟨by omega, by first | rfl | assumption⟩)))) | exact Or.inr (Or.inr (Or.inr (Or.inr (Or.inr ⟨by omega, rfl⟩))))))), ht⟩) (fun q h => by cases h) dX10_corner_99
    by_cases w21 : wh = 4
    · have dw21 : wh.toInt = 4 := eqC rfl rfl w21
      refine lv_tableIn (off := 89) (tgt := 100) hx hb dX10_corner_11 (by rw [w21]; decide) (by rw [w21]; decide) (by rw [w21]; decide) (by decide) ?_
      refine lv_aload_n hx hb dX10_corner_100 rfl (lv_at hl 0 rfl) ?_
      refine va_get (D := (dC, dI)) (ci := 10) (v := .ref (b 13)) (C := RX10) (T := TX10) (N := 39) hx hb hts inX10 hown hK hP 0 rfl rfl 13 (by decide) lf44 (fun _ h9 => h9) rfl dX10_corner_101 ?_
      refine lv_iload_n hx hb dX10_corner_104 rfl (lv_at hl 1 rfl) ?_
      have b22 : vp_in co 48 := inC rfl (by omega) (by omega)
      refine va_iald hx hb hK hP 10 0 rfl rfl b22 dX10_corner_105 ?_
      exact W.iret (v := mpto co.toNatClampNeg) hx hb hr (fun tq ht hW => ⟨mpto co.toNatClampNeg, rfl, (show spCor mtop mstr mgho mfai mpto co wh (mpto co.toNatClampNeg) from by (first | exact Or.inl ⟨by omega, rfl⟩ | (refine Or.inr ⟨by omega, ?_⟩; first | exact Or.inl ⟨by omega, by first | rfl | assumption⟩ | exact Or.inr (Or.inl ⟨by omega, by first | exact Or.inl ⟨by assumption, rfl⟩ | exact Or.inr ⟨by assumption, by first | rfl | assumption⟩⟩) | exact Or.inr (Or.inr (Or.inl ⟨by omega, by first | rfl | assumption⟩)) | exact Or.inr (Or.inr (Or.inr (Or.inl ⟨by omega, by first | exact Or.inl ⟨by assumption, rfl⟩ | exact Or.inr ⟨by assumption, by first | rfl | assumption⟩⟩))) | exact Or.inr (Or.inr (Or.inr (Or.inr (Or.inl ⟨by omega, by first | rfl | assumption⟩)))) | exact Or.inr (Or.inr (Or.inr (Or.inr (Or.inr ⟨by omega, rfl⟩))))))), ht⟩) (fun q h => by cases h) dX10_corner_106
    have nw3 : wh.toInt ≠ 0 := neC rfl rfl w3
    have nw6 : wh.toInt ≠ 1 := neC rfl rfl w6
    have nw12 : wh.toInt ≠ 2 := neC rfl rfl w12
    have nw15 : wh.toInt ≠ 3 := neC rfl rfl w15
    have nw21 : wh.toInt ≠ 4 := neC rfl rfl w21
    have o11 : wh.toInt < 0 ∨ 4 < wh.toInt := by rw [show wh.toInt = wh.toInt from rfl]; omega
    refine lv_tableOut (tgt := 107) hx hb dX10_corner_11 o11 (by decide) ?_
    refine lv_bipush (v := (-3)) hx hb dX10_corner_107 (by decide) ?_
    exact W.iret (v := (-3)) hx hb hr (fun tq ht hW => ⟨(-3), rfl, (show spCor mtop mstr mgho mfai mpto co wh ((-3) : Int32) from by (try rw [show ((-3) : Int32).toInt = (-3) from (show ((-3) : Int32).toInt = (-3) from rfl)]); (first | exact Or.inl ⟨by omega, rfl⟩ | (refine Or.inr ⟨by omega, ?_⟩; first | exact Or.inl ⟨by omega, by first | rfl | assumption⟩ | exact Or.inr (Or.inl ⟨by omega, by first | exact Or.inl ⟨by assumption, rfl⟩ | exact Or.inr ⟨by assumption, by first | rfl | assumption⟩⟩) | exact Or.inr (Or.inr (Or.inl ⟨by omega, by first | rfl | assumption⟩)) | exact Or.inr (Or.inr (Or.inr (Or.inl ⟨by omega, by first | exact Or.inl ⟨by assumption, rfl⟩ | exact Or.inr ⟨by assumption, by first | rfl | assumption⟩⟩))) | exact Or.inr (Or.inr (Or.inr (Or.inr (Or.inl ⟨by omega, by first | rfl | assumption⟩)))) | exact Or.inr (Or.inr (Or.inr (Or.inr (Or.inr ⟨by omega, rfl⟩))))))), ht⟩) (fun q h => by cases h) dX10_corner_109
  · refine lv_if_ne (tgt := 10) hx hb dX10_corner_4 (by decide) (fun c9 => absurd (by decide) c9) (fun _ => ?_)
    refine lv_bipush (v := (-2)) hx hb dX10_corner_7 (by decide) ?_
    exact W.iret (v := (-2)) hx hb hr (fun tq ht hW => ⟨(-2), rfl, (show spCor mtop mstr mgho mfai mpto co wh ((-2) : Int32) from by (try rw [show ((-2) : Int32).toInt = (-2) from (show ((-2) : Int32).toInt = (-2) from rfl)]); (first | exact Or.inl ⟨by omega, rfl⟩ | (refine Or.inr ⟨by omega, ?_⟩; first | exact Or.inl ⟨by omega, by first | rfl | assumption⟩ | exact Or.inr (Or.inl ⟨by omega, by first | exact Or.inl ⟨by assumption, rfl⟩ | exact Or.inr ⟨by assumption, by first | rfl | assumption⟩⟩) | exact Or.inr (Or.inr (Or.inl ⟨by omega, by first | rfl | assumption⟩)) | exact Or.inr (Or.inr (Or.inr (Or.inl ⟨by omega, by first | exact Or.inl ⟨by assumption, rfl⟩ | exact Or.inr ⟨by assumption, by first | rfl | assumption⟩⟩))) | exact Or.inr (Or.inr (Or.inr (Or.inr (Or.inl ⟨by omega, by first | rfl | assumption⟩)))) | exact Or.inr (Or.inr (Or.inr (Or.inr (Or.inr ⟨by omega, rfl⟩))))))), ht⟩) (fun q h => by cases h) dX10_corner_9
end
