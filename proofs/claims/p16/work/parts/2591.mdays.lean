-- ===== the model's DAYS =====
def LB (mar top : Nat → Int32) (tel co : Int32) (i L : Int) : Prop := L = cwF mar top tel co.toNatClampNeg (co.toNatClampNeg - co.toNatClampNeg % 6) (i - co.toInt / 6 * 6).toNat
theorem lb_init {mar top : Nat → Int32} {tel co : Int32} {i L : Int} (hi : i = co.toInt / 6 * 6) (hL : L = 0) : LB mar top tel co i L := by
  unfold LB; rw [show (i - co.toInt / 6 * 6).toNat = 0 by omega]; exact hL
theorem lb_no {mar top : Nat → Int32} {tel co o : Int32} {i L R : Int} (q : LB mar top tel co o.toInt L) (hb : crdB mar top tel o.toNatClampNeg co.toNatClampNeg = false) (h0 : 0 ≤ co.toInt) (h1 : co.toInt / 6 * 6 ≤ o.toInt) (hi : i = o.toInt + 1) (hR : R = L) : LB mar top tel co i R := by
  have e := clC (x := co) rfl
  have e2 := clC (x := o) rfl
  unfold LB at q ⊢
  rw [show (i - co.toInt / 6 * 6).toNat = (o.toInt - co.toInt / 6 * 6).toNat + 1 by omega]
  show R = cwF mar top tel co.toNatClampNeg (co.toNatClampNeg - co.toNatClampNeg % 6) (o.toInt - co.toInt / 6 * 6).toNat + (if crdB mar top tel (co.toNatClampNeg - co.toNatClampNeg % 6 + (o.toInt - co.toInt / 6 * 6).toNat) co.toNatClampNeg then 1 else 0)
  rw [show co.toNatClampNeg - co.toNatClampNeg % 6 + (o.toInt - co.toInt / 6 * 6).toNat = o.toNatClampNeg by omega, hb, ← q, hR]; simp
theorem lb_yes {mar top : Nat → Int32} {tel co o : Int32} {i L R : Int} (q : LB mar top tel co o.toInt L) (hb : crdB mar top tel o.toNatClampNeg co.toNatClampNeg = true) (h0 : 0 ≤ co.toInt) (h1 : co.toInt / 6 * 6 ≤ o.toInt) (hi : i = o.toInt + 1) (hR : R = L + 1) : LB mar top tel co i R := by
  have e := clC (x := co) rfl
  have e2 := clC (x := o) rfl
  unfold LB at q ⊢
  rw [show (i - co.toInt / 6 * 6).toNat = (o.toInt - co.toInt / 6 * 6).toNat + 1 by omega]
  show R = cwF mar top tel co.toNatClampNeg (co.toNatClampNeg - co.toNatClampNeg % 6) (o.toInt - co.toInt / 6 * 6).toNat + (if crdB mar top tel (co.toNatClampNeg - co.toNatClampNeg % 6 + (o.toInt - co.toInt / 6 * 6).toNat) co.toNatClampNeg then 1 else 0)
  rw [show co.toNatClampNeg - co.toNatClampNeg % 6 + (o.toInt - co.toInt / 6 * 6).toNat = o.toNatClampNeg by omega, hb, ← q, hR]; rfl
theorem lb_end {mar top : Nat → Int32} {tel co : Int32} {i L : Int} (q : LB mar top tel co i L) (hi : i = co.toInt / 6 * 6 + 6) : L = cwF mar top tel co.toNatClampNeg (co.toNatClampNeg - co.toNatClampNeg % 6) 6 := by
  unfold LB at q; rw [show (i - co.toInt / 6 * 6).toNat = 6 by omega] at q; exact q
theorem crd_noR {mar top : Nat → Int32} {tel o c r : Int32} (e : r = bc (mar (top o.toNatClampNeg).toNatClampNeg &&& mar (top c.toNatClampNeg).toNatClampNeg)) (h : r.toInt < tel.toInt) : crdB mar top tel o.toNatClampNeg c.toNatClampNeg = false := crd_no (e ▸ h)
theorem crd_yesR {mar top : Nat → Int32} {tel o c r : Int32} (e : r = bc (mar (top o.toNatClampNeg).toNatClampNeg &&& mar (top c.toNatClampNeg).toNatClampNeg)) (h : tel.toInt ≤ r.toInt) (h0 : o.toInt ≠ c.toInt) (h1 : 0 ≤ o.toInt) (h2 : 0 ≤ c.toInt) (t1 : ¬ top o.toNatClampNeg = -1) (t2 : 0 ≤ (top c.toNatClampNeg).toInt) : crdB mar top tel o.toNatClampNeg c.toNatClampNeg = true :=
  crd_yes h0 h1 h2 t1 (fun q => by rw [q] at t2; exact absurd t2 (by decide)) (e ▸ h)
def gdV (f mar top : Nat → Int32) (tel : Int32) (y : Nat) (a : Int) : Int := if top y = -1 then 0 else fl f a (cwF mar top tel y (y - y % 6) 6)
def gdS (f mar top : Nat → Int32) (tel : Int32) (o i : Int) (A F A' F' : Nat → Int32) : Prop :=
  ∀ k : Nat, k < 240 → (o ≤ k ∧ (k : Int) < o + i → (A' k).toInt = gdV f mar top tel (k - o.toNat) (A k).toInt ∧ (F' k).toInt = fl f (F k).toInt 0) ∧ (¬ (o ≤ k ∧ (k : Int) < o + i) → A' k = A k ∧ F' k = F k)
theorem gd_init {f mar top A F : Nat → Int32} {tel : Int32} {o i : Int} (hi : i = 0) : gdS f mar top tel o i A F A F := fun k _ => ⟨fun q => by omega, fun _ => ⟨rfl, rfl⟩⟩
theorem gd_step {f mar top A F A1 F1 A2 F2 : Nat → Int32} {tel y v w xr xw : Int32} {o i : Int} (q : gdS f mar top tel o y.toInt A F A1 F1) (eA : A2 = upd A1 xw.toNatClampNeg v) (eF : F2 = upd F1 xw.toNatClampNeg w) (ho : 0 ≤ o) (ho2 : o ≤ 192) (hy : 0 ≤ y.toInt) (hy2 : y.toInt < 48) (hxw : xw.toInt = o + y.toInt) (hxr : xr.toInt = o + y.toInt) (hv : v.toInt = gdV f mar top tel y.toNatClampNeg (A1 xr.toNatClampNeg).toInt) (hw : w.toInt = fl f (F1 xr.toNatClampNeg).toInt 0) (hi : i = y.toInt + 1) : gdS f mar top tel o i A F A2 F2 := by
  subst hi; subst eA; subst eF
  have ew := clC hxw
  have er := clC hxr
  have ey := clC (x := y) rfl
  rw [er] at hv hw; rw [ew]
  have w0 := (q (o + y.toInt).toNat (by omega)).2 (fun z => by omega)
  rw [w0.1] at hv; rw [w0.2] at hw
  intro k hk
  by_cases c : k = (o + y.toInt).toNat
  · subst c
    refine ⟨fun _ => ⟨?_, ?_⟩, fun z => absurd ⟨by omega, by omega⟩ z⟩
    · rw [pk_us, hv, show (o + y.toInt).toNat - o.toNat = y.toNatClampNeg by omega]
    · rw [pk_us, hw]
  · rw [pk_un c, pk_un c]
    exact ⟨fun z => (q k hk).1 (by omega), fun z => (q k hk).2 (by omega)⟩
theorem gv_none {f mar top : Nat → Int32} {tel : Int32} {y : Nat} {a V : Int} (ht : (top y).toInt = -1) (hv : V = 0) : V = gdV f mar top tel y a := by
  unfold gdV; rw [if_pos (Int32.toInt_inj.mp ht)]; exact hv
theorem fl_of {f : Nat → Int32} {x a : Int32} {V m M : Int} (ex : x = a) (hd : (x / 10).toInt = x.toInt / 10) (hm : m = M) (hv : V = max 0 (x.toInt - (f (x / 10).toNatClampNeg).toInt - m)) : V = fl f a.toInt M := by
  subst ex; subst hm; unfold fl; rw [← clC hd]; exact hv
theorem gv_top {f mar top : Nat → Int32} {tel x a : Int32} {y : Nat} {V m : Int} (ht : ¬ top y = -1) (ex : x = a) (hd : (x / 10).toInt = x.toInt / 10) (hm : m = cwF mar top tel y (y - y % 6) 6) (hv : V = max 0 (x.toInt - (f (x / 10).toNatClampNeg).toInt - m)) : V = gdV f mar top tel y a.toInt := by
  unfold gdV; rw [if_neg ht]; exact fl_of ex hd hm hv
set_option maxHeartbeats 4000000 in
set_option maxRecDepth 100000 in
theorem k_X10_likeBeside2 (l : Launch) (dC : Nat → ClassId) (dI : Nat → Nat → Nat) (cI cZ cQ : ClassId) (b : Nat → Nat) (mday : Int32) (mdoo : Int32) (mdA : Nat → Int32) (mdB : Nat → Int32) (mfar : Nat → Int32) (mmar : Nat → Int32) (mtel : Int32) (mgai : Int32) (mfal : Nat → Int32) (mtop : Nat → Int32) (mstr : Nat → Int32) (mgho : Nat → Int32) (mfai : Nat → Int32) (mpto : Nat → Int32) (mwal : Nat → Int32) (mahd : Nat → Int32) (mahf : Nat → Int32) (mcho : Nat → Int32) (mbes : Nat → Int32) (mbyt : Int32) (mtxt : Nat → Int32) (mpos : Int32) (mtka : Int32) (mtok : Int64) (mdig : Int32) (mnum : Int32) (mfau : Int32) (mrdm : Int32) (mrea : Nat → Int32) (mlin : Int32) (mlne : Nat → Int32) (mthg : Nat → Int32) (mord : Nat → Int32) (mbor : Nat → Int32) (mbsm : Int32) (mans : Nat → Int32) (mand : Nat → Int32) (manr : Nat → Int32) (mali : Nat → Int32) (co : Int32) (r_mday : 0 ≤ mday.toInt ∧ mday.toInt ≤ 400) (r_mdoo : 0 ≤ mdoo.toInt ∧ mdoo.toInt ≤ 14) (r_mdA : rg 14 (0) (7) mdA) (r_mdB : rg 14 (0) (7) mdB) (r_mmar : rg 24 (0) (255) mmar) (r_mgai : 0 ≤ mgai.toInt ∧ mgai.toInt ≤ 100) (r_mfal : rg 11 (0) (30) mfal) (r_mtop : rg 48 (-1) (23) mtop) (r_mstr : rg 48 (0) (100) mstr) (r_mgho : rg 48 (-1) (23) mgho) (r_mfai : rg 48 (0) (100) mfai) (r_mahd : rg 240 (0) (100) mahd) (r_mahf : rg 240 (0) (100) mahf) (r_mcho : rg 5 (-1) (9) mcho) (r_mbyt : 0 ≤ mbyt.toInt ∧ mbyt.toInt ≤ 160) (r_mpos : 0 ≤ mpos.toInt ∧ mpos.toInt ≤ 160) (r_mrdm : 0 ≤ mrdm.toInt ∧ mrdm.toInt ≤ 10) (r_mlin : 0 ≤ mlin.toInt ∧ mlin.toInt ≤ 10) (r_mthg : rg 8 (0) (31) mthg) (r_mord : rg 8 (-1) (8) mord) (r_mans : rg 4 (0) (12) mans) (q0 : 0 ≤ co.toInt) (q1 : co.toInt ≤ 47) (q2 : 0 ≤ (mtop co.toNatClampNeg).toInt) : KR l yX10_likeBeside wsX10_likeBeside { frames := 1, cells := 0, slots := 0, locals := 25 } (dC, dI) (TY cI cZ cQ) (wMod cI cZ cQ b mday mdoo mdA mdB mfar mmar mtel mgai mfal mtop mstr mgho mfai mpto mwal mahd mahf mcho mbes mbyt mtxt mpos mtka mtok mdig mnum mfau mrdm mrea mlin mlne mthg mord mbor mbsm mans mand manr mali) [.ref (b 39), .int co] (fun r : Int32 => (0 ≤ r.toInt) ∧ (r.toInt ≤ 6) ∧ (r.toInt = cwF mmar mtop mtel co.toNatClampNeg (co.toNatClampNeg - co.toNatClampNeg % 6) 6)) := by
  refine Met.ofW (cc := cX10_likeBeside) (maxL := 4) (ret := (some .int)) (by decide) rfl ?_
  intro p e s m args below meth c s₁ B hml hv
  obtain ⟨rfl, hP, hK, hN⟩ := hv
  have hx := B.exec
  have hb := B.bytes
  have hr := B.returns
  have hts := atoms_spec (ws := wsX10_likeBeside) B.pre
  have hown : s.vm.findClass RX10 = some m.cls := findClass_of_methodNamed B.named
  have hlocks := B.notSynchronized
  have lf32 := hts (.fieldLink RX10 32 "PalaceOfRoomsModel" "top" "[I") (List.mem_cons_of_mem _ (List.mem_append_left _ (List.mem_of_getElem? (i := 0) rfl)))
  have inX10 : ∀ w ∈ wsX100, w ∈ wsX10_likeBeside := fun w h => List.mem_cons_of_mem _ (List.mem_append_right _ h)
  have lf22 := hts (.fieldLink RX10 22 "PalaceOfRoomsModel" "tell" "I") (List.mem_cons_of_mem _ (List.mem_append_left _ (List.mem_of_getElem? (i := 1) rfl)))
  have hl := lv_entry ([.ref (b 39), .int co]) (n := 4) (Nat.le_of_ble_eq_true rfl)
  rw [lg_entry_eq]
  generalize (lg_sl ([.ref (b 39), .int co]) ++ List.replicate (4 - (lg_sl ([.ref (b 39), .int co])).length) Slot.unset).toArray = ls at hl ⊢
  have hl : lv_has ls 4 [(0, .ref (b 39)), (1, .int co)] := hl
  refine lv_iconst (v := 0) hx hb dX10_likeBeside_0 (by decide) ?_
  refine lv_istore_n (lv' := [(2, .int 0), (0, .ref (b 39)), (1, .int co)]) hx hb dX10_likeBeside_1 rfl hl (by decide) rfl (fun ls hl => ?_)
  refine lv_iload_n hx hb dX10_likeBeside_2 rfl (lv_at hl 2 rfl) ?_
  refine lv_bipush (v := 6) hx hb dX10_likeBeside_3 (by decide) ?_
  refine lv_idiv hx hb dX10_likeBeside_5 (by decide) ?_
  have f1 : (co / 6).toInt = (co.toInt) / (6) := divC rfl (show (6 : Int32).toInt = 6 from rfl) (by omega) (by omega)
  refine lv_bipush (v := 6) hx hb dX10_likeBeside_6 (by decide) ?_
  refine lv_imul hx hb dX10_likeBeside_8 ?_
  have f2 : ((co / 6) * 6).toInt = ((co.toInt) / (6)) * (6) := mulC f1 (show (6 : Int32).toInt = 6 from rfl) (by omega) (by omega)
  refine lv_topi (fun x3 ex3 => ?_)
  have ix3 : x3.toInt = ((co.toInt) / (6)) * (6) := by rw [ex3]; exact f2
  refine lv_istore_n (lv' := [(3, .int x3), (2, .int 0), (0, .ref (b 39)), (1, .int co)]) hx hb dX10_likeBeside_9 rfl hl (by decide) rfl (fun ls hl => ?_)
  have L10 : ∀ (nn : Nat) (y10_2 : Int32) (y10_3 : Int32) (ls : Array Slot), (0 ≤ (y10_3.toInt)) → ((y10_3.toInt) ≤ 48) → (0 ≤ (y10_2.toInt)) → ((y10_2.toInt) ≤ (y10_3.toInt) - (co.toInt) / 6 * 6) → ((y10_2.toInt) ≤ 6) → ((co.toInt) / 6 * 6 ≤ (y10_3.toInt)) → ((y10_3.toInt) ≤ (co.toInt) / 6 * 6 + 6) → (LB mmar mtop mtel co (y10_3.toInt) (y10_2.toInt)) → (48 - (y10_3.toInt)).toNat < nn → lv_has ls 4 [(0, .ref (b 39)), (1, .int co), (2, .int y10_2), (3, .int y10_3)] → W p l e (headSpec wsX10_likeBeside { frames := 1, cells := 0, slots := 0, locals := 25 }).room s m ([.ref (b 39), .int co] : List Value).toArray below meth c s.heap [] 0 0 (MQ below (QR (fun r : Int32 => (0 ≤ r.toInt) ∧ (r.toInt ≤ 6) ∧ (r.toInt = cwF mmar mtop mtel co.toNatClampNeg (co.toNatClampNeg - co.toNatClampNeg % 6) 6))) ([.ref (b 39), .int co] : List Value).toArray s 0 0 (fun _ => False)) (F0 m 10 ls []) := by
    intro nn
    induction nn with
    | zero =>
      intro y10_2 y10_3 ls i10_0 i10_1 i10_2 i10_3 i10_4 i10_5 i10_6 i10_7 hm10
      exact absurd hm10 (Nat.not_lt_zero _)
    | succ nn ih10 =>
      intro y10_2 y10_3 ls i10_0 i10_1 i10_2 i10_3 i10_4 i10_5 i10_6 i10_7 hm10 hl
      refine lv_iload_n hx hb dX10_likeBeside_10 rfl (lv_at hl 3 rfl) ?_
      refine lv_iload_n hx hb dX10_likeBeside_11 rfl (lv_at hl 1 rfl) ?_
      refine lv_bipush (v := 6) hx hb dX10_likeBeside_12 (by decide) ?_
      refine lv_idiv hx hb dX10_likeBeside_14 (by decide) ?_
      have f4 : (co / 6).toInt = (co.toInt) / (6) := divC rfl (show (6 : Int32).toInt = 6 from rfl) (by omega) (by omega)
      refine lv_bipush (v := 6) hx hb dX10_likeBeside_15 (by decide) ?_
      refine lv_imul hx hb dX10_likeBeside_17 ?_
      have f5 : ((co / 6) * 6).toInt = ((co.toInt) / (6)) * (6) := mulC f4 (show (6 : Int32).toInt = 6 from rfl) (by omega) (by omega)
      refine lv_bipush (v := 6) hx hb dX10_likeBeside_18 (by decide) ?_
      refine lv_iadd hx hb dX10_likeBeside_20 ?_
      have f6 : (((co / 6) * 6) + 6).toInt = (((co.toInt) / (6)) * (6)) + (6) := addC f5 (show (6 : Int32).toInt = 6 from rfl) (by omega) (by omega)
      refine lv_icmp_ge (tgt := 76) hx hb dX10_likeBeside_21 (by decide) (fun c7 => ?_) (fun c7 => ?_)
      · have dc7 : (((co.toInt) / (6)) * (6)) + (6) ≤ y10_3.toInt := leC f6 rfl c7
        refine lv_iload_n hx hb dX10_likeBeside_76 rfl (lv_at hl 2 rfl) ?_
        exact W.iret (v := y10_2) hx hb hr (fun tq ht hW => ⟨y10_2, rfl, ⟨(show 0 ≤ y10_2.toInt from by omega), (show y10_2.toInt ≤ 6 from by omega), (show y10_2.toInt = cwF mmar mtop mtel co.toNatClampNeg (co.toNatClampNeg - co.toNatClampNeg % 6) 6 from by exact lb_end i10_7 (by omega))⟩, ht⟩) (fun q h => by cases h) dX10_likeBeside_77
      · have dc7 : y10_3.toInt < (((co.toInt) / (6)) * (6)) + (6) := nleC f6 rfl c7
        refine lv_iload_n hx hb dX10_likeBeside_24 rfl (lv_at hl 2 rfl) ?_
        refine lv_iload_n hx hb dX10_likeBeside_25 rfl (lv_at hl 3 rfl) ?_
        refine lv_iload_n hx hb dX10_likeBeside_26 rfl (lv_at hl 1 rfl) ?_
        refine lv_icmp_eq (tgt := 67) hx hb dX10_likeBeside_27 (by decide) (fun c8 => ?_) (fun c8 => ?_)
        · have dc8 : y10_3.toInt = co.toInt := eqC rfl rfl c8
          refine lv_iconst (v := 0) hx hb dX10_likeBeside_67 (by decide) ?_
          refine lv_iadd hx hb dX10_likeBeside_68 ?_
          have f9 : (y10_2 + 0).toInt = (y10_2.toInt) + (0) := addC rfl (show (0 : Int32).toInt = 0 from rfl) (by omega) (by omega)
          refine lv_topi (fun x10 ex10 => ?_)
          have ix10 : x10.toInt = (y10_2.toInt) + (0) := by rw [ex10]; exact f9
          refine lv_istore_n (lv' := [(2, .int x10), (0, .ref (b 39)), (1, .int co), (3, .int y10_3)]) hx hb dX10_likeBeside_69 rfl hl (by decide) rfl (fun ls hl => ?_)
          obtain ⟨z11, ez11⟩ : ∃ y : Int32, y = y10_3 + 1 := ⟨_, rfl⟩
          have iz11 : z11.toInt = y10_3.toInt + 1 := by rw [ez11]; exact addC rfl rfl (by omega) (by omega)
          refine lv_iinc (v := z11) (lv' := [(3, .int z11), (2, .int x10), (0, .ref (b 39)), (1, .int co)]) hx hb dX10_likeBeside_70 hl (k := 3) rfl (by rw [ez11]; rfl) (by decide) rfl (fun ls hl => ?_)
          refine lv_goto (tgt := 10) hx hb dX10_likeBeside_73 (by decide) ?_
          exact ih10 x10 z11 _ (by omega) (by omega) (by omega) (by omega) (by omega) (by omega) (by omega) (by (first | exact lb_yes i10_7 (crd_yesR (by assumption) (by omega) (by omega) (by omega) (by omega) (by assumption) (by omega)) (by omega) (by omega) (by omega) (by omega) | exact lb_no i10_7 (by first | exact crd_eq (by assumption) | exact crd_t1 (by assumption) | exact crd_noR (by assumption) (by omega)) (by omega) (by omega) (by omega) (by omega) | exact lb_init (by omega) (by first | rfl | omega))) (by omega) (lv_sub hl [2, 3, 1, 0] rfl)
        · have dc8 : y10_3.toInt ≠ co.toInt := neC rfl rfl c8
          refine lv_aload_n hx hb dX10_likeBeside_30 rfl (lv_at hl 0 rfl) ?_
          refine va_get (D := (dC, dI)) (ci := 10) (v := .ref (b 9)) (C := RX10) (T := TX10) (N := 39) hx hb hts inX10 hown hK hP 0 rfl rfl 9 (by decide) lf32 (fun _ h9 => h9) rfl dX10_likeBeside_31 ?_
          refine lv_iload_n hx hb dX10_likeBeside_34 rfl (lv_at hl 3 rfl) ?_
          have b12 : vp_in y10_3 48 := inC rfl (by omega) (by omega)
          refine va_iald hx hb hK hP 6 0 rfl rfl b12 dX10_likeBeside_35 ?_
          have g13 : -1 ≤ (mtop y10_3.toNatClampNeg).toInt ∧ (mtop y10_3.toNatClampNeg).toInt ≤ 23 := rg_at r_mtop b12
          refine lv_iconst (v := (-1)) hx hb dX10_likeBeside_36 (by decide) ?_
          refine lv_icmp_eq (tgt := 67) hx hb dX10_likeBeside_37 (by decide) (fun c14 => ?_) (fun c14 => ?_)
          · have dc14 : (mtop y10_3.toNatClampNeg).toInt = (-1) := eqC rfl (show ((-1) : Int32).toInt = (-1) from rfl) c14
            refine lv_iconst (v := 0) hx hb dX10_likeBeside_67 (by decide) ?_
            refine lv_iadd hx hb dX10_likeBeside_68 ?_
            have f15 : (y10_2 + 0).toInt = (y10_2.toInt) + (0) := addC rfl (show (0 : Int32).toInt = 0 from rfl) (by omega) (by omega)
            refine lv_topi (fun x16 ex16 => ?_)
            have ix16 : x16.toInt = (y10_2.toInt) + (0) := by rw [ex16]; exact f15
            refine lv_istore_n (lv' := [(2, .int x16), (0, .ref (b 39)), (1, .int co), (3, .int y10_3)]) hx hb dX10_likeBeside_69 rfl hl (by decide) rfl (fun ls hl => ?_)
            obtain ⟨z17, ez17⟩ : ∃ y : Int32, y = y10_3 + 1 := ⟨_, rfl⟩
            have iz17 : z17.toInt = y10_3.toInt + 1 := by rw [ez17]; exact addC rfl rfl (by omega) (by omega)
            refine lv_iinc (v := z17) (lv' := [(3, .int z17), (2, .int x16), (0, .ref (b 39)), (1, .int co)]) hx hb dX10_likeBeside_70 hl (k := 3) rfl (by rw [ez17]; rfl) (by decide) rfl (fun ls hl => ?_)
            refine lv_goto (tgt := 10) hx hb dX10_likeBeside_73 (by decide) ?_
            exact ih10 x16 z17 _ (by omega) (by omega) (by omega) (by omega) (by omega) (by omega) (by omega) (by (first | exact lb_yes i10_7 (crd_yesR (by assumption) (by omega) (by omega) (by omega) (by omega) (by assumption) (by omega)) (by omega) (by omega) (by omega) (by omega) | exact lb_no i10_7 (by first | exact crd_eq (by assumption) | exact crd_t1 (by assumption) | exact crd_noR (by assumption) (by omega)) (by omega) (by omega) (by omega) (by omega) | exact lb_init (by omega) (by first | rfl | omega))) (by omega) (lv_sub hl [2, 3, 1, 0] rfl)
          · have dc14 : 0 ≤ (mtop y10_3.toNatClampNeg).toInt := ka_lo (by omega) (neC rfl (show ((-1) : Int32).toInt = (-1) from rfl) c14)
            refine lv_aload_n hx hb dX10_likeBeside_40 rfl (lv_at hl 0 rfl) ?_
            refine lv_aload_n hx hb dX10_likeBeside_41 rfl (lv_at hl 0 rfl) ?_
            refine va_get (D := (dC, dI)) (ci := 10) (v := .ref (b 9)) (C := RX10) (T := TX10) (N := 39) hx hb hts inX10 hown hK hP 0 rfl rfl 9 (by decide) lf32 (fun _ h9 => h9) rfl dX10_likeBeside_42 ?_
            refine lv_iload_n hx hb dX10_likeBeside_45 rfl (lv_at hl 3 rfl) ?_
            have b18 : vp_in y10_3 48 := inC rfl (by omega) (by omega)
            refine va_iald hx hb hK hP 6 0 rfl rfl b18 dX10_likeBeside_46 ?_
            have g19 : -1 ≤ (mtop y10_3.toNatClampNeg).toInt ∧ (mtop y10_3.toNatClampNeg).toInt ≤ 23 := rg_at r_mtop b18
            refine lv_aload_n hx hb dX10_likeBeside_47 rfl (lv_at hl 0 rfl) ?_
            refine va_get (D := (dC, dI)) (ci := 10) (v := .ref (b 9)) (C := RX10) (T := TX10) (N := 39) hx hb hts inX10 hown hK hP 0 rfl rfl 9 (by decide) lf32 (fun _ h9 => h9) rfl dX10_likeBeside_48 ?_
            refine lv_iload_n hx hb dX10_likeBeside_51 rfl (lv_at hl 1 rfl) ?_
            have b20 : vp_in co 48 := inC rfl (by omega) (by omega)
            refine va_iald hx hb hK hP 6 0 rfl rfl b20 dX10_likeBeside_52 ?_
            have g21 : -1 ≤ (mtop co.toNatClampNeg).toInt ∧ (mtop co.toNatClampNeg).toInt ≤ 23 := rg_at r_mtop b20
            refine rdV (As := [.int (mtop y10_3.toNatClampNeg), .int (mtop co.toNatClampNeg)]) (rest := [.int y10_2]) ⟨hx, hb, hml, hown, hts⟩ (k_X10_likeness l dC dI cI cZ cQ b mday mdoo mdA mdB mfar mmar mtel mgai mfal mtop mstr mgho mfai mpto mwal mahd mahf mcho mbes mbyt mtxt mpos mtka mtok mdig mnum mfau mrdm mrea mlin mlne mthg mord mbor mbsm mans mand manr mali (mtop y10_3.toNatClampNeg) (mtop co.toNatClampNeg) r_mday r_mdoo r_mdA r_mdB r_mmar r_mgai r_mfal r_mtop r_mstr r_mgho r_mfai r_mahd r_mahf r_mcho r_mbyt r_mpos r_mrdm r_mlin r_mthg r_mord r_mans (by omega) (by omega) (by omega) (by omega)) (cwV 2 hts gX10_likeBeside_X10_likeness rfl rfl rfl (by decide +kernel) ⟨Nat.le_of_ble_eq_true rfl, Nat.le_of_ble_eq_true rfl⟩) hP hK hN [0, 1, 2, 3, 4, 5, 6, 7, 8, 9, 10, 11, 12, 13, 14, 15, 16, 17, 18, 19, 20, 21, 22, 23, 24, 25] rfl 0 10 rfl rfl rfl hl.1 rfl (Nat.le_of_ble_eq_true rfl) dX10_likeBeside_53 ⟨Nat.le_of_ble_eq_true rfl, Nat.le_of_ble_eq_true rfl⟩ (fun r22 h23 => ?_)
            have h23 : (r22 = bc (mmar (mtop y10_3.toNatClampNeg).toNatClampNeg &&& mmar (mtop co.toNatClampNeg).toNatClampNeg)) := h23
            have h23_0 := h23
            refine lv_aload_n hx hb dX10_likeBeside_56 rfl (lv_at hl 0 rfl) ?_
            refine va_get (D := (dC, dI)) (ci := 10) (v := .int mtel) (C := RX10) (T := TX10) (N := 39) hx hb hts inX10 hown hK hP 0 rfl rfl 6 (by decide) lf22 (fun _ h9 => h9) rfl dX10_likeBeside_57 ?_
            refine lv_icmp_lt (tgt := 67) hx hb dX10_likeBeside_60 (by decide) (fun c24 => ?_) (fun c24 => ?_)
            · have dc24 : r22.toInt < mtel.toInt := ltC rfl rfl c24
              refine lv_iconst (v := 0) hx hb dX10_likeBeside_67 (by decide) ?_
              refine lv_iadd hx hb dX10_likeBeside_68 ?_
              have f25 : (y10_2 + 0).toInt = (y10_2.toInt) + (0) := addC rfl (show (0 : Int32).toInt = 0 from rfl) (by omega) (by omega)
              refine lv_topi (fun x26 ex26 => ?_)
              have ix26 : x26.toInt = (y10_2.toInt) + (0) := by rw [ex26]; exact f25
              refine lv_istore_n (lv' := [(2, .int x26), (0, .ref (b 39)), (1, .int co), (3, .int y10_3)]) hx hb dX10_likeBeside_69 rfl hl (by decide) rfl (fun ls hl => ?_)
              obtain ⟨z27, ez27⟩ : ∃ y : Int32, y = y10_3 + 1 := ⟨_, rfl⟩
              have iz27 : z27.toInt = y10_3.toInt + 1 := by rw [ez27]; exact addC rfl rfl (by omega) (by omega)
              refine lv_iinc (v := z27) (lv' := [(3, .int z27), (2, .int x26), (0, .ref (b 39)), (1, .int co)]) hx hb dX10_likeBeside_70 hl (k := 3) rfl (by rw [ez27]; rfl) (by decide) rfl (fun ls hl => ?_)
              refine lv_goto (tgt := 10) hx hb dX10_likeBeside_73 (by decide) ?_
              exact ih10 x26 z27 _ (by omega) (by omega) (by omega) (by omega) (by omega) (by omega) (by omega) (by (first | exact lb_yes i10_7 (crd_yesR (by assumption) (by omega) (by omega) (by omega) (by omega) (by assumption) (by omega)) (by omega) (by omega) (by omega) (by omega) | exact lb_no i10_7 (by first | exact crd_eq (by assumption) | exact crd_t1 (by assumption) | exact crd_noR (by assumption) (by omega)) (by omega) (by omega) (by omega) (by omega) | exact lb_init (by omega) (by first | rfl | omega))) (by omega) (lv_sub hl [2, 3, 1, 0] rfl)
            · have dc24 : mtel.toInt ≤ r22.toInt := nltC rfl rfl c24
              refine lv_iconst (v := 1) hx hb dX10_likeBeside_63 (by decide) ?_
              refine lv_goto (tgt := 68) hx hb dX10_likeBeside_64 (by decide) ?_
              refine lv_iadd hx hb dX10_likeBeside_68 ?_
              have f28 : (y10_2 + 1).toInt = (y10_2.toInt) + (1) := addC rfl (show (1 : Int32).toInt = 1 from rfl) (by omega) (by omega)
              refine lv_topi (fun x29 ex29 => ?_)
              have ix29 : x29.toInt = (y10_2.toInt) + (1) := by rw [ex29]; exact f28
              refine lv_istore_n (lv' := [(2, .int x29), (0, .ref (b 39)), (1, .int co), (3, .int y10_3)]) hx hb dX10_likeBeside_69 rfl hl (by decide) rfl (fun ls hl => ?_)
              obtain ⟨z30, ez30⟩ : ∃ y : Int32, y = y10_3 + 1 := ⟨_, rfl⟩
              have iz30 : z30.toInt = y10_3.toInt + 1 := by rw [ez30]; exact addC rfl rfl (by omega) (by omega)
              refine lv_iinc (v := z30) (lv' := [(3, .int z30), (2, .int x29), (0, .ref (b 39)), (1, .int co)]) hx hb dX10_likeBeside_70 hl (k := 3) rfl (by rw [ez30]; rfl) (by decide) rfl (fun ls hl => ?_)
              refine lv_goto (tgt := 10) hx hb dX10_likeBeside_73 (by decide) ?_
              exact ih10 x29 z30 _ (by omega) (by omega) (by omega) (by omega) (by omega) (by omega) (by omega) (by (first | exact lb_yes i10_7 (crd_yesR (by assumption) (by omega) (by omega) (by omega) (by omega) (by assumption) (by omega)) (by omega) (by omega) (by omega) (by omega) | exact lb_no i10_7 (by first | exact crd_eq (by assumption) | exact crd_t1 (by assumption) | exact crd_noR (by assumption) (by omega)) (by omega) (by omega) (by omega) (by omega) | exact lb_init (by omega) (by first | rfl | omega))) (by omega) (lv_sub hl [2, 3, 1, 0] rfl)
  have kc31 : (0 : Int32).toInt = 0 := rfl
  exact L10 _ 0 x3 _ (by omega) (by omega) (by omega) (by omega) (by omega) (by omega) (by omega) (by (first | exact lb_init (by omega) (by first | rfl | omega) | exact lb_yes i10_7 (crd_yesR (by assumption) (by omega) (by omega) (by omega) (by omega) (by assumption) (by omega)) (by omega) (by omega) (by omega) (by omega) | exact lb_no i10_7 (by first | exact crd_eq (by assumption) | exact crd_t1 (by assumption) | exact crd_noR (by assumption) (by omega)) (by omega) (by omega) (by omega) (by omega))) (Nat.lt_succ_self _) (lv_sub hl [2, 3, 1, 0] rfl)
set_option maxHeartbeats 4000000 in
set_option maxRecDepth 100000 in
theorem k_X10_goDay2 (l : Launch) (dC : Nat → ClassId) (dI : Nat → Nat → Nat) (cI cZ cQ : ClassId) (b : Nat → Nat) (mday : Int32) (mdoo : Int32) (mdA : Nat → Int32) (mdB : Nat → Int32) (mfar : Nat → Int32) (mmar : Nat → Int32) (mtel : Int32) (mgai : Int32) (mfal : Nat → Int32) (mtop : Nat → Int32) (mstr : Nat → Int32) (mgho : Nat → Int32) (mfai : Nat → Int32) (mpto : Nat → Int32) (mwal : Nat → Int32) (mahd : Nat → Int32) (mahf : Nat → Int32) (mcho : Nat → Int32) (mbes : Nat → Int32) (mbyt : Int32) (mtxt : Nat → Int32) (mpos : Int32) (mtka : Int32) (mtok : Int64) (mdig : Int32) (mnum : Int32) (mfau : Int32) (mrdm : Int32) (mrea : Nat → Int32) (mlin : Int32) (mlne : Nat → Int32) (mthg : Nat → Int32) (mord : Nat → Int32) (mbor : Nat → Int32) (mbsm : Int32) (mans : Nat → Int32) (mand : Nat → Int32) (manr : Nat → Int32) (mali : Nat → Int32) (sz : Nat) (fr : Int32) (to : Int32) (r_mday : 0 ≤ mday.toInt ∧ mday.toInt ≤ 400) (r_mdoo : 0 ≤ mdoo.toInt ∧ mdoo.toInt ≤ 14) (r_mdA : rg 14 (0) (7) mdA) (r_mdB : rg 14 (0) (7) mdB) (r_mmar : rg 24 (0) (255) mmar) (r_mgai : 0 ≤ mgai.toInt ∧ mgai.toInt ≤ 100) (r_mfal : rg 11 (0) (30) mfal) (r_mtop : rg 48 (-1) (23) mtop) (r_mstr : rg 48 (0) (100) mstr) (r_mgho : rg 48 (-1) (23) mgho) (r_mfai : rg 48 (0) (100) mfai) (r_mahd : rg 240 (0) (100) mahd) (r_mahf : rg 240 (0) (100) mahf) (r_mcho : rg 5 (-1) (9) mcho) (r_mbyt : 0 ≤ mbyt.toInt ∧ mbyt.toInt ≤ 160) (r_mpos : 0 ≤ mpos.toInt ∧ mpos.toInt ≤ 160) (r_mrdm : 0 ≤ mrdm.toInt ∧ mrdm.toInt ≤ 10) (r_mlin : 0 ≤ mlin.toInt ∧ mlin.toInt ≤ 10) (r_mthg : rg 8 (0) (31) mthg) (r_mord : rg 8 (-1) (8) mord) (r_mans : rg 4 (0) (12) mans) (q0 : 0 ≤ fr.toInt) (q1 : fr.toInt ≤ 192) (q2 : 0 ≤ to.toInt) (q3 : to.toInt ≤ 192) (q4 : fr.toInt = to.toInt) : KV l yX10_goDay wsX10_goDay { frames := 2, cells := 0, slots := 0, locals := 48 } (dC, dI) (TY cI cZ cQ) (wMod cI cZ cQ b mday mdoo mdA mdB mfar mmar mtel mgai mfal mtop mstr mgho mfai mpto mwal mahd mahf mcho mbes mbyt mtxt mpos mtka mtok mdig mnum mfau mrdm mrea mlin mlne mthg mord mbor mbsm mans mand manr mali) [.ref (b 39), .int fr, .int to] sz 0 0 (fun (u : US) => (gdS mfal mmar mtop mtel to.toInt 48 mahd mahf (u.1 0) (u.1 1)) ∧ (rg 240 (0) (100) (u.1 0)) ∧ (rg 240 (0) (100) (u.1 1))) (fun u : US => (wMod cI cZ cQ b mday mdoo mdA mdB mfar mmar mtel mgai mfal mtop mstr mgho mfai mpto mwal (u.1 0) (u.1 1) mcho mbes mbyt mtxt mpos mtka mtok mdig mnum mfau mrdm mrea mlin mlne mthg mord mbor mbsm mans mand manr mali)) := by
  refine Met.ofW (cc := cX10_goDay) (maxL := 6) (ret := none) (by decide) rfl ?_
  intro p e s m args below meth c s₁ B hml hv
  obtain ⟨rfl, hsz, hP, hK, hD0, hN⟩ := hv
  have hx := B.exec
  have hb := B.bytes
  have hr := B.returns
  have hts := atoms_spec (ws := wsX10_goDay) B.pre
  have hown : s.vm.findClass RX10 = some m.cls := findClass_of_methodNamed B.named
  have hlocks := B.notSynchronized
  have lf50 := hts (.fieldLink RX10 50 "PalaceOfRoomsModel" "ahead" "[I") (List.mem_cons_of_mem _ (List.mem_append_left _ (List.mem_of_getElem? (i := 0) rfl)))
  have inX10 : ∀ w ∈ wsX100, w ∈ wsX10_goDay := fun w h => List.mem_cons_of_mem _ (List.mem_append_right _ h)
  have lf53 := hts (.fieldLink RX10 53 "PalaceOfRoomsModel" "aheadFaint" "[I") (List.mem_cons_of_mem _ (List.mem_append_left _ (List.mem_of_getElem? (i := 1) rfl)))
  have lf32 := hts (.fieldLink RX10 32 "PalaceOfRoomsModel" "top" "[I") (List.mem_cons_of_mem _ (List.mem_append_left _ (List.mem_of_getElem? (i := 2) rfl)))
  have lf29 := hts (.fieldLink RX10 29 "PalaceOfRoomsModel" "falls" "[I") (List.mem_cons_of_mem _ (List.mem_append_left _ (List.mem_of_getElem? (i := 3) rfl)))
  subst hsz
  have hD := hD0.self (sz := s.heap.size)
  generalize hAe : va_A (wMod cI cZ cQ b mday mdoo mdA mdB mfar mmar mtel mgai mfal mtop mstr mgho mfai mpto mwal mahd mahf mcho mbes mbyt mtxt mpos mtka mtok mdig mnum mfau mrdm mrea mlin mlne mthg mord mbor mbsm mans mand manr mali) s.heap.size = A at hD ⊢
  have hA : ∀ q : Nat, s.heap.size ≤ q → A q := fun q h => by rw [← hAe]; exact Or.inr h
  have hS : va_S A s.heap s.heap [] := va_S.rf
  have hl := lv_entry ([.ref (b 39), .int fr, .int to]) (n := 6) (Nat.le_of_ble_eq_true rfl)
  rw [lg_entry_eq]
  generalize (lg_sl ([.ref (b 39), .int fr, .int to]) ++ List.replicate (6 - (lg_sl ([.ref (b 39), .int fr, .int to])).length) Slot.unset).toArray = ls at hl ⊢
  have hl : lv_has ls 6 [(0, .ref (b 39)), (1, .int fr), (2, .int to)] := hl
  refine lv_iconst (v := 0) hx hb dX10_goDay_0 (by decide) ?_
  refine lv_istore_n (lv' := [(3, .int 0), (0, .ref (b 39)), (1, .int fr), (2, .int to)]) hx hb dX10_goDay_1 rfl hl (by decide) rfl (fun ls hl => ?_)
  have L2 : ∀ (nn : Nat) (y2_3 : Int32) (mahd_2 : Nat → Int32) (mahf_2 : Nat → Int32) (H : Heap) (locs : List Loc) (ls : Array Slot), (rg 240 (0) (100) mahd_2) → (rg 240 (0) (100) mahf_2) → (0 ≤ (y2_3.toInt)) → ((y2_3.toInt) ≤ 48) → (gdS mfal mmar mtop mtel to.toInt (y2_3.toInt) mahd mahf mahd_2 mahf_2) → (48 - (y2_3.toInt)).toNat < nn → va_P (dC, dI) vwCl (wMod cI cZ cQ b mday mdoo mdA mdB mfar mmar mtel mgai mfal mtop mstr mgho mfai mpto mwal mahd_2 mahf_2 mcho mbes mbyt mtxt mpos mtka mtok mdig mnum mfau mrdm mrea mlin mlne mthg mord mbor mbsm mans mand manr mali) H → va_D A (wMod cI cZ cQ b mday mdoo mdA mdB mfar mmar mtel mgai mfal mtop mstr mgho mfai mpto mwal mahd_2 mahf_2 mcho mbes mbyt mtxt mpos mtka mtok mdig mnum mfau mrdm mrea mlin mlne mthg mord mbor mbsm mans mand manr mali) → va_S A s.heap H locs → lv_has ls 6 [(0, .ref (b 39)), (1, .int fr), (2, .int to), (3, .int y2_3)] → W p l e (headSpec wsX10_goDay { frames := 2, cells := 0, slots := 0, locals := 48 }).room s m ([.ref (b 39), .int fr, .int to] : List Value).toArray below meth c H locs 0 0 (MQ below (va_Qv (fun (u : US) => (gdS mfal mmar mtop mtel to.toInt 48 mahd mahf (u.1 0) (u.1 1)) ∧ (rg 240 (0) (100) (u.1 0)) ∧ (rg 240 (0) (100) (u.1 1))) (Bw (dC, dI) A (fun u : US => (wMod cI cZ cQ b mday mdoo mdA mdB mfar mmar mtel mgai mfal mtop mstr mgho mfai mpto mwal (u.1 0) (u.1 1) mcho mbes mbyt mtxt mpos mtka mtok mdig mnum mfau mrdm mrea mlin mlne mthg mord mbor mbsm mans mand manr mali))) A) ([.ref (b 39), .int fr, .int to] : List Value).toArray s 0 0 A) (F0 m 2 ls []) := by
    intro nn
    induction nn with
    | zero =>
      intro y2_3 mahd_2 mahf_2 H locs ls r_mahd_2 r_mahf_2 i2_0 i2_1 i2_2 hm2
      exact absurd hm2 (Nat.not_lt_zero _)
    | succ nn ih2 =>
      intro y2_3 mahd_2 mahf_2 H locs ls r_mahd_2 r_mahf_2 i2_0 i2_1 i2_2 hm2 hP hD hS hl
      refine lv_iload_n hx hb dX10_goDay_2 rfl (lv_at hl 3 rfl) ?_
      refine lv_bipush (v := 48) hx hb dX10_goDay_3 (by decide) ?_
      refine lv_icmp_ge (tgt := 122) hx hb dX10_goDay_5 (by decide) (fun c1 => ?_) (fun c1 => ?_)
      · have dc1 : 48 ≤ y2_3.toInt := leC (show (48 : Int32).toInt = 48 from rfl) rfl c1
        exact W.vret hx hb hr (fun tq ht hW => ⟨⟨(uS [mahd_2, mahf_2] 0 (fun _ => 0)), rfl, ⟨(show gdS mfal mmar mtop mtel to.toInt 48 mahd mahf mahd_2 mahf_2 from by (have e48 : _ = (48 : Int) := Int.le_antisymm i2_1 (by assumption); rw [← e48]; exact i2_2)), r_mahd_2, r_mahf_2⟩, by rw [ht]; exact hP, hD⟩, hS.F ht⟩) hS.2.2 dX10_goDay_122
      · have dc1 : y2_3.toInt < 48 := nleC (show (48 : Int32).toInt = 48 from rfl) rfl c1
        refine lv_aload_n hx hb dX10_goDay_8 rfl (lv_at hl 0 rfl) ?_
        refine va_get (D := (dC, dI)) (ci := 10) (v := .ref (b 15)) (C := RX10) (T := TX10) (N := 39) hx hb hts inX10 hown hK hP 0 rfl rfl 15 (by decide) lf50 (fun _ h9 => h9) rfl dX10_goDay_9 ?_
        refine lv_iload_n hx hb dX10_goDay_12 rfl (lv_at hl 1 rfl) ?_
        refine lv_iload_n hx hb dX10_goDay_13 rfl (lv_at hl 3 rfl) ?_
        refine lv_iadd hx hb dX10_goDay_14 ?_
        have f2 : (fr + y2_3).toInt = (fr.toInt) + (y2_3.toInt) := addC rfl rfl (by omega) (by omega)
        have b3 : vp_in (fr + y2_3) 240 := inC f2 (by omega) (by omega)
        refine va_iald hx hb hK hP 12 0 rfl rfl b3 dX10_goDay_15 ?_
        have g4 : 0 ≤ (mahd_2 (fr + y2_3).toNatClampNeg).toInt ∧ (mahd_2 (fr + y2_3).toNatClampNeg).toInt ≤ 100 := rg_at r_mahd_2 b3
        refine lv_topi (fun x5 ex5 => ?_)
        have ix5 : x5.toInt = (mahd_2 (fr + y2_3).toNatClampNeg).toInt := by rw [ex5]
        refine lv_istore (lv' := [(4, .int x5), (0, .ref (b 39)), (1, .int fr), (2, .int to), (3, .int y2_3)]) hx hb dX10_goDay_16 hl (by decide) rfl (fun ls hl => ?_)
        refine lv_aload_n hx hb dX10_goDay_18 rfl (lv_at hl 1 rfl) ?_
        refine va_get (D := (dC, dI)) (ci := 10) (v := .ref (b 16)) (C := RX10) (T := TX10) (N := 39) hx hb hts inX10 hown hK hP 0 rfl rfl 16 (by decide) lf53 (fun _ h9 => h9) rfl dX10_goDay_19 ?_
        refine lv_iload_n hx hb dX10_goDay_22 rfl (lv_at hl 2 rfl) ?_
        refine lv_iload_n hx hb dX10_goDay_23 rfl (lv_at hl 4 rfl) ?_
        refine lv_iadd hx hb dX10_goDay_24 ?_
        have f6 : (fr + y2_3).toInt = (fr.toInt) + (y2_3.toInt) := addC rfl rfl (by omega) (by omega)
        have b7 : vp_in (fr + y2_3) 240 := inC f6 (by omega) (by omega)
        refine va_iald hx hb hK hP 13 0 rfl rfl b7 dX10_goDay_25 ?_
        have g8 : 0 ≤ (mahf_2 (fr + y2_3).toNatClampNeg).toInt ∧ (mahf_2 (fr + y2_3).toNatClampNeg).toInt ≤ 100 := rg_at r_mahf_2 b7
        refine lv_topi (fun x9 ex9 => ?_)
        have ix9 : x9.toInt = (mahf_2 (fr + y2_3).toNatClampNeg).toInt := by rw [ex9]
        refine lv_istore (lv' := [(5, .int x9), (4, .int x5), (0, .ref (b 39)), (1, .int fr), (2, .int to), (3, .int y2_3)]) hx hb dX10_goDay_26 hl (by decide) rfl (fun ls hl => ?_)
        refine lv_aload_n hx hb dX10_goDay_28 rfl (lv_at hl 2 rfl) ?_
        refine va_get (D := (dC, dI)) (ci := 10) (v := .ref (b 9)) (C := RX10) (T := TX10) (N := 39) hx hb hts inX10 hown hK hP 0 rfl rfl 9 (by decide) lf32 (fun _ h9 => h9) rfl dX10_goDay_29 ?_
        refine lv_iload_n hx hb dX10_goDay_32 rfl (lv_at hl 5 rfl) ?_
        have b10 : vp_in y2_3 48 := inC rfl (by omega) (by omega)
        refine va_iald hx hb hK hP 6 0 rfl rfl b10 dX10_goDay_33 ?_
        have g11 : -1 ≤ (mtop y2_3.toNatClampNeg).toInt ∧ (mtop y2_3.toNatClampNeg).toInt ≤ 23 := rg_at r_mtop b10
        refine lv_iconst (v := (-1)) hx hb dX10_goDay_34 (by decide) ?_
        refine lv_icmp_ne (tgt := 42) hx hb dX10_goDay_35 (by decide) (fun c12 => ?_) (fun c12 => ?_)
        · have dc12 : 0 ≤ (mtop y2_3.toNatClampNeg).toInt := ka_lo (by omega) (neC rfl (show ((-1) : Int32).toInt = (-1) from rfl) c12)
          refine lv_iload hx hb dX10_goDay_42 (lv_at hl 1 rfl) ?_
          refine lv_aload_n hx hb dX10_goDay_44 rfl (lv_at hl 2 rfl) ?_
          refine va_get (D := (dC, dI)) (ci := 10) (v := .ref (b 8)) (C := RX10) (T := TX10) (N := 39) hx hb hts inX10 hown hK hP 0 rfl rfl 8 (by decide) lf29 (fun _ h9 => h9) rfl dX10_goDay_45 ?_
          refine lv_iload hx hb dX10_goDay_48 (lv_at hl 1 rfl) ?_
          refine lv_bipush (v := 10) hx hb dX10_goDay_50 (by decide) ?_
          refine lv_idiv hx hb dX10_goDay_52 (by decide) ?_
          have f13 : (x5 / 10).toInt = (x5.toInt) / (10) := divC rfl (show (10 : Int32).toInt = 10 from rfl) (by omega) (by omega)
          have b14 : vp_in (x5 / 10) 11 := inC f13 (by omega) (by omega)
          refine va_iald hx hb hK hP 5 0 rfl rfl b14 dX10_goDay_53 ?_
          have g15 : 0 ≤ (mfal (x5 / 10).toNatClampNeg).toInt ∧ (mfal (x5 / 10).toNatClampNeg).toInt ≤ 30 := rg_at r_mfal b14
          refine lv_isub hx hb dX10_goDay_54 ?_
          have f16 : (x5 - (mfal (x5 / 10).toNatClampNeg)).toInt = (x5.toInt) - ((mfal (x5 / 10).toNatClampNeg).toInt) := subC rfl rfl (by omega) (by omega)
          refine lv_aload_n hx hb dX10_goDay_55 rfl (lv_at hl 2 rfl) ?_
          refine lv_iload_n hx hb dX10_goDay_56 rfl (lv_at hl 5 rfl) ?_
          refine rdV (As := [.int y2_3]) (rest := [.int (x5 - (mfal (x5 / 10).toNatClampNeg))]) ⟨hx, hb, hml, hown, hts⟩ (k_X10_likeBeside2 l dC dI cI cZ cQ b mday mdoo mdA mdB mfar mmar mtel mgai mfal mtop mstr mgho mfai mpto mwal mahd_2 mahf_2 mcho mbes mbyt mtxt mpos mtka mtok mdig mnum mfau mrdm mrea mlin mlne mthg mord mbor mbsm mans mand manr mali y2_3 r_mday r_mdoo r_mdA r_mdB r_mmar r_mgai r_mfal r_mtop r_mstr r_mgho r_mfai r_mahd_2 r_mahf_2 r_mcho r_mbyt r_mpos r_mrdm r_mlin r_mthg r_mord r_mans (by omega) (by omega) (by omega)) (cwV 1 hts gX10_goDay_X10_likeBeside rfl rfl rfl (by decide +kernel) ⟨Nat.le_of_ble_eq_true rfl, Nat.le_of_ble_eq_true rfl⟩) hP hK hN [0, 1, 2, 3, 4, 5, 6, 7, 8, 9, 10, 11, 12, 13, 14, 15, 16, 17, 18, 19, 20, 21, 22, 23, 24, 25] rfl 0 10 rfl rfl rfl hl.1 rfl (Nat.le_of_ble_eq_true rfl) dX10_goDay_57 ⟨Nat.le_of_ble_eq_true rfl, Nat.le_of_ble_eq_true rfl⟩ (fun r17 h18 => ?_)
          have h18 : (0 ≤ r17.toInt) ∧ (r17.toInt ≤ 6) ∧ (r17.toInt = cwF mmar mtop mtel y2_3.toNatClampNeg (y2_3.toNatClampNeg - y2_3.toNatClampNeg % 6) 6) := h18
          obtain ⟨h18_0, h18_1, h18_2⟩ := h18
          refine lv_isub hx hb dX10_goDay_60 ?_
          have f19 : ((x5 - (mfal (x5 / 10).toNatClampNeg)) - r17).toInt = ((x5.toInt) - ((mfal (x5 / 10).toNatClampNeg).toInt)) - (r17.toInt) := subC f16 rfl (by omega) (by omega)
          refine lv_topi (fun x20 ex20 => ?_)
          have ix20 : x20.toInt = ((x5.toInt) - ((mfal (x5 / 10).toNatClampNeg).toInt)) - (r17.toInt) := by rw [ex20]; exact f19
          refine lv_istore (lv' := [(4, .int x20), (5, .int x9), (0, .ref (b 39)), (1, .int fr), (2, .int to), (3, .int y2_3)]) hx hb dX10_goDay_61 hl (by decide) rfl (fun ls hl => ?_)
          refine lv_iload hx hb dX10_goDay_63 (lv_at hl 1 rfl) ?_
          refine lv_aload_n hx hb dX10_goDay_65 rfl (lv_at hl 2 rfl) ?_
          refine va_get (D := (dC, dI)) (ci := 10) (v := .ref (b 8)) (C := RX10) (T := TX10) (N := 39) hx hb hts inX10 hown hK hP 0 rfl rfl 8 (by decide) lf29 (fun _ h9 => h9) rfl dX10_goDay_66 ?_
          refine lv_iload hx hb dX10_goDay_69 (lv_at hl 1 rfl) ?_
          refine lv_bipush (v := 10) hx hb dX10_goDay_71 (by decide) ?_
          refine lv_idiv hx hb dX10_goDay_73 (by decide) ?_
          have f21 : (x9 / 10).toInt = (x9.toInt) / (10) := divC rfl (show (10 : Int32).toInt = 10 from rfl) (by omega) (by omega)
          have b22 : vp_in (x9 / 10) 11 := inC f21 (by omega) (by omega)
          refine va_iald hx hb hK hP 5 0 rfl rfl b22 dX10_goDay_74 ?_
          have g23 : 0 ≤ (mfal (x9 / 10).toNatClampNeg).toInt ∧ (mfal (x9 / 10).toNatClampNeg).toInt ≤ 30 := rg_at r_mfal b22
          refine lv_isub hx hb dX10_goDay_75 ?_
          have f24 : (x9 - (mfal (x9 / 10).toNatClampNeg)).toInt = (x9.toInt) - ((mfal (x9 / 10).toNatClampNeg).toInt) := subC rfl rfl (by omega) (by omega)
          refine lv_topi (fun x25 ex25 => ?_)
          have ix25 : x25.toInt = (x9.toInt) - ((mfal (x9 / 10).toNatClampNeg).toInt) := by rw [ex25]; exact f24
          refine lv_istore (lv' := [(5, .int x25), (4, .int x20), (0, .ref (b 39)), (1, .int fr), (2, .int to), (3, .int y2_3)]) hx hb dX10_goDay_76 hl (by decide) rfl (fun ls hl => ?_)
          refine lv_aload_n hx hb dX10_goDay_78 rfl (lv_at hl 2 rfl) ?_
          refine va_get (D := (dC, dI)) (ci := 10) (v := .ref (b 15)) (C := RX10) (T := TX10) (N := 39) hx hb hts inX10 hown hK hP 0 rfl rfl 15 (by decide) lf50 (fun _ h9 => h9) rfl dX10_goDay_79 ?_
          refine lv_iload_n hx hb dX10_goDay_82 rfl (lv_at hl 4 rfl) ?_
          refine lv_iload_n hx hb dX10_goDay_83 rfl (lv_at hl 5 rfl) ?_
          refine lv_iadd hx hb dX10_goDay_84 ?_
          have f26 : (to + y2_3).toInt = (to.toInt) + (y2_3.toInt) := addC rfl rfl (by omega) (by omega)
          refine lv_iload hx hb dX10_goDay_85 (lv_at hl 1 rfl) ?_
          refine lv_if_ge (tgt := 94) hx hb dX10_goDay_87 (by decide) (fun c27 => ?_) (fun c27 => ?_)
          · have dc27 : 0 ≤ x20.toInt := leC (show (0 : Int32).toInt = 0 from rfl) rfl c27
            refine lv_iload hx hb dX10_goDay_94 (lv_at hl 1 rfl) ?_
            have b28 : vp_in (to + y2_3) 240 := inC f26 (by omega) (by omega)
            have g29 : rg 240 (0) (100) (upd mahd_2 (to + y2_3).toNatClampNeg x20) := rg_upd r_mahd_2 rfl (by omega) (by omega)
            refine va_iast hx hb hK hP hD hS 12 0 rfl rfl b28 dX10_goDay_96 (fun H locs hP hD hS => ?_)
            obtain ⟨mahd_u30, emahd_u30⟩ : ∃ f : Nat → Int32, f = upd mahd_2 (to + y2_3).toNatClampNeg x20 := ⟨_, rfl⟩
            have rmahd_u30 : rg 240 (0) (100) mahd_u30 := by rw [emahd_u30]; exact g29
            have hP : va_P (dC, dI) vwCl (wMod cI cZ cQ b mday mdoo mdA mdB mfar mmar mtel mgai mfal mtop mstr mgho mfai mpto mwal mahd_u30 mahf_2 mcho mbes mbyt mtxt mpos mtka mtok mdig mnum mfau mrdm mrea mlin mlne mthg mord mbor mbsm mans mand manr mali) H := by rw [emahd_u30]; exact hP
            have hD : va_D A (wMod cI cZ cQ b mday mdoo mdA mdB mfar mmar mtel mgai mfal mtop mstr mgho mfai mpto mwal mahd_u30 mahf_2 mcho mbes mbyt mtxt mpos mtka mtok mdig mnum mfau mrdm mrea mlin mlne mthg mord mbor mbsm mans mand manr mali) := by rw [emahd_u30]; exact hD
            refine lv_aload_n hx hb dX10_goDay_97 rfl (lv_at hl 2 rfl) ?_
            refine va_get (D := (dC, dI)) (ci := 10) (v := .ref (b 16)) (C := RX10) (T := TX10) (N := 39) hx hb hts inX10 hown hK hP 0 rfl rfl 16 (by decide) lf53 (fun _ h9 => h9) rfl dX10_goDay_98 ?_
            refine lv_iload_n hx hb dX10_goDay_101 rfl (lv_at hl 4 rfl) ?_
            refine lv_iload_n hx hb dX10_goDay_102 rfl (lv_at hl 5 rfl) ?_
            refine lv_iadd hx hb dX10_goDay_103 ?_
            have f31 : (to + y2_3).toInt = (to.toInt) + (y2_3.toInt) := addC rfl rfl (by omega) (by omega)
            refine lv_iload hx hb dX10_goDay_104 (lv_at hl 0 rfl) ?_
            refine lv_if_ge (tgt := 113) hx hb dX10_goDay_106 (by decide) (fun c32 => ?_) (fun c32 => ?_)
            · have dc32 : 0 ≤ x25.toInt := leC (show (0 : Int32).toInt = 0 from rfl) rfl c32
              refine lv_iload hx hb dX10_goDay_113 (lv_at hl 0 rfl) ?_
              have b33 : vp_in (to + y2_3) 240 := inC f31 (by omega) (by omega)
              have g34 : rg 240 (0) (100) (upd mahf_2 (to + y2_3).toNatClampNeg x25) := rg_upd r_mahf_2 rfl (by omega) (by omega)
              refine va_iast hx hb hK hP hD hS 13 0 rfl rfl b33 dX10_goDay_115 (fun H locs hP hD hS => ?_)
              obtain ⟨mahf_u35, emahf_u35⟩ : ∃ f : Nat → Int32, f = upd mahf_2 (to + y2_3).toNatClampNeg x25 := ⟨_, rfl⟩
              have rmahf_u35 : rg 240 (0) (100) mahf_u35 := by rw [emahf_u35]; exact g34
              have hP : va_P (dC, dI) vwCl (wMod cI cZ cQ b mday mdoo mdA mdB mfar mmar mtel mgai mfal mtop mstr mgho mfai mpto mwal mahd_u30 mahf_u35 mcho mbes mbyt mtxt mpos mtka mtok mdig mnum mfau mrdm mrea mlin mlne mthg mord mbor mbsm mans mand manr mali) H := by rw [emahf_u35]; exact hP
              have hD : va_D A (wMod cI cZ cQ b mday mdoo mdA mdB mfar mmar mtel mgai mfal mtop mstr mgho mfai mpto mwal mahd_u30 mahf_u35 mcho mbes mbyt mtxt mpos mtka mtok mdig mnum mfau mrdm mrea mlin mlne mthg mord mbor mbsm mans mand manr mali) := by rw [emahf_u35]; exact hD
              obtain ⟨z36, ez36⟩ : ∃ y : Int32, y = y2_3 + 1 := ⟨_, rfl⟩
              have iz36 : z36.toInt = y2_3.toInt + 1 := by rw [ez36]; exact addC rfl rfl (by omega) (by omega)
              refine lv_iinc (v := z36) (lv' := [(3, .int z36), (5, .int x25), (4, .int x20), (0, .ref (b 39)), (1, .int fr), (2, .int to)]) hx hb dX10_goDay_116 hl (k := 5) rfl (by rw [ez36]; rfl) (by decide) rfl (fun ls hl => ?_)
              refine lv_goto (tgt := 2) hx hb dX10_goDay_119 (by decide) ?_
              exact ih2 z36 mahd_u30 mahf_u35 _ _ _ rmahd_u30 rmahf_u35 (by omega) (by omega) (by (first | exact gd_step (xr := fr + y2_3) (xw := to + y2_3) i2_2 (by assumption) (by assumption) (by omega) (by omega) (by omega) (by omega) (by assumption) (by omega) (by first | exact gv_none (by omega) (by first | rfl | omega | (rw [Int32.toInt_zero]; omega)) | exact gv_top (by assumption) (by assumption) (by assumption) (by assumption) (by first | rfl | omega | (rw [Int32.toInt_zero]; omega))) (fl_of (m := 0) (by assumption) (by assumption) rfl (by first | rfl | omega | (rw [Int32.toInt_zero]; omega))) (by omega) | exact gd_init (by first | rfl | omega))) (by omega) hP hD hS (lv_sub hl [3, 4, 5, 0] rfl)
            · have dc32 : x25.toInt < 0 := nleC (show (0 : Int32).toInt = 0 from rfl) rfl c32
              refine lv_iconst (v := 0) hx hb dX10_goDay_109 (by decide) ?_
              refine lv_goto (tgt := 115) hx hb dX10_goDay_110 (by decide) ?_
              have b37 : vp_in (to + y2_3) 240 := inC f31 (by omega) (by omega)
              have g38 : rg 240 (0) (100) (upd mahf_2 (to + y2_3).toNatClampNeg 0) := rg_upd r_mahf_2 (show (0 : Int32).toInt = 0 from rfl) (by omega) (by omega)
              refine va_iast hx hb hK hP hD hS 13 0 rfl rfl b37 dX10_goDay_115 (fun H locs hP hD hS => ?_)
              obtain ⟨mahf_u39, emahf_u39⟩ : ∃ f : Nat → Int32, f = upd mahf_2 (to + y2_3).toNatClampNeg 0 := ⟨_, rfl⟩
              have rmahf_u39 : rg 240 (0) (100) mahf_u39 := by rw [emahf_u39]; exact g38
              have hP : va_P (dC, dI) vwCl (wMod cI cZ cQ b mday mdoo mdA mdB mfar mmar mtel mgai mfal mtop mstr mgho mfai mpto mwal mahd_u30 mahf_u39 mcho mbes mbyt mtxt mpos mtka mtok mdig mnum mfau mrdm mrea mlin mlne mthg mord mbor mbsm mans mand manr mali) H := by rw [emahf_u39]; exact hP
              have hD : va_D A (wMod cI cZ cQ b mday mdoo mdA mdB mfar mmar mtel mgai mfal mtop mstr mgho mfai mpto mwal mahd_u30 mahf_u39 mcho mbes mbyt mtxt mpos mtka mtok mdig mnum mfau mrdm mrea mlin mlne mthg mord mbor mbsm mans mand manr mali) := by rw [emahf_u39]; exact hD
              obtain ⟨z40, ez40⟩ : ∃ y : Int32, y = y2_3 + 1 := ⟨_, rfl⟩
              have iz40 : z40.toInt = y2_3.toInt + 1 := by rw [ez40]; exact addC rfl rfl (by omega) (by omega)
              refine lv_iinc (v := z40) (lv' := [(3, .int z40), (5, .int x25), (4, .int x20), (0, .ref (b 39)), (1, .int fr), (2, .int to)]) hx hb dX10_goDay_116 hl (k := 5) rfl (by rw [ez40]; rfl) (by decide) rfl (fun ls hl => ?_)
              refine lv_goto (tgt := 2) hx hb dX10_goDay_119 (by decide) ?_
              exact ih2 z40 mahd_u30 mahf_u39 _ _ _ rmahd_u30 rmahf_u39 (by omega) (by omega) (by (first | exact gd_step (xr := fr + y2_3) (xw := to + y2_3) i2_2 (by assumption) (by assumption) (by omega) (by omega) (by omega) (by omega) (by assumption) (by omega) (by first | exact gv_none (by omega) (by first | rfl | omega | (rw [Int32.toInt_zero]; omega)) | exact gv_top (by assumption) (by assumption) (by assumption) (by assumption) (by first | rfl | omega | (rw [Int32.toInt_zero]; omega))) (fl_of (m := 0) (by assumption) (by assumption) rfl (by first | rfl | omega | (rw [Int32.toInt_zero]; omega))) (by omega) | exact gd_init (by first | rfl | omega))) (by omega) hP hD hS (lv_sub hl [3, 4, 5, 0] rfl)
          · have dc27 : x20.toInt < 0 := nleC (show (0 : Int32).toInt = 0 from rfl) rfl c27
            refine lv_iconst (v := 0) hx hb dX10_goDay_90 (by decide) ?_
            refine lv_goto (tgt := 96) hx hb dX10_goDay_91 (by decide) ?_
            have b41 : vp_in (to + y2_3) 240 := inC f26 (by omega) (by omega)
            have g42 : rg 240 (0) (100) (upd mahd_2 (to + y2_3).toNatClampNeg 0) := rg_upd r_mahd_2 (show (0 : Int32).toInt = 0 from rfl) (by omega) (by omega)
            refine va_iast hx hb hK hP hD hS 12 0 rfl rfl b41 dX10_goDay_96 (fun H locs hP hD hS => ?_)
            obtain ⟨mahd_u43, emahd_u43⟩ : ∃ f : Nat → Int32, f = upd mahd_2 (to + y2_3).toNatClampNeg 0 := ⟨_, rfl⟩
            have rmahd_u43 : rg 240 (0) (100) mahd_u43 := by rw [emahd_u43]; exact g42
            have hP : va_P (dC, dI) vwCl (wMod cI cZ cQ b mday mdoo mdA mdB mfar mmar mtel mgai mfal mtop mstr mgho mfai mpto mwal mahd_u43 mahf_2 mcho mbes mbyt mtxt mpos mtka mtok mdig mnum mfau mrdm mrea mlin mlne mthg mord mbor mbsm mans mand manr mali) H := by rw [emahd_u43]; exact hP
            have hD : va_D A (wMod cI cZ cQ b mday mdoo mdA mdB mfar mmar mtel mgai mfal mtop mstr mgho mfai mpto mwal mahd_u43 mahf_2 mcho mbes mbyt mtxt mpos mtka mtok mdig mnum mfau mrdm mrea mlin mlne mthg mord mbor mbsm mans mand manr mali) := by rw [emahd_u43]; exact hD
            refine lv_aload_n hx hb dX10_goDay_97 rfl (lv_at hl 2 rfl) ?_
            refine va_get (D := (dC, dI)) (ci := 10) (v := .ref (b 16)) (C := RX10) (T := TX10) (N := 39) hx hb hts inX10 hown hK hP 0 rfl rfl 16 (by decide) lf53 (fun _ h9 => h9) rfl dX10_goDay_98 ?_
            refine lv_iload_n hx hb dX10_goDay_101 rfl (lv_at hl 4 rfl) ?_
            refine lv_iload_n hx hb dX10_goDay_102 rfl (lv_at hl 5 rfl) ?_
            refine lv_iadd hx hb dX10_goDay_103 ?_
            have f44 : (to + y2_3).toInt = (to.toInt) + (y2_3.toInt) := addC rfl rfl (by omega) (by omega)
            refine lv_iload hx hb dX10_goDay_104 (lv_at hl 0 rfl) ?_
            refine lv_if_ge (tgt := 113) hx hb dX10_goDay_106 (by decide) (fun c45 => ?_) (fun c45 => ?_)
            · have dc45 : 0 ≤ x25.toInt := leC (show (0 : Int32).toInt = 0 from rfl) rfl c45
              refine lv_iload hx hb dX10_goDay_113 (lv_at hl 0 rfl) ?_
              have b46 : vp_in (to + y2_3) 240 := inC f44 (by omega) (by omega)
              have g47 : rg 240 (0) (100) (upd mahf_2 (to + y2_3).toNatClampNeg x25) := rg_upd r_mahf_2 rfl (by omega) (by omega)
              refine va_iast hx hb hK hP hD hS 13 0 rfl rfl b46 dX10_goDay_115 (fun H locs hP hD hS => ?_)
              obtain ⟨mahf_u48, emahf_u48⟩ : ∃ f : Nat → Int32, f = upd mahf_2 (to + y2_3).toNatClampNeg x25 := ⟨_, rfl⟩
              have rmahf_u48 : rg 240 (0) (100) mahf_u48 := by rw [emahf_u48]; exact g47
              have hP : va_P (dC, dI) vwCl (wMod cI cZ cQ b mday mdoo mdA mdB mfar mmar mtel mgai mfal mtop mstr mgho mfai mpto mwal mahd_u43 mahf_u48 mcho mbes mbyt mtxt mpos mtka mtok mdig mnum mfau mrdm mrea mlin mlne mthg mord mbor mbsm mans mand manr mali) H := by rw [emahf_u48]; exact hP
              have hD : va_D A (wMod cI cZ cQ b mday mdoo mdA mdB mfar mmar mtel mgai mfal mtop mstr mgho mfai mpto mwal mahd_u43 mahf_u48 mcho mbes mbyt mtxt mpos mtka mtok mdig mnum mfau mrdm mrea mlin mlne mthg mord mbor mbsm mans mand manr mali) := by rw [emahf_u48]; exact hD
              obtain ⟨z49, ez49⟩ : ∃ y : Int32, y = y2_3 + 1 := ⟨_, rfl⟩
              have iz49 : z49.toInt = y2_3.toInt + 1 := by rw [ez49]; exact addC rfl rfl (by omega) (by omega)
              refine lv_iinc (v := z49) (lv' := [(3, .int z49), (5, .int x25), (4, .int x20), (0, .ref (b 39)), (1, .int fr), (2, .int to)]) hx hb dX10_goDay_116 hl (k := 5) rfl (by rw [ez49]; rfl) (by decide) rfl (fun ls hl => ?_)
              refine lv_goto (tgt := 2) hx hb dX10_goDay_119 (by decide) ?_
              exact ih2 z49 mahd_u43 mahf_u48 _ _ _ rmahd_u43 rmahf_u48 (by omega) (by omega) (by (first | exact gd_step (xr := fr + y2_3) (xw := to + y2_3) i2_2 (by assumption) (by assumption) (by omega) (by omega) (by omega) (by omega) (by assumption) (by omega) (by first | exact gv_none (by omega) (by first | rfl | omega | (rw [Int32.toInt_zero]; omega)) | exact gv_top (by assumption) (by assumption) (by assumption) (by assumption) (by first | rfl | omega | (rw [Int32.toInt_zero]; omega))) (fl_of (m := 0) (by assumption) (by assumption) rfl (by first | rfl | omega | (rw [Int32.toInt_zero]; omega))) (by omega) | exact gd_init (by first | rfl | omega))) (by omega) hP hD hS (lv_sub hl [3, 4, 5, 0] rfl)
            · have dc45 : x25.toInt < 0 := nleC (show (0 : Int32).toInt = 0 from rfl) rfl c45
              refine lv_iconst (v := 0) hx hb dX10_goDay_109 (by decide) ?_
              refine lv_goto (tgt := 115) hx hb dX10_goDay_110 (by decide) ?_
              have b50 : vp_in (to + y2_3) 240 := inC f44 (by omega) (by omega)
              have g51 : rg 240 (0) (100) (upd mahf_2 (to + y2_3).toNatClampNeg 0) := rg_upd r_mahf_2 (show (0 : Int32).toInt = 0 from rfl) (by omega) (by omega)
              refine va_iast hx hb hK hP hD hS 13 0 rfl rfl b50 dX10_goDay_115 (fun H locs hP hD hS => ?_)
              obtain ⟨mahf_u52, emahf_u52⟩ : ∃ f : Nat → Int32, f = upd mahf_2 (to + y2_3).toNatClampNeg 0 := ⟨_, rfl⟩
              have rmahf_u52 : rg 240 (0) (100) mahf_u52 := by rw [emahf_u52]; exact g51
              have hP : va_P (dC, dI) vwCl (wMod cI cZ cQ b mday mdoo mdA mdB mfar mmar mtel mgai mfal mtop mstr mgho mfai mpto mwal mahd_u43 mahf_u52 mcho mbes mbyt mtxt mpos mtka mtok mdig mnum mfau mrdm mrea mlin mlne mthg mord mbor mbsm mans mand manr mali) H := by rw [emahf_u52]; exact hP
              have hD : va_D A (wMod cI cZ cQ b mday mdoo mdA mdB mfar mmar mtel mgai mfal mtop mstr mgho mfai mpto mwal mahd_u43 mahf_u52 mcho mbes mbyt mtxt mpos mtka mtok mdig mnum mfau mrdm mrea mlin mlne mthg mord mbor mbsm mans mand manr mali) := by rw [emahf_u52]; exact hD
              obtain ⟨z53, ez53⟩ : ∃ y : Int32, y = y2_3 + 1 := ⟨_, rfl⟩
              have iz53 : z53.toInt = y2_3.toInt + 1 := by rw [ez53]; exact addC rfl rfl (by omega) (by omega)
              refine lv_iinc (v := z53) (lv' := [(3, .int z53), (5, .int x25), (4, .int x20), (0, .ref (b 39)), (1, .int fr), (2, .int to)]) hx hb dX10_goDay_116 hl (k := 5) rfl (by rw [ez53]; rfl) (by decide) rfl (fun ls hl => ?_)
              refine lv_goto (tgt := 2) hx hb dX10_goDay_119 (by decide) ?_
              exact ih2 z53 mahd_u43 mahf_u52 _ _ _ rmahd_u43 rmahf_u52 (by omega) (by omega) (by (first | exact gd_step (xr := fr + y2_3) (xw := to + y2_3) i2_2 (by assumption) (by assumption) (by omega) (by omega) (by omega) (by omega) (by assumption) (by omega) (by first | exact gv_none (by omega) (by first | rfl | omega | (rw [Int32.toInt_zero]; omega)) | exact gv_top (by assumption) (by assumption) (by assumption) (by assumption) (by first | rfl | omega | (rw [Int32.toInt_zero]; omega))) (fl_of (m := 0) (by assumption) (by assumption) rfl (by first | rfl | omega | (rw [Int32.toInt_zero]; omega))) (by omega) | exact gd_init (by first | rfl | omega))) (by omega) hP hD hS (lv_sub hl [3, 4, 5, 0] rfl)
        · have dc12 : (mtop y2_3.toNatClampNeg).toInt = (-1) := eqC rfl (show ((-1) : Int32).toInt = (-1) from rfl) c12
          refine lv_iconst (v := 0) hx hb dX10_goDay_38 (by decide) ?_
          refine lv_goto (tgt := 61) hx hb dX10_goDay_39 (by decide) ?_
          refine lv_istore (lv' := [(4, .int 0), (5, .int x9), (0, .ref (b 39)), (1, .int fr), (2, .int to), (3, .int y2_3)]) hx hb dX10_goDay_61 hl (by decide) rfl (fun ls hl => ?_)
          refine lv_iload hx hb dX10_goDay_63 (lv_at hl 1 rfl) ?_
          refine lv_aload_n hx hb dX10_goDay_65 rfl (lv_at hl 2 rfl) ?_
          refine va_get (D := (dC, dI)) (ci := 10) (v := .ref (b 8)) (C := RX10) (T := TX10) (N := 39) hx hb hts inX10 hown hK hP 0 rfl rfl 8 (by decide) lf29 (fun _ h9 => h9) rfl dX10_goDay_66 ?_
          refine lv_iload hx hb dX10_goDay_69 (lv_at hl 1 rfl) ?_
          refine lv_bipush (v := 10) hx hb dX10_goDay_71 (by decide) ?_
          refine lv_idiv hx hb dX10_goDay_73 (by decide) ?_
          have f54 : (x9 / 10).toInt = (x9.toInt) / (10) := divC rfl (show (10 : Int32).toInt = 10 from rfl) (by omega) (by omega)
          have b55 : vp_in (x9 / 10) 11 := inC f54 (by omega) (by omega)
          refine va_iald hx hb hK hP 5 0 rfl rfl b55 dX10_goDay_74 ?_
          have g56 : 0 ≤ (mfal (x9 / 10).toNatClampNeg).toInt ∧ (mfal (x9 / 10).toNatClampNeg).toInt ≤ 30 := rg_at r_mfal b55
          refine lv_isub hx hb dX10_goDay_75 ?_
          have f57 : (x9 - (mfal (x9 / 10).toNatClampNeg)).toInt = (x9.toInt) - ((mfal (x9 / 10).toNatClampNeg).toInt) := subC rfl rfl (by omega) (by omega)
          refine lv_topi (fun x58 ex58 => ?_)
          have ix58 : x58.toInt = (x9.toInt) - ((mfal (x9 / 10).toNatClampNeg).toInt) := by rw [ex58]; exact f57
          refine lv_istore (lv' := [(5, .int x58), (4, .int 0), (0, .ref (b 39)), (1, .int fr), (2, .int to), (3, .int y2_3)]) hx hb dX10_goDay_76 hl (by decide) rfl (fun ls hl => ?_)
          refine lv_aload_n hx hb dX10_goDay_78 rfl (lv_at hl 2 rfl) ?_
          refine va_get (D := (dC, dI)) (ci := 10) (v := .ref (b 15)) (C := RX10) (T := TX10) (N := 39) hx hb hts inX10 hown hK hP 0 rfl rfl 15 (by decide) lf50 (fun _ h9 => h9) rfl dX10_goDay_79 ?_
          refine lv_iload_n hx hb dX10_goDay_82 rfl (lv_at hl 4 rfl) ?_
          refine lv_iload_n hx hb dX10_goDay_83 rfl (lv_at hl 5 rfl) ?_
          refine lv_iadd hx hb dX10_goDay_84 ?_
          have f59 : (to + y2_3).toInt = (to.toInt) + (y2_3.toInt) := addC rfl rfl (by omega) (by omega)
          refine lv_iload hx hb dX10_goDay_85 (lv_at hl 1 rfl) ?_
          refine lv_if_ge (tgt := 94) hx hb dX10_goDay_87 (by decide) (fun _ => ?_) (fun c9 => absurd (by decide) c9)
          refine lv_iload hx hb dX10_goDay_94 (lv_at hl 1 rfl) ?_
          have b60 : vp_in (to + y2_3) 240 := inC f59 (by omega) (by omega)
          have g61 : rg 240 (0) (100) (upd mahd_2 (to + y2_3).toNatClampNeg 0) := rg_upd r_mahd_2 (show (0 : Int32).toInt = 0 from rfl) (by omega) (by omega)
          refine va_iast hx hb hK hP hD hS 12 0 rfl rfl b60 dX10_goDay_96 (fun H locs hP hD hS => ?_)
          obtain ⟨mahd_u62, emahd_u62⟩ : ∃ f : Nat → Int32, f = upd mahd_2 (to + y2_3).toNatClampNeg 0 := ⟨_, rfl⟩
          have rmahd_u62 : rg 240 (0) (100) mahd_u62 := by rw [emahd_u62]; exact g61
          have hP : va_P (dC, dI) vwCl (wMod cI cZ cQ b mday mdoo mdA mdB mfar mmar mtel mgai mfal mtop mstr mgho mfai mpto mwal mahd_u62 mahf_2 mcho mbes mbyt mtxt mpos mtka mtok mdig mnum mfau mrdm mrea mlin mlne mthg mord mbor mbsm mans mand manr mali) H := by rw [emahd_u62]; exact hP
          have hD : va_D A (wMod cI cZ cQ b mday mdoo mdA mdB mfar mmar mtel mgai mfal mtop mstr mgho mfai mpto mwal mahd_u62 mahf_2 mcho mbes mbyt mtxt mpos mtka mtok mdig mnum mfau mrdm mrea mlin mlne mthg mord mbor mbsm mans mand manr mali) := by rw [emahd_u62]; exact hD
          refine lv_aload_n hx hb dX10_goDay_97 rfl (lv_at hl 2 rfl) ?_
          refine va_get (D := (dC, dI)) (ci := 10) (v := .ref (b 16)) (C := RX10) (T := TX10) (N := 39) hx hb hts inX10 hown hK hP 0 rfl rfl 16 (by decide) lf53 (fun _ h9 => h9) rfl dX10_goDay_98 ?_
          refine lv_iload_n hx hb dX10_goDay_101 rfl (lv_at hl 4 rfl) ?_
          refine lv_iload_n hx hb dX10_goDay_102 rfl (lv_at hl 5 rfl) ?_
          refine lv_iadd hx hb dX10_goDay_103 ?_
          have f63 : (to + y2_3).toInt = (to.toInt) + (y2_3.toInt) := addC rfl rfl (by omega) (by omega)
          refine lv_iload hx hb dX10_goDay_104 (lv_at hl 0 rfl) ?_
          refine lv_if_ge (tgt := 113) hx hb dX10_goDay_106 (by decide) (fun c64 => ?_) (fun c64 => ?_)
          · have dc64 : 0 ≤ x58.toInt := leC (show (0 : Int32).toInt = 0 from rfl) rfl c64
            refine lv_iload hx hb dX10_goDay_113 (lv_at hl 0 rfl) ?_
            have b65 : vp_in (to + y2_3) 240 := inC f63 (by omega) (by omega)
            have g66 : rg 240 (0) (100) (upd mahf_2 (to + y2_3).toNatClampNeg x58) := rg_upd r_mahf_2 rfl (by omega) (by omega)
            refine va_iast hx hb hK hP hD hS 13 0 rfl rfl b65 dX10_goDay_115 (fun H locs hP hD hS => ?_)
            obtain ⟨mahf_u67, emahf_u67⟩ : ∃ f : Nat → Int32, f = upd mahf_2 (to + y2_3).toNatClampNeg x58 := ⟨_, rfl⟩
            have rmahf_u67 : rg 240 (0) (100) mahf_u67 := by rw [emahf_u67]; exact g66
            have hP : va_P (dC, dI) vwCl (wMod cI cZ cQ b mday mdoo mdA mdB mfar mmar mtel mgai mfal mtop mstr mgho mfai mpto mwal mahd_u62 mahf_u67 mcho mbes mbyt mtxt mpos mtka mtok mdig mnum mfau mrdm mrea mlin mlne mthg mord mbor mbsm mans mand manr mali) H := by rw [emahf_u67]; exact hP
            have hD : va_D A (wMod cI cZ cQ b mday mdoo mdA mdB mfar mmar mtel mgai mfal mtop mstr mgho mfai mpto mwal mahd_u62 mahf_u67 mcho mbes mbyt mtxt mpos mtka mtok mdig mnum mfau mrdm mrea mlin mlne mthg mord mbor mbsm mans mand manr mali) := by rw [emahf_u67]; exact hD
            obtain ⟨z68, ez68⟩ : ∃ y : Int32, y = y2_3 + 1 := ⟨_, rfl⟩
            have iz68 : z68.toInt = y2_3.toInt + 1 := by rw [ez68]; exact addC rfl rfl (by omega) (by omega)
            refine lv_iinc (v := z68) (lv' := [(3, .int z68), (5, .int x58), (4, .int 0), (0, .ref (b 39)), (1, .int fr), (2, .int to)]) hx hb dX10_goDay_116 hl (k := 5) rfl (by rw [ez68]; rfl) (by decide) rfl (fun ls hl => ?_)
            refine lv_goto (tgt := 2) hx hb dX10_goDay_119 (by decide) ?_
            exact ih2 z68 mahd_u62 mahf_u67 _ _ _ rmahd_u62 rmahf_u67 (by omega) (by omega) (by (first | exact gd_step (xr := fr + y2_3) (xw := to + y2_3) i2_2 (by assumption) (by assumption) (by omega) (by omega) (by omega) (by omega) (by assumption) (by omega) (by first | exact gv_none (by omega) (by first | rfl | omega | (rw [Int32.toInt_zero]; omega)) | exact gv_top (by assumption) (by assumption) (by assumption) (by assumption) (by first | rfl | omega | (rw [Int32.toInt_zero]; omega))) (fl_of (m := 0) (by assumption) (by assumption) rfl (by first | rfl | omega | (rw [Int32.toInt_zero]; omega))) (by omega) | exact gd_init (by first | rfl | omega))) (by omega) hP hD hS (lv_sub hl [3, 4, 5, 0] rfl)
          · have dc64 : x58.toInt < 0 := nleC (show (0 : Int32).toInt = 0 from rfl) rfl c64
            refine lv_iconst (v := 0) hx hb dX10_goDay_109 (by decide) ?_
            refine lv_goto (tgt := 115) hx hb dX10_goDay_110 (by decide) ?_
            have b69 : vp_in (to + y2_3) 240 := inC f63 (by omega) (by omega)
            have g70 : rg 240 (0) (100) (upd mahf_2 (to + y2_3).toNatClampNeg 0) := rg_upd r_mahf_2 (show (0 : Int32).toInt = 0 from rfl) (by omega) (by omega)
            refine va_iast hx hb hK hP hD hS 13 0 rfl rfl b69 dX10_goDay_115 (fun H locs hP hD hS => ?_)
            obtain ⟨mahf_u71, emahf_u71⟩ : ∃ f : Nat → Int32, f = upd mahf_2 (to + y2_3).toNatClampNeg 0 := ⟨_, rfl⟩
            have rmahf_u71 : rg 240 (0) (100) mahf_u71 := by rw [emahf_u71]; exact g70
            have hP : va_P (dC, dI) vwCl (wMod cI cZ cQ b mday mdoo mdA mdB mfar mmar mtel mgai mfal mtop mstr mgho mfai mpto mwal mahd_u62 mahf_u71 mcho mbes mbyt mtxt mpos mtka mtok mdig mnum mfau mrdm mrea mlin mlne mthg mord mbor mbsm mans mand manr mali) H := by rw [emahf_u71]; exact hP
            have hD : va_D A (wMod cI cZ cQ b mday mdoo mdA mdB mfar mmar mtel mgai mfal mtop mstr mgho mfai mpto mwal mahd_u62 mahf_u71 mcho mbes mbyt mtxt mpos mtka mtok mdig mnum mfau mrdm mrea mlin mlne mthg mord mbor mbsm mans mand manr mali) := by rw [emahf_u71]; exact hD
            obtain ⟨z72, ez72⟩ : ∃ y : Int32, y = y2_3 + 1 := ⟨_, rfl⟩
            have iz72 : z72.toInt = y2_3.toInt + 1 := by rw [ez72]; exact addC rfl rfl (by omega) (by omega)
            refine lv_iinc (v := z72) (lv' := [(3, .int z72), (5, .int x58), (4, .int 0), (0, .ref (b 39)), (1, .int fr), (2, .int to)]) hx hb dX10_goDay_116 hl (k := 5) rfl (by rw [ez72]; rfl) (by decide) rfl (fun ls hl => ?_)
            refine lv_goto (tgt := 2) hx hb dX10_goDay_119 (by decide) ?_
            exact ih2 z72 mahd_u62 mahf_u71 _ _ _ rmahd_u62 rmahf_u71 (by omega) (by omega) (by (first | exact gd_step (xr := fr + y2_3) (xw := to + y2_3) i2_2 (by assumption) (by assumption) (by omega) (by omega) (by omega) (by omega) (by assumption) (by omega) (by first | exact gv_none (by omega) (by first | rfl | omega | (rw [Int32.toInt_zero]; omega)) | exact gv_top (by assumption) (by assumption) (by assumption) (by assumption) (by first | rfl | omega | (rw [Int32.toInt_zero]; omega))) (fl_of (m := 0) (by assumption) (by assumption) rfl (by first | rfl | omega | (rw [Int32.toInt_zero]; omega))) (by omega) | exact gd_init (by first | rfl | omega))) (by omega) hP hD hS (lv_sub hl [3, 4, 5, 0] rfl)
  have kc73 : (0 : Int32).toInt = 0 := rfl
  exact L2 _ 0 mahd mahf _ _ _ r_mahd r_mahf (by omega) (by omega) (by (first | exact gd_init (by first | rfl | omega) | exact gd_step (xr := fr + y2_3) (xw := to + y2_3) i2_2 (by assumption) (by assumption) (by omega) (by omega) (by omega) (by omega) (by assumption) (by omega) (by first | exact gv_none (by omega) (by first | rfl | omega | (rw [Int32.toInt_zero]; omega)) | exact gv_top (by assumption) (by assumption) (by assumption) (by assumption) (by first | rfl | omega | (rw [Int32.toInt_zero]; omega))) (fl_of (m := 0) (by assumption) (by assumption) rfl (by first | rfl | omega | (rw [Int32.toInt_zero]; omega))) (by omega))) (Nat.lt_succ_self _) hP hD hS (lv_sub hl [1, 2, 3, 0] rfl)
