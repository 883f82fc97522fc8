-- ===== the model's DAYS =====
def LB (mar top : Nat → Int32) (tel co : Int32) (i L : Int) : Prop := L = cwF mar top tel co.toNatClampNeg (co.toNatClampNeg - co.toNatClampNeg % 6) (i - co.toInt / 6 * 6).toNat
theorem lb_init {mar top : Nat → Int32} {tel co : Int32} {i L : Int} (hi : i = co.toInt / 6 * 6) (hL : L = 0) : LB mar top tel co i L := by
  unfold LB; rw [show (i - co.toInt / 6 * 6).toNat = 0 by omega]; exact hL
theorem lb_no {mar top : Nat → Int32} {tel co o : Int32} {i L R : Int} (q : LB mar top tel co o.toInt L) (hb : crdB mar top tel o.toNatClampNeg co.toNatClampNeg = false) (h0 : 0 ≤ co.toInt) (h1 : co.toInt / 6 * 6 ≤ o.toInt) (hi : i = o.toInt + 1) (hR : R = L) : LB mar top tel co i R := by
  have e := clC (x := co) rfl
  have e2 := clC (x := o) rfl
  unfold LB at q ⊢
  rw [show (i - co.toInt / 6 * 6).toNat = (o.toInt - co.toInt / 6 * 6).toNat + 1 by omega]
  show R = cwF mar top tel co.toNatClampNeg (co.toNatClampNeg - co.toNatClampNeg % 6) (o.toInt - co.toInt / 6 * 6).toNat + (if crdB mar top tel (co.toNatClampNeg - co.toNatClampNeg % 6 + (o.toInt - co.toInt / 6 * 6).toNat) co.toNatClampNeg then 1 else 0)
  rw [show co.toNatClampNeg - co.toNatClampNeg % 6 + (o.toInt - co.toInt / 6 * 6).toNat = o.toNatClampNeg by omega, hb, ← q, hR]; simp
theorem lb_yes {mar top : Nat → Int32} {tel co o : Int32} {i L R : Int} (q : LB mar top tel co o.toInt L) (hb : crdB mar top tel o.toNatClampNeg co.toNatClampNeg = true) (h0 : 0 ≤ co.toInt) (h1 : co.toInt / 6 * 6 ≤ o.toInt) (hi : i = o.toInt + 1) (hR : R = L + 1) : LB mar top tel co i R := by
  have e := clC (x := co) rfl
  have e2 := clC (x := o) rfl
  unfold LB at q ⊢
  rw [show (i - co.toInt / 6 * 6).toNat = (o.toInt - co.toInt / 6 * 6).toNat + 1 by omega]
  show R = cwF mar top tel co.toNatClampNeg (co.toNatClampNeg - co.toNatClampNeg % 6) (o.toInt - co.toInt / 6 * 6).toNat + (if crdB mar top tel (co.toNatClampNeg - co.toNatClampNeg % 6 + (o.toInt - co.toInt / 6 * 6).toNat) co.toNatClampNeg then 1 else 0)
  rw [show co.toNatClampNeg - co.toNatClampNeg % 6 + (o.toInt - co.toInt / 6 * 6).toNat = o.toNatClampNeg by omega, hb, ← q, hR]; rfl
theorem lb_end {mar top : Nat → Int32} {tel co : Int32} {i L : Int} (q : LB mar top tel co i L) (hi : i = co.toInt / 6 * 6 + 6) : L = cwF mar top tel co.toNatClampNeg (co.toNatClampNeg - co.toNatClampNeg % 6) 6 := by
  unfold LB at q; rw [show (i - co.toInt / 6 * 6).toNat = 6 by omega] at q; exact q
theorem crd_noR {mar top : Nat → Int32} {tel o c r : Int32} (e : r = bc (mar (top o.toNatClampNeg).toNatClampNeg &&& mar (top c.toNatClampNeg).toNatClampNeg)) (h : r.toInt < tel.toInt) : crdB mar top tel o.toNatClampNeg c.toNatClampNeg = false := crd_no (e ▸ h)
theorem crd_yesR {mar top : Nat → Int32} {tel o c r : Int32} (e : r = bc (mar (top o.toNatClampNeg).toNatClampNeg &&& mar (top c.toNatClampNeg).toNatClampNeg)) (h : tel.toInt ≤ r.toInt) (h0 : o.toInt ≠ c.toInt) (h1 : 0 ≤ o.toInt) (h2 : 0 ≤ c.toInt) (t1 : ¬ top o.toNatClampNeg = -1) (t2 : 0 ≤ (top c.toNatClampNeg).toInt) : crdB mar top tel o.toNatClampNeg c.toNatClampNeg = true :=
  crd_yes h0 h1 h2 t1 (fun q => by rw [q] at t2; exact absurd t2 (by decide)) (e ▸ h)
def gdV (f mar top : Nat → Int32) (tel : Int32) (y : Nat) (a : Int) : Int := if top y = -1 then 0 else fl f a (cwF mar top tel y (y - y % 6) 6)
def gdS (f mar top : Nat → Int32) (tel : Int32) (o i : Int) (A F A' F' : Nat → Int32) : Prop :=
  ∀ k : Nat, k < 240 → (o ≤ k ∧ (k : Int) < o + i → (A' k).toInt = gdV f mar top tel (k - o.toNat) (A k).toInt ∧ (F' k).toInt = fl f (F k).toInt 0) ∧ (¬ (o ≤ k ∧ (k : Int) < o + i) → A' k = A k ∧ F' k = F k)
theorem gd_init {f mar top A F : Nat → Int32} {tel : Int32} {o i : Int} (hi : i = 0) : gdS f mar top tel o i A F A F := fun k _ => ⟨fun q => by omega, fun _ => ⟨rfl, rfl⟩⟩
theorem gd_step {f mar top A F A1 F1 A2 F2 : Nat → Int32} {tel y v w xr xw : Int32} {o i : Int} (q : gdS f mar top tel o y.toInt A F A1 F1) (eA : A2 = upd A1 xw.toNatClampNeg v) (eF : F2 = upd F1 xw.toNatClampNeg w) (ho : 0 ≤ o) (ho2 : o ≤ 192) (hy : 0 ≤ y.toInt) (hy2 : y.toInt < 48) (hxw : xw.toInt = o + y.toInt) (hxr : xr.toInt = o + y.toInt) (hv : v.toInt = gdV f mar top tel y.toNatClampNeg (A1 xr.toNatClampNeg).toInt) (hw : w.toInt = fl f (F1 xr.toNatClampNeg).toInt 0) (hi : i = y.toInt + 1) : gdS f mar top tel o i A F A2 F2 := by
  subst hi; subst eA; subst eF
  have ew := clC hxw
  have er := clC hxr
  have ey := clC (x := y) rfl
  rw [er] at hv hw; rw [ew]
  have w0 := (q (o + y.toInt).toNat (by omega)).2 (fun z => by omega)
  rw [w0.1] at hv; rw [w0.2] at hw
  intro k hk
  by_cases c : k = (o + y.toInt).toNat
  · subst c
    refine ⟨fun _ => ⟨?_, ?_⟩, fun z => absurd ⟨by omega, by omega⟩ z⟩
    · rw [pk_us, hv, show (o + y.toInt).toNat - o.toNat = y.toNatClampNeg by omega]
    · rw [pk_us, hw]
  · rw [pk_un c, pk_un c]
    exact ⟨fun z => (q k hk).1 (by omega), fun z => (q k hk).2 (by omega)⟩
theorem gv_none {f mar top : Nat → Int32} {tel : Int32} {y : Nat} {a V : Int} (ht : (top y).toInt = -1) (hv : V = 0) : V = gdV f mar top tel y a := by
  unfold gdV; rw [if_pos (Int32.toInt_inj.mp ht)]; exact hv
theorem fl_of {f : Nat → Int32} {x a : Int32} {V m M : Int} (ex : x = a) (hd : (x / 10).toInt = x.toInt / 10) (hm : m = M) (hv : V = max 0 (x.toInt - (f (x / 10).toNatClampNeg).toInt - m)) : V = fl f a.toInt M := by
  subst ex; subst hm; unfold fl; rw [← clC hd]; exact hv
theorem gv_top {f mar top : Nat → Int32} {tel x a : Int32} {y : Nat} {V m : Int} (ht : ¬ top y = -1) (ex : x = a) (hd : (x / 10).toInt = x.toInt / 10) (hm : m = cwF mar top tel y (y - y % 6) 6) (hv : V = max 0 (x.toInt - (f (x / 10).toNatClampNeg).toInt - m)) : V = gdV f mar top tel y a.toInt := by
  unfold gdV; rw [if_neg ht]; exact fl_of ex hd hm hv
