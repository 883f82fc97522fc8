theorem ly_w {f mar top A A1 A2 A3 F2 F3 : Nat → Int32} {tel : Int32} {g ro b came i o : Int} (q : cpL A A1 b i) (hi : i = 48) (w : gwS top g o (ro * 6) (ro * 6 + 6) A1 A2 came) (d : gdS f mar top tel o 48 A2 F2 A3 F3) (ho : o = b + 48) (hb : 0 ≤ b) (hb2 : b ≤ 144) (hr : 0 ≤ ro) (hr7 : ro ≤ 7) : lyS f mar top tel g ro b A A3 := by
  subst hi; subst ho
  refine ⟨fun c hc t => ?_, fun j hj => ?_⟩
  · have q1 := (q (b.toNat + 48 + c) (by omega)).1 ⟨by omega, by omega⟩
    rw [show b.toNat + 48 + c - 48 = b.toNat + c by omega] at q1
    have d1 := ((d (b.toNat + 48 + c) (by omega)).1 ⟨by omega, by omega⟩).1
    have w1 := w.1 (b.toNat + 48 + c) (by omega)
    rw [show b.toNat + 48 + c - (b + 48).toNat = c by omega] at d1 w1
    unfold gdV at d1
    rw [if_neg t] at d1
    rw [d1]
    congr 1
    by_cases z : (c : Int) / 6 = ro
    · rw [if_pos z, w1.1 ⟨by omega, by omega, t⟩, q1]
    · rw [if_neg z, w1.2 (fun k => by omega), q1]
  · have q1 := (q j (by omega)).2 (by omega)
    have d1 := ((d j (by omega)).2 (by omega)).1
    have w1 := (w.1 j (by omega)).2 (by omega)
    rw [d1, w1, q1]
theorem ly_0 {f mar top A A1 A3 F2 F3 : Nat → Int32} {tel : Int32} {g ro b i o : Int} (q : cpL A A1 b i) (hi : i = 48) (d : gdS f mar top tel o 48 A1 F2 A3 F3) (ho : o = b + 48) (hb : 0 ≤ b) (hb2 : b ≤ 144) (hr : ro = 8) : lyS f mar top tel g ro b A A3 := by
  subst hi; subst ho; subst hr
  refine ⟨fun c hc t => ?_, fun j hj => ?_⟩
  · have q1 := (q (b.toNat + 48 + c) (by omega)).1 ⟨by omega, by omega⟩
    rw [show b.toNat + 48 + c - 48 = b.toNat + c by omega] at q1
    have d1 := ((d (b.toNat + 48 + c) (by omega)).1 ⟨by omega, by omega⟩).1
    rw [show b.toNat + 48 + c - (b + 48).toNat = c by omega] at d1
    unfold gdV at d1
    rw [if_neg t] at d1
    rw [d1, q1, if_neg (by omega)]
  · have q1 := (q j (by omega)).2 (by omega)
    have d1 := ((d j (by omega)).2 (by omega)).1
    rw [d1, q1]
theorem wd_P {few top cos tri wk : Nat → Int32} {k : Int} (h : prI few top 8 cos wk) (hk : k = 0) : wdI tri wk k := wd_0 (fun j hj => (h j (by omega)).2) hk
theorem pr_co {few top cos wk : Nat → Int32} (h : prI few top 8 cos wk) : ∀ j : Nat, j < 8 → coC few top (nI j) (cos j) := fun j hj => (h j (by omega)).1
theorem wd_c {tri wk : Nat → Int32} {k k' : Int} (q : wdI tri wk k) (e : k' = k) : wdI tri wk k' := by subst e; exact q
theorem wa_c {tri mi cos : Nat → Int32} {k k' : Int} (q : wkA tri mi cos k) (e : k' = k) : wkA tri mi cos k' := by subst e; exact q
theorem rm_nn {row : Int32} {i : Nat} : 0 ≤ (rmW row i).toInt ∧ (rmW row i).toInt ≤ 15 := by unfold rmW; exact andR (m := 15) rfl (by decide)
theorem tw_pre {row : Int32} {n : Int} {tri : Nat → Int32} (h : twI (rmW row) 8 n tri) : ∀ j : Nat, (j : Int) < n → 0 ≤ (tri j).toInt ∧ (tri j).toInt ≤ 8 := fun j hj => by
  have w := h j hj
  have := rm_nn (row := row) (i := j)
  exact ⟨by rw [w.1]; exact this.1, w.2⟩
theorem jd_conv {mar f top str tri mi cos W M : Nat → Int32} {tel r : Int32} {g n h1 h2 : Int} (h : jdC mar f top str tel g tri mi cos n r) (t : twI W h1 n tri) (m : twI M h2 n mi) (hn : 0 ≤ n) : jdC mar f top str tel g W M cos n r := by
  rcases h with ⟨i, a, b, c, d⟩ | ⟨a, b⟩
  · left
    refine ⟨i, a, ?_, ?_, d⟩
    · rw [← (t i a).1]; exact b
    · rw [← (t i a).1, ← (m i a).1]; exact c
  · right
    refine ⟨fun i hi l => ?_, ?_⟩
    · rw [← (t i hi).1] at l ⊢
      rw [← (m i hi).1]; exact a i hi l
    · rw [b]
      refine sr_eq (fun _ _ => rfl) (fun c hc _ => ?_) 48 (by omega)
      unfold plU
      refine sv_w (N := n.toNat) (fun i hi => ?_) n.toNat (Nat.le_refl _)
      rw [(t i (by omega)).1]
def bdJ (row n mi : Int32) : Prop := n.toInt < 1 ∨ 4 < n.toInt ∨ (∃ j : Nat, (j : Int) < n.toInt ∧ 8 < (rmW row j).toInt) ∨ (∃ j : Nat, (j : Int) < n.toInt ∧ 99 < (mnW mi j).toInt)
def okJ (row n mi : Int32) : Prop := (1 ≤ n.toInt ∧ n.toInt ≤ 4) ∧ (∀ j : Nat, (j : Int) < n.toInt → (rmW row j).toInt ≤ 8) ∧ (∀ j : Nat, (j : Int) < n.toInt → (mnW mi j).toInt < 100)
theorem bd_ok {row n mi : Int32} (h : bdJ row n mi) (k : okJ row n mi) : False := by
  obtain ⟨k1, k2, k3⟩ := k
  rcases h with h | h | ⟨j, a, b⟩ | ⟨j, a, b⟩
  · omega
  · omega
  · have := k2 j a; omega
  · have := k3 j a; omega
def spJdgC (few mar f top str : Nat → Int32) (tel : Int32) (g : Int) (row n mi r : Int32) : Prop := (bdJ row n mi ∧ r = -3) ∨ (okJ row n mi ∧ ∃ cos : Nat → Int32, (∀ j : Nat, j < 8 → coC few top (nI j) (cos j)) ∧ jdC mar f top str tel g (rmW row) (mnW mi) cos n.toInt r)
def jgM (A B top : Nat → Int32) (dn : Int) (row mi : Int32) (i : Nat) (P : Bool) : Prop := ∃ c : Int32, coM A B dn top (rmW row i) c ∧ (if P then wkb c (mnW mi i) else ¬ wkb c (mnW mi i))
def jdM (A B mar f top str : Nat → Int32) (dn : Int) (tel : Int32) (g : Int) (row mi : Int32) (n : Int) (r : Int32) : Prop := (∃ i : Nat, (i : Int) < n ∧ (rmW row i).toInt ≤ 7 ∧ jgM A B top dn row mi i false ∧ r = -1) ∨ ((∀ i : Nat, (i : Int) < n → (rmW row i).toInt ≤ 7 → jgM A B top dn row mi i true) ∧ r.toInt = srF top (plU mar f top str tel g (rmW row) n.toNat) 0 48)
def spJdgM (A B mar f top str : Nat → Int32) (dn tel : Int32) (g : Int) (row n mi r : Int32) : Prop := (bdJ row n mi ∧ r = -3) ∨ (okJ row n mi ∧ jdM A B mar f top str dn.toInt tel g row mi n.toInt r)
theorem gn_rg {g v : Int} (hg0 : 0 ≤ g) (hg1 : g ≤ 100) (h0 : 0 ≤ v) (h1 : v ≤ 100) : 0 ≤ gn g v ∧ gn g v ≤ 100 - v := by
  unfold gn
  have a : 0 ≤ (100 - v) * g := Int.mul_nonneg (by omega) hg0
  have b : (100 - v) * g ≤ (100 - v) * 100 := Int.mul_le_mul_of_nonneg_left hg1 (by omega)
  omega
theorem sv_rg {f : Nat → Int32} {m g v : Int} {w : Nat → Bool} (hf : rg 11 0 30 f) (hm : 0 ≤ m) (hg0 : 0 ≤ g) (hg1 : g ≤ 100) (h0 : 0 ≤ v) (h1 : v ≤ 100) : ∀ k, 0 ≤ svF f m g w v k ∧ svF f m g w v k ≤ 100
  | 0 => ⟨h0, h1⟩
  | k + 1 => by
    have i := sv_rg (w := w) hf hm hg0 hg1 h0 h1 k
    have gr := gn_rg hg0 hg1 i.1 i.2
    show 0 ≤ fl f (if w k then svF f m g w v k + gn g (svF f m g w v k) else svF f m g w v k) m ∧ fl f (if w k then svF f m g w v k + gn g (svF f m g w v k) else svF f m g w v k) m ≤ 100
    cases w k
    · rw [if_neg (by decide)]
      have := fl_rg (m := m) hf i.1 i.2 hm; omega
    · rw [if_pos rfl]
      have := fl_rg (f := f) (v := svF f m g w v k + gn g (svF f m g w v k)) (m := m) hf (by omega) (by omega) hm; omega
theorem sv_f {f f2 : Nat → Int32} {m g v : Int} {w : Nat → Bool} (e : ∀ j, j < 11 → f j = f2 j) (hf : rg 11 0 30 f) (hm : 0 ≤ m) (hg0 : 0 ≤ g) (hg1 : g ≤ 100) (h0 : 0 ≤ v) (h1 : v ≤ 100) : ∀ k, svF f m g w v k = svF f2 m g w v k
  | 0 => rfl
  | k + 1 => by
    have i := sv_rg (w := w) hf hm hg0 hg1 h0 h1 k
    have gr := gn_rg hg0 hg1 i.1 i.2
    show fl f (if w k then svF f m g w v k + gn g (svF f m g w v k) else svF f m g w v k) m = fl f2 (if w k then svF f2 m g w v k + gn g (svF f2 m g w v k) else svF f2 m g w v k) m
    rw [← sv_f e hf hm hg0 hg1 h0 h1 k]
    cases w k
    · rw [if_neg (by decide)]; exact fl_eq e i.1 i.2
    · rw [if_pos rfl]; exact fl_eq e (by omega) (by omega)
theorem spJdg_rel {few A B mar mm f mfl top str gho ghs pto wal mt ms mg mf mp mw : Nat → Int32} {doo dn tel mtel gai mgai row n mi r r2 : Int32} (R : crR top str gho ghs pto wal mt ms mg mf mp mw) (Rd : doR few doo A B dn) (hm : mtOK few) (em : mar = mm) (et : tel = mtel) (eg : gai = mgai) (ef : ∀ j, j < 11 → f j = mfl j) (hf : rg 11 0 30 f) (hs : rg 48 0 100 str) (hg : 0 ≤ gai.toInt ∧ gai.toInt ≤ 100) (h1 : spJdgC few mar f top str tel gai.toInt row n mi r) (h2 : spJdgM A B mm mfl mt ms dn mtel mgai.toInt row n mi r2) : r = r2 := by
  subst em; subst et; subst eg
  rcases h1 with ⟨a, b⟩ | ⟨a, cos, hc, b⟩
  · rcases h2 with ⟨_, d⟩ | ⟨c, _⟩
    · rw [b, d]
    · exact (bd_ok a c).elim
  · rcases h2 with ⟨c, _⟩ | ⟨_, d⟩
    · exact (bd_ok c a).elim
    · have ht : ∀ j, j < 48 → top j = mt j := fun j hj => (R.1 j hj).1
      have key : ∀ i : Nat, (rmW row i).toInt ≤ 7 → ∀ c : Int32, coM A B dn.toInt mt (rmW row i) c → cos (rmW row i).toNatClampNeg = c := by
        intro i l c hcm
        have nn := rm_nn (row := row) (i := i)
        have c1 := hc (rmW row i).toInt.toNat (by omega)
        rw [nI_toNat nn.1] at c1
        rw [clC (x := rmW row i) rfl]
        exact co_rel hm Rd.2 ht ⟨nn.1, l⟩ c1 hcm
      rcases b with ⟨i, i1, i2, i3, b⟩ | ⟨b1, b⟩
      · rcases d with ⟨_, _, _, _, d⟩ | ⟨d1, _⟩
        · rw [b, d]
        · obtain ⟨c, cm, cw⟩ := d1 i i1 i2
          rw [key i i2 c cm] at i3
          exact absurd cw i3
      · rcases d with ⟨i, i1, i2, ⟨c, cm, cw⟩, _⟩ | ⟨_, d⟩
        · have := b1 i i1 i2
          rw [key i i2 c cm] at this
          exact absurd this cw
        · apply Int32.toInt_inj.mp
          rw [b, d]
          refine sr_eq ht (fun c hc2 t => ?_) 48 (by omega)
          unfold plU
          have es := (R.1 c hc2).2.2.2.1 t
          have hsc := hs c hc2
          rw [← es, ← cw_eq ht hc2 6 (by omega)]
          exact sv_f ef hf (cw_nn 6) hg.1 hg.2 hsc.1 hsc.2 _
def igT (A B top f mar : Nat → Int32) (dn : Int) (tel : Int32) (g : Int) (k ro mi : Int32) (L L' : Nat → Int32) : Prop := (ro.toInt = 8 ∨ (∃ c : Int32, coM A B dn top ro c ∧ wkb c (mnW mi k.toInt.toNat))) ∧ lyS f mar top tel g ro.toInt (48 * k.toInt) L L'
def igN (A B top : Nat → Int32) (dn : Int) (k ro mi : Int32) : Prop := ro.toInt ≤ 7 ∧ ∃ c : Int32, coM A B dn top ro c ∧ ¬ wkb c (mnW mi k.toInt.toNat)
theorem ig_y {A B top : Nat → Int32} {dn : Int} {k ro mi c m : Int32} (hc : coM A B dn top ro c) (h1 : ¬ c = -1) (hm : m = mnW mi k.toInt.toNat) (h2 : c.toInt ≤ m.toInt) : ro.toInt = 8 ∨ (∃ c : Int32, coM A B dn top ro c ∧ wkb c (mnW mi k.toInt.toNat)) := .inr ⟨c, hc, h1, by rw [← hm]; exact h2⟩
theorem ig_n1 {A B top : Nat → Int32} {dn : Int} {k ro mi c : Int32} (hr : ro.toInt ≤ 7) (hc : coM A B dn top ro c) (h1 : c = -1) : igN A B top dn k ro mi := ⟨hr, c, hc, fun q => q.1 h1⟩
theorem ig_n2 {A B top : Nat → Int32} {dn : Int} {k ro mi c m : Int32} (hr : ro.toInt ≤ 7) (hc : coM A B dn top ro c) (hm : m = mnW mi k.toInt.toNat) (h2 : m.toInt < c.toInt) : igN A B top dn k ro mi := ⟨hr, c, hc, fun q => by have := q.2; rw [← hm] at this; omega⟩
/-- the layer k: what is left behind k DAYS -/
def lyI (f mar top str : Nat → Int32) (tel : Int32) (g : Int) (row : Int32) (k : Int) (A : Nat → Int32) : Prop := ∀ c : Nat, c < 48 → top c ≠ -1 → (A ((48 * k).toNat + c)).toInt = plU mar f top str tel g (rmW row) k.toNat c
theorem li_A {f mar top str gho fai A F : Nat → Int32} {tel row : Int32} {g i k : Int} (q : laI top str gho fai i A F) (hi : 48 ≤ i) (hk : k = 0) : lyI f mar top str tel g row k A := by
  subst hk
  intro c hc t
  have w := (q c (by omega)).1
  rw [if_neg t] at w
  rw [show (48 * (0 : Int)).toNat + c = c by omega, w]; rfl
theorem li_S {f mar top str A A' : Nat → Int32} {tel row y ro : Int32} {g k b : Int} (q : lyI f mar top str tel g row y.toInt A) (l : lyS f mar top tel g ro.toInt b A A') (hb : b = 48 * y.toInt) (hr : ro = rmW row y.toInt.toNat) (hr8 : 0 ≤ ro.toInt ∧ ro.toInt ≤ 8) (hy : 0 ≤ y.toInt) (hk : k = y.toInt + 1) : lyI f mar top str tel g row k A' := by
  subst hk; subst hb
  intro c hc t
  have a := l.1 c hc t
  rw [show (48 * (y.toInt + 1)).toNat + c = (48 * y.toInt).toNat + 48 + c by omega, a, q c hc t, show (y.toInt + 1).toNat = y.toInt.toNat + 1 by omega]
  show _ = fl f (if decide (rmW row y.toInt.toNat = nI (c / 6)) then svF f (cwF mar top tel c (c - c % 6) 6) g (fun i => decide (rmW row i = nI (c / 6))) (str c).toInt y.toInt.toNat + gn g (svF f (cwF mar top tel c (c - c % 6) 6) g (fun i => decide (rmW row i = nI (c / 6))) (str c).toInt y.toInt.toNat) else svF f (cwF mar top tel c (c - c % 6) 6) g (fun i => decide (rmW row i = nI (c / 6))) (str c).toInt y.toInt.toNat) (cwF mar top tel c (c - c % 6) 6)
  have e : ((c : Int) / 6 = ro.toInt) ↔ (rmW row y.toInt.toNat = nI (c / 6)) := by
    rw [← hr]
    refine ⟨fun z => ?_, fun z => ?_⟩
    · have := nI_toNat (y := ro) hr8.1
      rw [← this]; congr 1; omega
    · have := congrArg Int32.toInt z
      rw [nI_toInt (by omega)] at this; omega
  unfold plU
  by_cases z : (c : Int) / 6 = ro.toInt
  · rw [if_pos z, decide_eq_true (e.mp z), if_pos rfl]
  · rw [if_neg z, decide_eq_false (fun w => z (e.mpr w)), if_neg (by decide)]
def wmA (A B top : Nat → Int32) (dn : Int) (row mi : Int32) (k : Int) : Prop := ∀ i : Nat, (i : Int) < k → (rmW row i).toInt ≤ 7 → jgM A B top dn row mi i true
theorem wm_0 {A B top : Nat → Int32} {dn k : Int} {row mi : Int32} (h : k = 0) : wmA A B top dn row mi k := fun j hj => by omega
theorem wm_s {A B top : Nat → Int32} {dn k : Int} {row mi y ro : Int32} (q : wmA A B top dn row mi y.toInt) (h : ro.toInt = 8 ∨ (∃ c : Int32, coM A B dn top ro c ∧ wkb c (mnW mi y.toInt.toNat))) (hr : ro = rmW row y.toInt.toNat) (hk : k = y.toInt + 1) (h0 : 0 ≤ y.toInt) : wmA A B top dn row mi k := by
  subst hk
  intro i hi l
  by_cases c : i = y.toInt.toNat
  · subst c
    rw [← hr] at l
    rcases h with h | ⟨c, a, b⟩
    · omega
    · refine ⟨c, by rw [← hr]; exact a, ?_⟩
      rw [if_pos rfl]; exact b
  · exact q i (by omega) l
theorem jm_n {A B mar f top str : Nat → Int32} {dn g n : Int} {tel row mi y ro : Int32} (h : igN A B top dn y ro mi) (hr : ro = rmW row y.toInt.toNat) (h0 : 0 ≤ y.toInt) (hn : y.toInt < n) : jdM A B mar f top str dn tel g row mi n (-1) := by
  obtain ⟨a, c, b, d⟩ := h
  subst hr
  refine .inl ⟨y.toInt.toNat, by omega, a, ⟨c, b, ?_⟩, rfl⟩
  rw [if_neg (by decide)]; exact d
theorem jm_y {A B mar f top str L : Nat → Int32} {dn g n k b : Int} {tel row mi r : Int32} (w : wmA A B top dn row mi k) (l : lyI f mar top str tel g row k L) (hr : r.toInt = srF top (fun c => (L (b.toNat + c)).toInt) 0 48) (hb : b = 48 * n) (hk : n = k) (hn : 0 ≤ n) : jdM A B mar f top str dn tel g row mi n r := by
  subst hk
  refine .inr ⟨w, ?_⟩
  rw [hr]
  refine sr_eq (fun _ _ => rfl) (fun c hc t => ?_) 48 (by omega)
  show (L (b.toNat + c)).toInt = _
  rw [hb]; exact l c hc t
def rwL (row : Int32) (i : Int) : Prop := ∀ j : Nat, (j : Int) < i → (rmW row j).toInt ≤ 8
theorem rl_0 {row : Int32} {i : Int} (h : i = 0) : rwL row i := fun j hj => by omega
theorem rl_s {row y x : Int32} {i : Int} (q : rwL row y.toInt) (hx : x = rmW row y.toInt.toNat) (l : x.toInt ≤ 8) (h0 : 0 ≤ y.toInt) (hi : i = y.toInt + 1) : rwL row i := by
  subst hi
  intro j hj
  by_cases c : j = y.toInt.toNat
  · subst c; rw [← hx]; exact l
  · exact q j (by omega)
theorem rl_c {row : Int32} {i i' : Int} (q : rwL row i) (e : i' = i) : rwL row i' := by subst e; exact q
theorem ad_of {r V R L : Int} (e : r = V) (h : R = L + r) : R = L + V := by rw [← e]; exact h
theorem jb_1 {row n mi : Int32} (h : n.toInt < 1 ∨ 4 < n.toInt) : bdJ row n mi := h.elim .inl (fun q => .inr (.inl q))
theorem jo_k {row n mi : Int32} {T M : Nat → Int32} (h : 1 ≤ n.toInt ∧ n.toInt ≤ 4) (t : twI (rmW row) 8 n.toInt T) (m : twI (mnW mi) 99 n.toInt M) : okJ row n mi := ⟨h, fun j hj => by have := t j hj; rw [this.1] at this; exact this.2, fun j hj => by have := m j hj; rw [this.1] at this; have := this.2; omega⟩
