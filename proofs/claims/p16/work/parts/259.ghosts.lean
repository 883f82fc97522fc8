-- ===== a GHOST fades =====
def fgS (f gho ghs : Nat → Int32) (c n : Nat) (g s : Nat → Int32) : Prop :=
  (∀ j, j ≠ c → g j = gho j ∧ s j = ghs j) ∧ ((gho c = -1 ∧ g c = -1) ∨ (gho c ≠ -1 ∧ g c = -1 ∧ itf f 0 (ghs c).toInt n = 0) ∨ (gho c ≠ -1 ∧ g c = gho c ∧ 0 < itf f 0 (ghs c).toInt n ∧ (s c).toInt = itf f 0 (ghs c).toInt n))
theorem fg_init {f gho ghs : Nat → Int32} {c n : Nat} (h : gho c = -1 ∨ 0 < (ghs c).toInt) (hn : n = 0) : fgS f gho ghs c n gho ghs := by
  subst hn
  refine ⟨fun j _ => ⟨rfl, rfl⟩, ?_⟩
  by_cases q : gho c = -1
  · exact .inl ⟨q, q⟩
  · exact .inr (.inr ⟨q, rfl, by rcases h with h | h; exact absurd h q; exact h, rfl⟩)
theorem fg_pos {f gho ghs g s s' : Nat → Int32} {c n n' : Nat} {v : Int32} {z : Int} (h : fgS f gho ghs c n g s) (hg : ¬ g c = -1) (e : s' = upd s c v) (hv : v.toInt = fl f (s c).toInt z) (hz : z = 0) (h0 : 0 < v.toInt) (hn : n' = n + 1) : fgS f gho ghs c n' g s' := by
  subst e; subst hz; subst hn
  refine ⟨fun j hj => ⟨(h.1 j hj).1, by rw [pk_un hj]; exact (h.1 j hj).2⟩, ?_⟩
  rcases h.2 with q | q | q
  · exact absurd q.2 hg
  · exact absurd q.2.1 hg
  · refine .inr (.inr ⟨q.1, q.2.1, ?_, ?_⟩)
    · show 0 < fl f (itf f 0 (ghs c).toInt n) 0
      rw [← q.2.2.2, ← hv]; exact h0
    · show _ = fl f (itf f 0 (ghs c).toInt n) 0
      rw [pk_us, ← q.2.2.2, ← hv]
theorem fg_zero {f gho ghs g g' s s' : Nat → Int32} {c n n' : Nat} {v w : Int32} {z : Int} (h : fgS f gho ghs c n g s) (hg : ¬ g c = -1) (e : s' = upd s c v) (e2 : g' = upd g c w) (hw : w = -1) (hv : v.toInt = fl f (s c).toInt z) (hz : z = 0) (h0 : v.toInt = 0) (hn : n' = n + 1) : fgS f gho ghs c n' g' s' := by
  subst e; subst e2; subst hw; subst hz; subst hn
  refine ⟨fun j hj => ⟨by rw [pk_un hj]; exact (h.1 j hj).1, by rw [pk_un hj]; exact (h.1 j hj).2⟩, ?_⟩
  rcases h.2 with q | q | q
  · exact absurd q.2 hg
  · exact absurd q.2.1 hg
  · refine .inr (.inl ⟨q.1, pk_us .., ?_⟩)
    show fl f (itf f 0 (ghs c).toInt n) 0 = 0
    rw [← q.2.2.2, ← hv]; exact h0
theorem itf_stay {f : Nat → Int32} {v : Int} (hf : rg 11 0 30 f) {n : Nat} (h : itf f 0 v n = 0) : ∀ k, itf f 0 v (n + k) = 0
  | 0 => h
  | k + 1 => by show fl f (itf f 0 v (n + k)) 0 = 0; rw [itf_stay hf h k, fl_zero hf]
theorem fg_end {f gho ghs g s : Nat → Int32} {c n m : Nat} (h : fgS f gho ghs c n g s) (hf : rg 11 0 30 f) (hn : n ≤ m) (hg : g c = -1 ∨ n = m) : fgS f gho ghs c m g s := by
  rcases hg with hg | hg
  · refine ⟨h.1, ?_⟩
    rcases h.2 with q | q | q
    · exact .inl q
    · refine .inr (.inl ⟨q.1, q.2.1, ?_⟩)
      rw [show m = n + (m - n) by omega]; exact itf_stay hf q.2.2 _
    · exact absurd (q.2.1.symm.trans hg) q.1
  · subst hg; exact h
/-- what a GHOST is behind n DAYS -/
def gfd (f : Nat → Int32) (n : Nat) (a s a' s' : Int32) : Prop := (a = -1 ∧ a' = -1) ∨ (a ≠ -1 ∧ a' = -1 ∧ itf f 0 s.toInt n = 0) ∨ (a ≠ -1 ∧ a' = a ∧ 0 < itf f 0 s.toInt n ∧ s'.toInt = itf f 0 s.toInt n)
def pdS (f top cro str gho ghs : Nat → Int32) (n : Nat) (i : Int) (s g h : Nat → Int32) : Prop :=
  ∀ j : Nat, j < 48 → (i ≤ j → s j = str j ∧ g j = gho j ∧ h j = ghs j) ∧ ((j : Int) < i → (top j ≠ -1 → (s j).toInt = itf f (cro j).toInt (str j).toInt n) ∧ gfd f n (gho j) (ghs j) (g j) (h j))
theorem pd_init {f top cro str gho ghs : Nat → Int32} {n : Nat} {i : Int} (hi : i = 0) : pdS f top cro str gho ghs n i str gho ghs := fun j _ => ⟨fun _ => ⟨rfl, rfl, rfl⟩, fun q => by omega⟩
theorem pd_pre {f top cro str gho ghs s g h : Nat → Int32} {n : Nat} {y : Int32} (q : pdS f top cro str gho ghs n y.toInt s g h) (hg : ∀ j : Nat, j < 48 → gho j = -1 ∨ 0 < (ghs j).toInt) (h0 : 0 ≤ y.toInt) (h1 : y.toInt < 48) : g y.toNatClampNeg = -1 ∨ 0 < (h y.toNatClampNeg).toInt := by
  have e := clC (x := y) rfl
  have w := ((q y.toNatClampNeg (by omega)).1 (by omega)).2
  rw [w.1, w.2]; exact hg _ (by omega)
theorem pd_none {f top cro str gho ghs s g h g' h' : Nat → Int32} {n : Nat} {y : Int32} {i : Int} (q : pdS f top cro str gho ghs n y.toInt s g h) (h0 : 0 ≤ y.toInt) (h1 : y.toInt < 48) (ht : top y.toNatClampNeg = -1) (hf : fgS f g h y.toNatClampNeg n g' h') (hi : i = y.toInt + 1) : pdS f top cro str gho ghs n i s g' h' := by
  subst hi
  have e := clC (x := y) rfl
  have w := (q y.toNatClampNeg (by omega)).1 (by omega)
  intro j hj
  by_cases c : j = y.toNatClampNeg
  · subst c
    refine ⟨fun z => by omega, fun _ => ⟨fun z => absurd ht z, ?_⟩⟩
    have z := hf.2; rw [w.2.1, w.2.2] at z; exact z
  · have z := hf.1 j c
    refine ⟨fun z1 => ?_, fun z1 => ?_⟩
    · rw [z.1, z.2]; exact (q j hj).1 (by omega)
    · rw [z.1, z.2]; exact (q j hj).2 (by omega)
theorem pd_top {f top cro str gho ghs s s' g h g' h' : Nat → Int32} {n : Nat} {y v : Int32} {i : Int} (q : pdS f top cro str gho ghs n y.toInt s g h) (h0 : 0 ≤ y.toInt) (h1 : y.toInt < 48) (es : s' = upd s y.toNatClampNeg v) (hv : v.toInt = itf f (cro y.toNatClampNeg).toInt (s y.toNatClampNeg).toInt n) (hf : fgS f g h y.toNatClampNeg n g' h') (hi : i = y.toInt + 1) : pdS f top cro str gho ghs n i s' g' h' := by
  subst hi; subst es
  have e := clC (x := y) rfl
  have w := (q y.toNatClampNeg (by omega)).1 (by omega)
  intro j hj
  by_cases c : j = y.toNatClampNeg
  · subst c
    refine ⟨fun z => by omega, fun _ => ⟨fun _ => by rw [pk_us, hv, w.1], ?_⟩⟩
    have z := hf.2; rw [w.2.1, w.2.2] at z; exact z
  · have z := hf.1 j c
    refine ⟨fun z1 => ?_, fun z1 => ?_⟩
    · rw [z.1, z.2, pk_un c]; exact (q j hj).1 (by omega)
    · rw [z.1, z.2, pk_un c]; exact (q j hj).2 (by omega)
/-- days(n) -/
def dyC (mar f top str gho ghs : Nat → Int32) (tel : Int32) (n : Nat) (s g h : Nat → Int32) : Prop :=
  ∀ j : Nat, j < 48 → (top j ≠ -1 → (s j).toInt = itf f (cwF mar top tel j (j - j % 6) 6) (str j).toInt n) ∧ gfd f n (gho j) (ghs j) (g j) (h j)
theorem pd_end {mar f top cro str gho ghs s g h : Nat → Int32} {tel : Int32} {n : Nat} {i : Int} (q : pdS f top cro str gho ghs n i s g h) (hi : 48 ≤ i) (hc : ∀ j : Nat, j < 48 → (cro j).toInt = cwF mar top tel j (j - j % 6) 6) : dyC mar f top str gho ghs tel n s g h := by
  intro j hj
  have w := (q j hj).2 (by omega)
  rw [hc j hj] at w; exact w
-- ===== WALK past =====
def gn (g v : Int) : Int := (100 - v) * g / 100
def wkF (top str : Nat → Int32) (g : Int) (lo : Nat) : Nat → Int
  | 0 => 0
  | k + 1 => wkF top str g lo k + (if top (lo + k) = -1 then 0 else gn g (str (lo + k)).toInt)
def wkS (top str : Nat → Int32) (g lo i : Int) (s : Nat → Int32) (came : Int) : Prop :=
  (∀ j : Nat, j < 48 → (lo ≤ j ∧ (j : Int) < i ∧ top j ≠ -1 → (s j).toInt = (str j).toInt + gn g (str j).toInt) ∧ (¬ (lo ≤ j ∧ (j : Int) < i ∧ top j ≠ -1) → s j = str j)) ∧ came = wkF top str g lo.toNat (i - lo).toNat
theorem wk_init {top str : Nat → Int32} {g lo i c : Int} (hi : i = lo) (hc : c = 0) : wkS top str g lo i str c := by
  subst hi; subst hc
  refine ⟨fun j _ => ⟨fun q => by omega, fun _ => rfl⟩, ?_⟩
  rw [show (i - i).toNat = 0 by omega]; rfl
theorem wk_none {top str s : Nat → Int32} {g lo i c : Int} {y : Int32} (q : wkS top str g lo y.toInt s c) (h0 : 0 ≤ lo) (h1 : lo ≤ y.toInt) (h2 : y.toInt < 48) (ht : top y.toNatClampNeg = -1) (hi : i = y.toInt + 1) : wkS top str g lo i s c := by
  subst hi
  have e := clC (x := y) rfl
  refine ⟨fun j hj => ?_, ?_⟩
  · have w := q.1 j hj
    by_cases c : j = y.toNatClampNeg
    · subst c
      exact ⟨fun z => absurd ht z.2.2, fun _ => w.2 (fun z => z.2.2 ht)⟩
    · exact ⟨fun z => w.1 ⟨z.1, by omega, z.2.2⟩, fun z => w.2 (fun t => z ⟨t.1, by omega, t.2.2⟩)⟩
  · have w := q.2
    rw [show (y.toInt + 1 - lo).toNat = (y.toInt - lo).toNat + 1 by omega]
    show _ = wkF top str g lo.toNat (y.toInt - lo).toNat + (if top (lo.toNat + (y.toInt - lo).toNat) = -1 then 0 else _)
    rw [show lo.toNat + (y.toInt - lo).toNat = y.toNatClampNeg by omega, if_pos ht, ← w]; omega
theorem wk_top {top str s s' : Nat → Int32} {g lo i c c' r : Int} {y x : Int32} (q : wkS top str g lo y.toInt s c) (h0 : 0 ≤ lo) (h1 : lo ≤ y.toInt) (h2 : y.toInt < 48) (ht : ¬ top y.toNatClampNeg = -1) (es : s' = upd s y.toNatClampNeg x) (hr : r = gn g (s y.toNatClampNeg).toInt) (hx : x.toInt = (s y.toNatClampNeg).toInt + r) (hc : c' = c + r) (hi : i = y.toInt + 1) : wkS top str g lo i s' c' := by
  subst hi; subst es
  have e := clC (x := y) rfl
  have w0 := (q.1 y.toNatClampNeg (by omega)).2 (fun z => by omega)
  rw [w0] at hr hx
  refine ⟨fun j hj => ?_, ?_⟩
  · have w := q.1 j hj
    by_cases c : j = y.toNatClampNeg
    · subst c
      exact ⟨fun _ => by rw [pk_us, hx, hr], fun z => absurd ⟨by omega, by omega, ht⟩ z⟩
    · rw [pk_un c]
      exact ⟨fun z => w.1 ⟨z.1, by omega, z.2.2⟩, fun z => w.2 (fun t => z ⟨t.1, by omega, t.2.2⟩)⟩
  · have w := q.2
    rw [show (y.toInt + 1 - lo).toNat = (y.toInt - lo).toNat + 1 by omega]
    show _ = wkF top str g lo.toNat (y.toInt - lo).toNat + (if top (lo.toNat + (y.toInt - lo).toNat) = -1 then 0 else _)
    rw [show lo.toNat + (y.toInt - lo).toNat = y.toNatClampNeg by omega, if_neg ht, ← w, hc, hr]
theorem wk_end {top str s : Nat → Int32} {g lo i lo' i' c : Int} (q : wkS top str g lo i s c) (h : lo' = lo) (hi : i' = i) : wkS top str g lo' i' s c := by
  subst h; subst hi; exact q
set_option maxHeartbeats 4000000 in
set_option maxRecDepth 100000 in
theorem k_X1_fadeGhost2 (l : Launch) (dC : Nat → ClassId) (dI : Nat → Nat → Nat) (cI cZ cQ : ClassId) (a : Nat → Nat) (top : Nat → Int32) (str : Nat → Int32) (gho : Nat → Int32) (ghs : Nat → Int32) (pto : Nat → Int32) (cro : Nat → Int32) (pla : Nat → Int32) (wal : Nat → Int32) (fal : Nat → Int32) (tel : Int32) (gai : Int32) (day : Int32) (mar : Nat → Int32) (sz : Nat) (co : Int32) (n : Int32) (r_top : rg 48 (-1) (23) top) (r_str : rg 48 (0) (100) str) (r_gho : rg 48 (-1) (23) gho) (r_ghs : rg 48 (0) (100) ghs) (r_cro : rg 48 (0) (6) cro) (r_pla : rg 24 (-1) (47) pla) (r_fal : rg 11 (0) (30) fal) (r_gai : 0 ≤ gai.toInt ∧ gai.toInt ≤ 100) (r_day : 0 ≤ day.toInt ∧ day.toInt ≤ 400) (r_mar : rg 24 (0) (255) mar) (q0 : 0 ≤ co.toInt) (q1 : co.toInt ≤ 47) (q2 : 0 ≤ n.toInt) (q3 : n.toInt ≤ 60) (q4 : gho co.toNatClampNeg = -1 ∨ 0 < (ghs co.toNatClampNeg).toInt) : KV l yX1_fadeGhost wsX1_fadeGhost { frames := 2, cells := 0, slots := 0, locals := 46 } (dC, dI) (TY cI cZ cQ) (wCor cI cZ cQ a top str gho ghs pto cro pla wal fal tel gai day mar) [.ref (a 4), .int co, .int n] sz 0 0 (fun (u : US) => (fgS fal gho ghs co.toNatClampNeg n.toInt.toNat (u.1 0) (u.1 1)) ∧ (rg 48 (-1) (23) (u.1 0)) ∧ (rg 48 (0) (100) (u.1 1))) (fun u : US => (wCor cI cZ cQ a top str (u.1 0) (u.1 1) pto cro pla wal fal tel gai day mar)) := by
  refine Met.ofW (cc := cX1_fadeGhost) (maxL := 4) (ret := none) (by decide) rfl ?_
  intro p e s m args below meth c s₁ B hml hv
  obtain ⟨rfl, hsz, hP, hK, hD0, hN⟩ := hv
  have hx := B.exec
  have hb := B.bytes
  have hr := B.returns
  have hts := atoms_spec (ws := wsX1_fadeGhost) B.pre
  have hown : s.vm.findClass RX1 = some m.cls := findClass_of_methodNamed B.named
  have hlocks := B.notSynchronized
  have lf18 := hts (.fieldLink RX1 18 "PalaceOfRooms$Corners" "ghost" "[I") (List.mem_cons_of_mem _ (List.mem_append_left _ (List.mem_of_getElem? (i := 0) rfl)))
  have inX1 : ∀ w ∈ wsX10, w ∈ wsX1_fadeGhost := fun w h => List.mem_cons_of_mem _ (List.mem_append_right _ h)
  have lf21 := hts (.fieldLink RX1 21 "PalaceOfRooms$Corners" "ghostStrength" "[I") (List.mem_cons_of_mem _ (List.mem_append_left _ (List.mem_of_getElem? (i := 1) rfl)))
  subst hsz
  have hD := hD0.self (sz := s.heap.size)
  generalize hAe : va_A (wCor cI cZ cQ a top str gho ghs pto cro pla wal fal tel gai day mar) s.heap.size = A at hD ⊢
  have hA : ∀ q : Nat, s.heap.size ≤ q → A q := fun q h => by rw [← hAe]; exact Or.inr h
  have hS : va_S A s.heap s.heap [] := va_S.rf
  have hl := lv_entry ([.ref (a 4), .int co, .int n]) (n := 4) (Nat.le_of_ble_eq_true rfl)
  rw [lg_entry_eq]
  generalize (lg_sl ([.ref (a 4), .int co, .int n]) ++ List.replicate (4 - (lg_sl ([.ref (a 4), .int co, .int n])).length) Slot.unset).toArray = ls at hl ⊢
  have hl : lv_has ls 4 [(0, .ref (a 4)), (1, .int co), (2, .int n)] := hl
  refine lv_iconst (v := 0) hx hb dX1_fadeGhost_0 (by decide) ?_
  refine lv_istore_n (lv' := [(3, .int 0), (0, .ref (a 4)), (1, .int co), (2, .int n)]) hx hb dX1_fadeGhost_1 rfl hl (by decide) rfl (fun ls hl => ?_)
  have L2 : ∀ (nn : Nat) (y2_3 : Int32) (gho_2 : Nat → Int32) (ghs_2 : Nat → Int32) (H : Heap) (locs : List Loc) (ls : Array Slot), (rg 48 (-1) (23) gho_2) → (rg 48 (0) (100) ghs_2) → (0 ≤ (y2_3.toInt)) → ((y2_3.toInt) ≤ 60) → (fgS fal gho ghs co.toNatClampNeg ((y2_3.toInt)).toNat gho_2 ghs_2) → ((y2_3.toInt) ≤ n.toInt) → (60 - (y2_3.toInt)).toNat < nn → va_P (dC, dI) vwCl (wCor cI cZ cQ a top str gho_2 ghs_2 pto cro pla wal fal tel gai day mar) H → va_D A (wCor cI cZ cQ a top str gho_2 ghs_2 pto cro pla wal fal tel gai day mar) → va_S A s.heap H locs → lv_has ls 4 [(0, .ref (a 4)), (1, .int co), (2, .int n), (3, .int y2_3)] → W p l e (headSpec wsX1_fadeGhost { frames := 2, cells := 0, slots := 0, locals := 46 }).room s m ([.ref (a 4), .int co, .int n] : List Value).toArray below meth c H locs 0 0 (MQ below (va_Qv (fun (u : US) => (fgS fal gho ghs co.toNatClampNeg n.toInt.toNat (u.1 0) (u.1 1)) ∧ (rg 48 (-1) (23) (u.1 0)) ∧ (rg 48 (0) (100) (u.1 1))) (Bw (dC, dI) A (fun u : US => (wCor cI cZ cQ a top str (u.1 0) (u.1 1) pto cro pla wal fal tel gai day mar))) A) ([.ref (a 4), .int co, .int n] : List Value).toArray s 0 0 A) (F0 m 2 ls []) := by
    intro nn
    induction nn with
    | zero =>
      intro y2_3 gho_2 ghs_2 H locs ls r_gho_2 r_ghs_2 i2_0 i2_1 i2_2 i2_3 hm2
      exact absurd hm2 (Nat.not_lt_zero _)
    | succ nn ih2 =>
      intro y2_3 gho_2 ghs_2 H locs ls r_gho_2 r_ghs_2 i2_0 i2_1 i2_2 i2_3 hm2 hP hD hS hl
      refine lv_iload_n hx hb dX1_fadeGhost_2 rfl (lv_at hl 3 rfl) ?_
      refine lv_iload_n hx hb dX1_fadeGhost_3 rfl (lv_at hl 2 rfl) ?_
      refine lv_icmp_ge (tgt := 56) hx hb dX1_fadeGhost_4 (by decide) (fun c1 => ?_) (fun c1 => ?_)
      · have dc1 : n.toInt ≤ y2_3.toInt := leC rfl rfl c1
        exact W.vret hx hb hr (fun tq ht hW => ⟨⟨(uS [gho_2, ghs_2] 0 (fun _ => 0)), rfl, ⟨(show fgS fal gho ghs co.toNatClampNeg n.toInt.toNat gho_2 ghs_2 from by (first | exact fg_end i2_2 (by assumption) (by omega) (Or.inl (by assumption)) | exact fg_end i2_2 (by assumption) (by omega) (Or.inr (by omega)))), r_gho_2, r_ghs_2⟩, by rw [ht]; exact hP, hD⟩, hS.F ht⟩) hS.2.2 dX1_fadeGhost_56
      · have dc1 : y2_3.toInt < n.toInt := nleC rfl rfl c1
        refine lv_aload_n hx hb dX1_fadeGhost_7 rfl (lv_at hl 0 rfl) ?_
        refine va_get (D := (dC, dI)) (ci := 1) (v := .ref (a 7)) (C := RX1) (T := TX1) (N := 13) hx hb hts inX1 hown hK hP 0 rfl rfl 3 (by decide) lf18 (fun _ h9 => h9) rfl dX1_fadeGhost_8 ?_
        refine lv_iload_n hx hb dX1_fadeGhost_11 rfl (lv_at hl 1 rfl) ?_
        have b2 : vp_in co 48 := inC rfl (by omega) (by omega)
        refine va_iald hx hb hK hP 3 0 rfl rfl b2 dX1_fadeGhost_12 ?_
        have g3 : -1 ≤ (gho_2 co.toNatClampNeg).toInt ∧ (gho_2 co.toNatClampNeg).toInt ≤ 23 := rg_at r_gho_2 b2
        refine lv_iconst (v := (-1)) hx hb dX1_fadeGhost_13 (by decide) ?_
        refine lv_icmp_eq (tgt := 56) hx hb dX1_fadeGhost_14 (by decide) (fun c4 => ?_) (fun c4 => ?_)
        · have dc4 : (gho_2 co.toNatClampNeg).toInt = (-1) := eqC rfl (show ((-1) : Int32).toInt = (-1) from rfl) c4
          exact W.vret hx hb hr (fun tq ht hW => ⟨⟨(uS [gho_2, ghs_2] 0 (fun _ => 0)), rfl, ⟨(show fgS fal gho ghs co.toNatClampNeg n.toInt.toNat gho_2 ghs_2 from by (first | exact fg_end i2_2 (by assumption) (by omega) (Or.inl (by assumption)) | exact fg_end i2_2 (by assumption) (by omega) (Or.inr (by omega)))), r_gho_2, r_ghs_2⟩, by rw [ht]; exact hP, hD⟩, hS.F ht⟩) hS.2.2 dX1_fadeGhost_56
        · have dc4 : 0 ≤ (gho_2 co.toNatClampNeg).toInt := ka_lo (by omega) (neC rfl (show ((-1) : Int32).toInt = (-1) from rfl) c4)
          refine lv_aload_n hx hb dX1_fadeGhost_17 rfl (lv_at hl 0 rfl) ?_
          refine va_get (D := (dC, dI)) (ci := 1) (v := .ref (a 8)) (C := RX1) (T := TX1) (N := 13) hx hb hts inX1 hown hK hP 0 rfl rfl 4 (by decide) lf21 (fun _ h9 => h9) rfl dX1_fadeGhost_18 ?_
          refine lv_iload_n hx hb dX1_fadeGhost_21 rfl (lv_at hl 1 rfl) ?_
          refine lv_aload_n hx hb dX1_fadeGhost_22 rfl (lv_at hl 0 rfl) ?_
          refine lv_aload_n hx hb dX1_fadeGhost_23 rfl (lv_at hl 0 rfl) ?_
          refine va_get (D := (dC, dI)) (ci := 1) (v := .ref (a 8)) (C := RX1) (T := TX1) (N := 13) hx hb hts inX1 hown hK hP 0 rfl rfl 4 (by decide) lf21 (fun _ h9 => h9) rfl dX1_fadeGhost_24 ?_
          refine lv_iload_n hx hb dX1_fadeGhost_27 rfl (lv_at hl 1 rfl) ?_
          have b5 : vp_in co 48 := inC rfl (by omega) (by omega)
          refine va_iald hx hb hK hP 4 0 rfl rfl b5 dX1_fadeGhost_28 ?_
          have g6 : 0 ≤ (ghs_2 co.toNatClampNeg).toInt ∧ (ghs_2 co.toNatClampNeg).toInt ≤ 100 := rg_at r_ghs_2 b5
          refine lv_iconst (v := 0) hx hb dX1_fadeGhost_29 (by decide) ?_
          have kc0 : (0 : Int32).toInt = 0 := rfl
          refine rdV (As := [.int (ghs_2 co.toNatClampNeg), .int 0]) (rest := [.int co, .ref (a 8)]) ⟨hx, hb, hml, hown, hts⟩ (k_X1_fallen2 l dC dI cI cZ cQ a top str gho_2 ghs_2 pto cro pla wal fal tel gai day mar (ghs_2 co.toNatClampNeg) (0 : Int32) r_top r_str r_gho_2 r_ghs_2 r_cro r_pla r_fal r_gai r_day r_mar (by omega) (by omega) (by omega) (by omega)) (cwV 2 hts gX1_fadeGhost_X1_fallen rfl rfl rfl (by decide +kernel) ⟨Nat.le_of_ble_eq_true rfl, Nat.le_of_ble_eq_true rfl⟩) hP hK hN [0, 1, 2, 3, 4, 5, 6, 7, 8, 9, 10, 11] rfl 0 1 rfl rfl rfl hl.1 rfl (Nat.le_of_ble_eq_true rfl) dX1_fadeGhost_30 ⟨Nat.le_of_ble_eq_true rfl, Nat.le_of_ble_eq_true rfl⟩ (fun r7 h8 => ?_)
          have h8 : (0 ≤ r7.toInt) ∧ (r7.toInt ≤ (ghs_2 co.toNatClampNeg).toInt) ∧ (r7.toInt ≤ 100) ∧ (r7.toInt = fl fal (ghs_2 co.toNatClampNeg).toInt (0)) := h8
          obtain ⟨h8_0, h8_1, h8_2, h8_3⟩ := h8
          have b9 : vp_in co 48 := inC rfl (by omega) (by omega)
          have g10 : rg 48 (0) (100) (upd ghs_2 co.toNatClampNeg r7) := rg_upd r_ghs_2 rfl (by omega) (by omega)
          refine va_iast hx hb hK hP hD hS 4 0 rfl rfl b9 dX1_fadeGhost_33 (fun H locs hP hD hS => ?_)
          obtain ⟨ghs_u11, eghs_u11⟩ : ∃ f : Nat → Int32, f = upd ghs_2 co.toNatClampNeg r7 := ⟨_, rfl⟩
          have rghs_u11 : rg 48 (0) (100) ghs_u11 := by rw [eghs_u11]; exact g10
          have hP : va_P (dC, dI) vwCl (wCor cI cZ cQ a top str gho_2 ghs_u11 pto cro pla wal fal tel gai day mar) H := by rw [eghs_u11]; exact hP
          have hD : va_D A (wCor cI cZ cQ a top str gho_2 ghs_u11 pto cro pla wal fal tel gai day mar) := by rw [eghs_u11]; exact hD
          refine lv_aload_n hx hb dX1_fadeGhost_34 rfl (lv_at hl 0 rfl) ?_
          refine va_get (D := (dC, dI)) (ci := 1) (v := .ref (a 8)) (C := RX1) (T := TX1) (N := 13) hx hb hts inX1 hown hK hP 0 rfl rfl 4 (by decide) lf21 (fun _ h9 => h9) rfl dX1_fadeGhost_35 ?_
          refine lv_iload_n hx hb dX1_fadeGhost_38 rfl (lv_at hl 1 rfl) ?_
          have b12 : vp_in co 48 := inC rfl (by omega) (by omega)
          refine va_iald hx hb hK hP 4 0 rfl rfl b12 dX1_fadeGhost_39 ?_
          have g13 : 0 ≤ (ghs_u11 co.toNatClampNeg).toInt ∧ (ghs_u11 co.toNatClampNeg).toInt ≤ 100 := rg_at rghs_u11 b12
          have o14 : (ghs_u11 co.toNatClampNeg).toInt = r7.toInt := by rw [eghs_u11, pk_us]
          refine lv_if_ne (tgt := 50) hx hb dX1_fadeGhost_40 (by decide) (fun c15 => ?_) (fun c15 => ?_)
          · have dc15 : 1 ≤ (ghs_u11 co.toNatClampNeg).toInt := ka_lo (by omega) (neC rfl (show (0 : Int32).toInt = 0 from rfl) c15)
            obtain ⟨z16, ez16⟩ : ∃ y : Int32, y = y2_3 + 1 := ⟨_, rfl⟩
            have iz16 : z16.toInt = y2_3.toInt + 1 := by rw [ez16]; exact addC rfl rfl (by omega) (by omega)
            refine lv_iinc (v := z16) (lv' := [(3, .int z16), (0, .ref (a 4)), (1, .int co), (2, .int n)]) hx hb dX1_fadeGhost_50 hl (k := 3) rfl (by rw [ez16]; rfl) (by decide) rfl (fun ls hl => ?_)
            refine lv_goto (tgt := 2) hx hb dX1_fadeGhost_53 (by decide) ?_
            exact ih2 z16 gho_2 ghs_u11 _ _ _ r_gho_2 rghs_u11 (by omega) (by omega) (by (first | exact fg_pos i2_2 (by assumption) (by assumption) (by assumption) (by rfl) (by omega) (by omega) | exact fg_zero i2_2 (by assumption) (by assumption) (by assumption) (by rfl) (by assumption) (by rfl) (by omega) (by omega) | exact fg_init (by assumption) (by omega))) (by omega) (by omega) hP hD hS (lv_sub hl [1, 2, 3, 0] rfl)
          · have dc15 : (ghs_u11 co.toNatClampNeg).toInt = 0 := eqC rfl (show (0 : Int32).toInt = 0 from rfl) c15
            refine lv_aload_n hx hb dX1_fadeGhost_43 rfl (lv_at hl 0 rfl) ?_
            refine va_get (D := (dC, dI)) (ci := 1) (v := .ref (a 7)) (C := RX1) (T := TX1) (N := 13) hx hb hts inX1 hown hK hP 0 rfl rfl 3 (by decide) lf18 (fun _ h9 => h9) rfl dX1_fadeGhost_44 ?_
            refine lv_iload_n hx hb dX1_fadeGhost_47 rfl (lv_at hl 1 rfl) ?_
            refine lv_iconst (v := (-1)) hx hb dX1_fadeGhost_48 (by decide) ?_
            have b17 : vp_in co 48 := inC rfl (by omega) (by omega)
            have g18 : rg 48 (-1) (23) (upd gho_2 co.toNatClampNeg (-1)) := rg_upd r_gho_2 (show ((-1) : Int32).toInt = (-1) from rfl) (by omega) (by omega)
            refine va_iast hx hb hK hP hD hS 3 0 rfl rfl b17 dX1_fadeGhost_49 (fun H locs hP hD hS => ?_)
            obtain ⟨gho_u19, egho_u19⟩ : ∃ f : Nat → Int32, f = upd gho_2 co.toNatClampNeg (-1) := ⟨_, rfl⟩
            have rgho_u19 : rg 48 (-1) (23) gho_u19 := by rw [egho_u19]; exact g18
            have hP : va_P (dC, dI) vwCl (wCor cI cZ cQ a top str gho_u19 ghs_u11 pto cro pla wal fal tel gai day mar) H := by rw [egho_u19]; exact hP
            have hD : va_D A (wCor cI cZ cQ a top str gho_u19 ghs_u11 pto cro pla wal fal tel gai day mar) := by rw [egho_u19]; exact hD
            obtain ⟨z20, ez20⟩ : ∃ y : Int32, y = y2_3 + 1 := ⟨_, rfl⟩
            have iz20 : z20.toInt = y2_3.toInt + 1 := by rw [ez20]; exact addC rfl rfl (by omega) (by omega)
            refine lv_iinc (v := z20) (lv' := [(3, .int z20), (0, .ref (a 4)), (1, .int co), (2, .int n)]) hx hb dX1_fadeGhost_50 hl (k := 3) rfl (by rw [ez20]; rfl) (by decide) rfl (fun ls hl => ?_)
            refine lv_goto (tgt := 2) hx hb dX1_fadeGhost_53 (by decide) ?_
            exact ih2 z20 gho_u19 ghs_u11 _ _ _ rgho_u19 rghs_u11 (by omega) (by omega) (by (first | exact fg_pos i2_2 (by assumption) (by assumption) (by assumption) (by rfl) (by omega) (by omega) | exact fg_zero i2_2 (by assumption) (by assumption) (by assumption) (by rfl) (by assumption) (by rfl) (by omega) (by omega) | exact fg_init (by assumption) (by omega))) (by omega) (by omega) hP hD hS (lv_sub hl [1, 2, 3, 0] rfl)
  have kc21 : (0 : Int32).toInt = 0 := rfl
  exact L2 _ 0 gho ghs _ _ _ r_gho r_ghs (by omega) (by omega) (by (first | exact fg_init (by assumption) (by omega) | exact fg_pos i2_2 (by assumption) (by assumption) (by assumption) (by rfl) (by omega) (by omega) | exact fg_zero i2_2 (by assumption) (by assumption) (by assumption) (by rfl) (by assumption) (by rfl) (by omega) (by omega))) (by omega) (Nat.lt_succ_self _) hP hD hS (lv_sub hl [1, 2, 3, 0] rfl)
set_option maxHeartbeats 4000000 in
set_option maxRecDepth 100000 in
theorem k_X1_passDays2 (l : Launch) (dC : Nat → ClassId) (dI : Nat → Nat → Nat) (cI cZ cQ : ClassId) (a : Nat → Nat) (top : Nat → Int32) (str : Nat → Int32) (gho : Nat → Int32) (ghs : Nat → Int32) (pto : Nat → Int32) (cro : Nat → Int32) (pla : Nat → Int32) (wal : Nat → Int32) (fal : Nat → Int32) (tel : Int32) (gai : Int32) (day : Int32) (mar : Nat → Int32) (sz : Nat) (n : Int32) (r_top : rg 48 (-1) (23) top) (r_str : rg 48 (0) (100) str) (r_gho : rg 48 (-1) (23) gho) (r_ghs : rg 48 (0) (100) ghs) (r_cro : rg 48 (0) (6) cro) (r_pla : rg 24 (-1) (47) pla) (r_fal : rg 11 (0) (30) fal) (r_gai : 0 ≤ gai.toInt ∧ gai.toInt ≤ 100) (r_day : 0 ≤ day.toInt ∧ day.toInt ≤ 400) (r_mar : rg 24 (0) (255) mar) (q0 : 1 ≤ n.toInt) (q1 : n.toInt ≤ 60) (q2 : day.toInt + n.toInt ≤ 400) (q3 : ∀ j : Nat, j < 48 → gho j = -1 ∨ 0 < (ghs j).toInt) : KV l yX1_passDays wsX1_passDays { frames := 5, cells := 0, slots := 0, locals := 109 } (dC, dI) (TY cI cZ cQ) (wCor cI cZ cQ a top str gho ghs pto cro pla wal fal tel gai day mar) [.ref (a 4), .int n] sz 0 0 (fun (u : US) => ((u.1 4 0) = day + n) ∧ (dyC mar fal top str gho ghs tel n.toInt.toNat (u.1 0) (u.1 1) (u.1 2)) ∧ (rg 48 (0) (100) (u.1 0)) ∧ (rg 48 (-1) (23) (u.1 1)) ∧ (rg 48 (0) (100) (u.1 2)) ∧ (rg 48 (0) (6) (u.1 3)) ∧ (0 ≤ (u.1 4 0).toInt ∧ (u.1 4 0).toInt ≤ 400)) (fun u : US => (wCor cI cZ cQ a top (u.1 0) (u.1 1) (u.1 2) pto (u.1 3) pla wal fal tel gai (u.1 4 0) mar)) := by
  refine Met.ofW (cc := cX1_passDays) (maxL := 3) (ret := none) (by decide) rfl ?_
  intro p e s m args below meth c s₁ B hml hv
  obtain ⟨rfl, hsz, hP, hK, hD0, hN⟩ := hv
  have hx := B.exec
  have hb := B.bytes
  have hr := B.returns
  have hts := atoms_spec (ws := wsX1_passDays) B.pre
  have hown : s.vm.findClass RX1 = some m.cls := findClass_of_methodNamed B.named
  have hlocks := B.notSynchronized
  have lf62 := hts (.fieldLink RX1 62 "PalaceOfRooms$Corners" "day" "I") (List.mem_cons_of_mem _ (List.mem_append_left _ (List.mem_append_left _ (List.mem_append_left _ (List.mem_of_getElem? (i := 2) rfl)))))
  have inX1 : ∀ w ∈ wsX10, w ∈ wsX1_passDays := fun w h => List.mem_cons_of_mem _ (List.mem_append_left _ (List.mem_append_right _ h))
  have lf9 := hts (.fieldLink RX1 9 "PalaceOfRooms$Corners" "top" "[I") (List.mem_cons_of_mem _ (List.mem_append_left _ (List.mem_append_left _ (List.mem_append_left _ (List.mem_of_getElem? (i := 0) rfl)))))
  have lf15 := hts (.fieldLink RX1 15 "PalaceOfRooms$Corners" "strength" "[I") (List.mem_cons_of_mem _ (List.mem_append_left _ (List.mem_append_left _ (List.mem_append_left _ (List.mem_of_getElem? (i := 1) rfl)))))
  subst hsz
  have hD := hD0.self (sz := s.heap.size)
  generalize hAe : va_A (wCor cI cZ cQ a top str gho ghs pto cro pla wal fal tel gai day mar) s.heap.size = A at hD ⊢
  have hA : ∀ q : Nat, s.heap.size ≤ q → A q := fun q h => by rw [← hAe]; exact Or.inr h
  have hS : va_S A s.heap s.heap [] := va_S.rf
  have hl := lv_entry ([.ref (a 4), .int n]) (n := 3) (Nat.le_of_ble_eq_true rfl)
  rw [lg_entry_eq]
  generalize (lg_sl ([.ref (a 4), .int n]) ++ List.replicate (3 - (lg_sl ([.ref (a 4), .int n])).length) Slot.unset).toArray = ls at hl ⊢
  have hl : lv_has ls 3 [(0, .ref (a 4)), (1, .int n)] := hl
  refine lv_aload_n hx hb dX1_passDays_0 rfl (lv_at hl 0 rfl) ?_
  refine wvV (As := []) (rest := []) (wr := []) (w2 := (fun u : US => (wCor cI cZ cQ a top str gho ghs pto (u.1 0) pla wal fal tel gai day mar))) ⟨hx, hb, hml, hown, hts⟩ (k_X1_countCrowds2 l dC dI cI cZ cQ a top str gho ghs pto cro pla wal fal tel gai day mar _ r_top r_str r_gho r_ghs r_cro r_pla r_fal r_gai r_day r_mar) (cwV 0 hts gX1_passDays_X1_countCrowds rfl rfl rfl (by decide +kernel) ⟨Nat.le_of_ble_eq_true rfl, Nat.le_of_ble_eq_true rfl⟩) hP hD hS hA hK hN [0, 1, 2, 3, 4, 5, 6, 7, 8, 9, 10, 11] [] [0, 1, 2, 3, 4, 5, 6, 7, 8, 9, 10, 11] rfl rfl (by decide) (by decide) (by decide) (fun _ => rfl) (by decide) 0 1 rfl rfl rfl hl.1 rfl (Nat.le_of_ble_eq_true rfl) dX1_passDays_1 ⟨Nat.le_of_ble_eq_true rfl, Nat.le_of_ble_eq_true rfl⟩ (fun u3 H locs h2 hP hD hS => ?_)
  obtain ⟨cro_c4, ecro_c4⟩ : ∃ f : Nat → Int32, f = (u3.1 0) := ⟨_, rfl⟩
  have hP : va_P (dC, dI) vwCl (wCor cI cZ cQ a top str gho ghs pto cro_c4 pla wal fal tel gai day mar) H := by rw [ecro_c4]; exact hP
  have hD : va_D A (wCor cI cZ cQ a top str gho ghs pto cro_c4 pla wal fal tel gai day mar) := by rw [ecro_c4]; exact hD
  have h2 : (∀ j : Nat, j < 48 → (cro_c4 j).toInt = cwF mar top tel j (j - j % 6) 6) ∧ (rg 48 (0) (6) cro_c4) := by (try rw [ecro_c4]); exact h2
  obtain ⟨h2_0, h2_1⟩ := h2
  refine lv_iconst (v := 0) hx hb dX1_passDays_4 (by decide) ?_
  refine lv_istore_n (lv' := [(2, .int 0), (0, .ref (a 4)), (1, .int n)]) hx hb dX1_passDays_5 rfl hl (by decide) rfl (fun ls hl => ?_)
  have L6 : ∀ (nn : Nat) (y6_2 : Int32) (str_6 : Nat → Int32) (gho_6 : Nat → Int32) (ghs_6 : Nat → Int32) (H : Heap) (locs : List Loc) (ls : Array Slot), (rg 48 (0) (100) str_6) → (rg 48 (-1) (23) gho_6) → (rg 48 (0) (100) ghs_6) → (0 ≤ (y6_2.toInt)) → ((y6_2.toInt) ≤ 48) → (pdS fal top cro_c4 str gho ghs n.toInt.toNat (y6_2.toInt) str_6 gho_6 ghs_6) → (48 - (y6_2.toInt)).toNat < nn → va_P (dC, dI) vwCl (wCor cI cZ cQ a top str_6 gho_6 ghs_6 pto cro_c4 pla wal fal tel gai day mar) H → va_D A (wCor cI cZ cQ a top str_6 gho_6 ghs_6 pto cro_c4 pla wal fal tel gai day mar) → va_S A s.heap H locs → lv_has ls 3 [(0, .ref (a 4)), (1, .int n), (2, .int y6_2)] → W p l e (headSpec wsX1_passDays { frames := 5, cells := 0, slots := 0, locals := 109 }).room s m ([.ref (a 4), .int n] : List Value).toArray below meth c H locs 0 0 (MQ below (va_Qv (fun (u : US) => ((u.1 4 0) = day + n) ∧ (dyC mar fal top str gho ghs tel n.toInt.toNat (u.1 0) (u.1 1) (u.1 2)) ∧ (rg 48 (0) (100) (u.1 0)) ∧ (rg 48 (-1) (23) (u.1 1)) ∧ (rg 48 (0) (100) (u.1 2)) ∧ (rg 48 (0) (6) (u.1 3)) ∧ (0 ≤ (u.1 4 0).toInt ∧ (u.1 4 0).toInt ≤ 400)) (Bw (dC, dI) A (fun u : US => (wCor cI cZ cQ a top (u.1 0) (u.1 1) (u.1 2) pto (u.1 3) pla wal fal tel gai (u.1 4 0) mar))) A) ([.ref (a 4), .int n] : List Value).toArray s 0 0 A) (F0 m 6 ls []) := by
    intro nn
    induction nn with
    | zero =>
      intro y6_2 str_6 gho_6 ghs_6 H locs ls r_str_6 r_gho_6 r_ghs_6 i6_0 i6_1 i6_2 hm6
      exact absurd hm6 (Nat.not_lt_zero _)
    | succ nn ih6 =>
      intro y6_2 str_6 gho_6 ghs_6 H locs ls r_str_6 r_gho_6 r_ghs_6 i6_0 i6_1 i6_2 hm6 hP hD hS hl
      refine lv_iload_n hx hb dX1_passDays_6 rfl (lv_at hl 2 rfl) ?_
      refine lv_bipush (v := 48) hx hb dX1_passDays_7 (by decide) ?_
      refine lv_icmp_ge (tgt := 47) hx hb dX1_passDays_9 (by decide) (fun c5 => ?_) (fun c5 => ?_)
      · have dc5 : 48 ≤ y6_2.toInt := leC (show (48 : Int32).toInt = 48 from rfl) rfl c5
        refine lv_aload_n hx hb dX1_passDays_47 rfl (lv_at hl 0 rfl) ?_
        refine lv_dup hx hb dX1_passDays_48 rfl ?_
        refine va_get (D := (dC, dI)) (ci := 1) (v := .int day) (C := RX1) (T := TX1) (N := 13) hx hb hts inX1 hown hK hP 0 rfl rfl 12 (by decide) lf62 (fun _ h9 => h9) rfl dX1_passDays_49 ?_
        refine lv_iload_n hx hb dX1_passDays_52 rfl (lv_at hl 1 rfl) ?_
        refine lv_iadd hx hb dX1_passDays_53 ?_
        have f6 : (day + n).toInt = (day.toInt) + (n.toInt) := addC rfl rfl (by omega) (by omega)
        refine lv_topi (fun x7 ex7 => ?_)
        have ix7 : x7.toInt = (day.toInt) + (n.toInt) := by rw [ex7]; exact f6
        refine va_put (D := (dC, dI)) (ci := 1) (v := .int x7) (ty := .int) (C := RX1) (T := TX1) (N := 13) hx hb hts inX1 tyX1 tyX1_ok nmX1 hown hK hP hD hS 0 rfl rfl 12 (by decide) lf62 (fun _ h9 => h9) rfl (by decide +kernel) rfl rfl (Nat.le_of_ble_eq_true rfl) dX1_passDays_54 (fun H locs hP hD hS => ?_)
        have g8 : 0 ≤ x7.toInt ∧ x7.toInt ≤ 400 := by rw [show x7.toInt = x7.toInt from rfl]; exact ⟨by omega, by omega⟩
        have hP : va_P (dC, dI) vwCl (wCor cI cZ cQ a top str_6 gho_6 ghs_6 pto cro_c4 pla wal fal tel gai x7 mar) H := hP
        have hD : va_D A (wCor cI cZ cQ a top str_6 gho_6 ghs_6 pto cro_c4 pla wal fal tel gai x7 mar) := hD
        exact W.vret hx hb hr (fun tq ht hW => ⟨⟨(uS [str_6, gho_6, ghs_6, cro_c4, (fun _ => x7)] 0 (fun _ => 0)), rfl, ⟨(show x7 = day + n from by (subst_vars; rfl)), (show dyC mar fal top str gho ghs tel n.toInt.toNat str_6 gho_6 ghs_6 from by exact pd_end i6_2 (by omega) (by assumption)), r_str_6, r_gho_6, r_ghs_6, h2_1, g8⟩, by rw [ht]; exact hP, hD⟩, hS.F ht⟩) hS.2.2 dX1_passDays_57
      · have dc5 : y6_2.toInt < 48 := nleC (show (48 : Int32).toInt = 48 from rfl) rfl c5
        refine lv_aload_n hx hb dX1_passDays_12 rfl (lv_at hl 0 rfl) ?_
        refine va_get (D := (dC, dI)) (ci := 1) (v := .ref (a 5)) (C := RX1) (T := TX1) (N := 13) hx hb hts inX1 hown hK hP 0 rfl rfl 1 (by decide) lf9 (fun _ h9 => h9) rfl dX1_passDays_13 ?_
        refine lv_iload_n hx hb dX1_passDays_16 rfl (lv_at hl 2 rfl) ?_
        have b9 : vp_in y6_2 48 := inC rfl (by omega) (by omega)
        refine va_iald hx hb hK hP 1 0 rfl rfl b9 dX1_passDays_17 ?_
        have g10 : -1 ≤ (top y6_2.toNatClampNeg).toInt ∧ (top y6_2.toNatClampNeg).toInt ≤ 23 := rg_at r_top b9
        refine lv_iconst (v := (-1)) hx hb dX1_passDays_18 (by decide) ?_
        refine lv_icmp_eq (tgt := 35) hx hb dX1_passDays_19 (by decide) (fun c11 => ?_) (fun c11 => ?_)
        · have dc11 : (top y6_2.toNatClampNeg).toInt = (-1) := eqC rfl (show ((-1) : Int32).toInt = (-1) from rfl) c11
          refine lv_aload_n hx hb dX1_passDays_35 rfl (lv_at hl 0 rfl) ?_
          refine lv_iload_n hx hb dX1_passDays_36 rfl (lv_at hl 2 rfl) ?_
          refine lv_iload_n hx hb dX1_passDays_37 rfl (lv_at hl 1 rfl) ?_
          refine wvV (As := [.int y6_2, .int n]) (rest := []) (wr := []) (w2 := (fun u : US => (wCor cI cZ cQ a top str_6 (u.1 0) (u.1 1) pto cro_c4 pla wal fal tel gai day mar))) ⟨hx, hb, hml, hown, hts⟩ (k_X1_fadeGhost2 l dC dI cI cZ cQ a top str_6 gho_6 ghs_6 pto cro_c4 pla wal fal tel gai day mar _ y6_2 n r_top r_str_6 r_gho_6 r_ghs_6 h2_1 r_pla r_fal r_gai r_day r_mar (by omega) (by omega) (by omega) (by omega) (by exact pd_pre i6_2 (by assumption) (by omega) (by omega))) (cwV 2 hts gX1_passDays_X1_fadeGhost rfl rfl rfl (by decide +kernel) ⟨Nat.le_of_ble_eq_true rfl, Nat.le_of_ble_eq_true rfl⟩) hP hD hS hA hK hN [0, 1, 2, 3, 4, 5, 6, 7, 8, 9, 10, 11] [] [0, 1, 2, 3, 4, 5, 6, 7, 8, 9, 10, 11] rfl rfl (by decide) (by decide) (by decide) (fun _ => rfl) (by decide) 0 1 rfl rfl rfl hl.1 rfl (Nat.le_of_ble_eq_true rfl) dX1_passDays_38 ⟨Nat.le_of_ble_eq_true rfl, Nat.le_of_ble_eq_true rfl⟩ (fun u14 H locs h13 hP hD hS => ?_)
          obtain ⟨gho_c15, egho_c15⟩ : ∃ f : Nat → Int32, f = (u14.1 0) := ⟨_, rfl⟩
          obtain ⟨ghs_c16, eghs_c16⟩ : ∃ f : Nat → Int32, f = (u14.1 1) := ⟨_, rfl⟩
          have hP : va_P (dC, dI) vwCl (wCor cI cZ cQ a top str_6 gho_c15 ghs_c16 pto cro_c4 pla wal fal tel gai day mar) H := by rw [egho_c15, eghs_c16]; exact hP
          have hD : va_D A (wCor cI cZ cQ a top str_6 gho_c15 ghs_c16 pto cro_c4 pla wal fal tel gai day mar) := by rw [egho_c15, eghs_c16]; exact hD
          have h13 : (fgS fal gho_6 ghs_6 y6_2.toNatClampNeg n.toInt.toNat gho_c15 ghs_c16) ∧ (rg 48 (-1) (23) gho_c15) ∧ (rg 48 (0) (100) ghs_c16) := by (try rw [egho_c15]); (try rw [eghs_c16]); exact h13
          obtain ⟨h13_0, h13_1, h13_2⟩ := h13
          obtain ⟨z17, ez17⟩ : ∃ y : Int32, y = y6_2 + 1 := ⟨_, rfl⟩
          have iz17 : z17.toInt = y6_2.toInt + 1 := by rw [ez17]; exact addC rfl rfl (by omega) (by omega)
          refine lv_iinc (v := z17) (lv' := [(2, .int z17), (0, .ref (a 4)), (1, .int n)]) hx hb dX1_passDays_41 hl (k := 2) rfl (by rw [ez17]; rfl) (by decide) rfl (fun ls hl => ?_)
          refine lv_goto (tgt := 6) hx hb dX1_passDays_44 (by decide) ?_
          exact ih6 z17 str_6 gho_c15 ghs_c16 _ _ _ r_str_6 h13_1 h13_2 (by omega) (by omega) (by (first | exact pd_none i6_2 (by omega) (by omega) (by assumption) (by assumption) (by omega) | exact pd_top i6_2 (by omega) (by omega) (by assumption) (by assumption) (by assumption) (by omega) | exact pd_init (by first | rfl | omega))) (by omega) hP hD hS (lv_sub hl [1, 2, 0] rfl)
        · have dc11 : 0 ≤ (top y6_2.toNatClampNeg).toInt := ka_lo (by omega) (neC rfl (show ((-1) : Int32).toInt = (-1) from rfl) c11)
          refine lv_aload_n hx hb dX1_passDays_22 rfl (lv_at hl 0 rfl) ?_
          refine va_get (D := (dC, dI)) (ci := 1) (v := .ref (a 6)) (C := RX1) (T := TX1) (N := 13) hx hb hts inX1 hown hK hP 0 rfl rfl 2 (by decide) lf15 (fun _ h9 => h9) rfl dX1_passDays_23 ?_
          refine lv_iload_n hx hb dX1_passDays_26 rfl (lv_at hl 2 rfl) ?_
          refine lv_aload_n hx hb dX1_passDays_27 rfl (lv_at hl 0 rfl) ?_
          refine lv_iload_n hx hb dX1_passDays_28 rfl (lv_at hl 2 rfl) ?_
          refine lv_iload_n hx hb dX1_passDays_29 rfl (lv_at hl 1 rfl) ?_
          refine lv_iconst (v := 0) hx hb dX1_passDays_30 (by decide) ?_
          have kc0 : (0 : Int32).toInt = 0 := rfl
          refine rdV (As := [.int y6_2, .int n, .int 0]) (rest := [.int y6_2, .ref (a 6)]) ⟨hx, hb, hml, hown, hts⟩ (k_X1_strengthBehind2 l dC dI cI cZ cQ a top str_6 gho_6 ghs_6 pto cro_c4 pla wal fal tel gai day mar y6_2 n (0 : Int32) r_top r_str_6 r_gho_6 r_ghs_6 h2_1 r_pla r_fal r_gai r_day r_mar (by omega) (by omega) (by omega) (by omega) (by rfl)) (cwV 3 hts gX1_passDays_X1_strengthBehind rfl rfl rfl (by decide +kernel) ⟨Nat.le_of_ble_eq_true rfl, Nat.le_of_ble_eq_true rfl⟩) hP hK hN [0, 1, 2, 3, 4, 5, 6, 7, 8, 9, 10, 11] rfl 0 1 rfl rfl rfl hl.1 rfl (Nat.le_of_ble_eq_true rfl) dX1_passDays_31 ⟨Nat.le_of_ble_eq_true rfl, Nat.le_of_ble_eq_true rfl⟩ (fun r18 h19 => ?_)
          have h19 : (0 ≤ r18.toInt) ∧ (r18.toInt ≤ 100) ∧ (r18.toInt = itf fal (cro_c4 y6_2.toNatClampNeg).toInt (str_6 y6_2.toNatClampNeg).toInt n.toInt.toNat) := h19
          obtain ⟨h19_0, h19_1, h19_2⟩ := h19
          have b20 : vp_in y6_2 48 := inC rfl (by omega) (by omega)
          have g21 : rg 48 (0) (100) (upd str_6 y6_2.toNatClampNeg r18) := rg_upd r_str_6 rfl (by omega) (by omega)
          refine va_iast hx hb hK hP hD hS 2 0 rfl rfl b20 dX1_passDays_34 (fun H locs hP hD hS => ?_)
          obtain ⟨str_u22, estr_u22⟩ : ∃ f : Nat → Int32, f = upd str_6 y6_2.toNatClampNeg r18 := ⟨_, rfl⟩
          have rstr_u22 : rg 48 (0) (100) str_u22 := by rw [estr_u22]; exact g21
          have hP : va_P (dC, dI) vwCl (wCor cI cZ cQ a top str_u22 gho_6 ghs_6 pto cro_c4 pla wal fal tel gai day mar) H := by rw [estr_u22]; exact hP
          have hD : va_D A (wCor cI cZ cQ a top str_u22 gho_6 ghs_6 pto cro_c4 pla wal fal tel gai day mar) := by rw [estr_u22]; exact hD
          refine lv_aload_n hx hb dX1_passDays_35 rfl (lv_at hl 0 rfl) ?_
          refine lv_iload_n hx hb dX1_passDays_36 rfl (lv_at hl 2 rfl) ?_
          refine lv_iload_n hx hb dX1_passDays_37 rfl (lv_at hl 1 rfl) ?_
          refine wvV (As := [.int y6_2, .int n]) (rest := []) (wr := []) (w2 := (fun u : US => (wCor cI cZ cQ a top str_u22 (u.1 0) (u.1 1) pto cro_c4 pla wal fal tel gai day mar))) ⟨hx, hb, hml, hown, hts⟩ (k_X1_fadeGhost2 l dC dI cI cZ cQ a top str_u22 gho_6 ghs_6 pto cro_c4 pla wal fal tel gai day mar _ y6_2 n r_top rstr_u22 r_gho_6 r_ghs_6 h2_1 r_pla r_fal r_gai r_day r_mar (by omega) (by omega) (by omega) (by omega) (by exact pd_pre i6_2 (by assumption) (by omega) (by omega))) (cwV 2 hts gX1_passDays_X1_fadeGhost rfl rfl rfl (by decide +kernel) ⟨Nat.le_of_ble_eq_true rfl, Nat.le_of_ble_eq_true rfl⟩) hP hD hS hA hK hN [0, 1, 2, 3, 4, 5, 6, 7, 8, 9, 10, 11] [] [0, 1, 2, 3, 4, 5, 6, 7, 8, 9, 10, 11] rfl rfl (by decide) (by decide) (by decide) (fun _ => rfl) (by decide) 0 1 rfl rfl rfl hl.1 rfl (Nat.le_of_ble_eq_true rfl) dX1_passDays_38 ⟨Nat.le_of_ble_eq_true rfl, Nat.le_of_ble_eq_true rfl⟩ (fun u25 H locs h24 hP hD hS => ?_)
          obtain ⟨gho_c26, egho_c26⟩ : ∃ f : Nat → Int32, f = (u25.1 0) := ⟨_, rfl⟩
          obtain ⟨ghs_c27, eghs_c27⟩ : ∃ f : Nat → Int32, f = (u25.1 1) := ⟨_, rfl⟩
          have hP : va_P (dC, dI) vwCl (wCor cI cZ cQ a top str_u22 gho_c26 ghs_c27 pto cro_c4 pla wal fal tel gai day mar) H := by rw [egho_c26, eghs_c27]; exact hP
          have hD : va_D A (wCor cI cZ cQ a top str_u22 gho_c26 ghs_c27 pto cro_c4 pla wal fal tel gai day mar) := by rw [egho_c26, eghs_c27]; exact hD
          have h24 : (fgS fal gho_6 ghs_6 y6_2.toNatClampNeg n.toInt.toNat gho_c26 ghs_c27) ∧ (rg 48 (-1) (23) gho_c26) ∧ (rg 48 (0) (100) ghs_c27) := by (try rw [egho_c26]); (try rw [eghs_c27]); exact h24
          obtain ⟨h24_0, h24_1, h24_2⟩ := h24
          obtain ⟨z28, ez28⟩ : ∃ y : Int32, y = y6_2 + 1 := ⟨_, rfl⟩
          have iz28 : z28.toInt = y6_2.toInt + 1 := by rw [ez28]; exact addC rfl rfl (by omega) (by omega)
          refine lv_iinc (v := z28) (lv' := [(2, .int z28), (0, .ref (a 4)), (1, .int n)]) hx hb dX1_passDays_41 hl (k := 2) rfl (by rw [ez28]; rfl) (by decide) rfl (fun ls hl => ?_)
          refine lv_goto (tgt := 6) hx hb dX1_passDays_44 (by decide) ?_
          exact ih6 z28 str_u22 gho_c26 ghs_c27 _ _ _ rstr_u22 h24_1 h24_2 (by omega) (by omega) (by (first | exact pd_none i6_2 (by omega) (by omega) (by assumption) (by assumption) (by omega) | exact pd_top i6_2 (by omega) (by omega) (by assumption) (by assumption) (by assumption) (by omega) | exact pd_init (by first | rfl | omega))) (by omega) hP hD hS (lv_sub hl [1, 2, 0] rfl)
  have kc29 : (0 : Int32).toInt = 0 := rfl
  exact L6 _ 0 str gho ghs _ _ _ r_str r_gho r_ghs (by omega) (by omega) (by (first | exact pd_init (by first | rfl | omega) | exact pd_none i6_2 (by omega) (by omega) (by assumption) (by assumption) (by omega) | exact pd_top i6_2 (by omega) (by omega) (by assumption) (by assumption) (by assumption) (by omega))) (Nat.lt_succ_self _) hP hD hS (lv_sub hl [1, 2, 0] rfl)
set_option maxHeartbeats 4000000 in
set_option maxRecDepth 100000 in
theorem k_X1_gainOf2 (l : Launch) (dC : Nat → ClassId) (dI : Nat → Nat → Nat) (cI cZ cQ : ClassId) (a : Nat → Nat) (top : Nat → Int32) (str : Nat → Int32) (gho : Nat → Int32) (ghs : Nat → Int32) (pto : Nat → Int32) (cro : Nat → Int32) (pla : Nat → Int32) (wal : Nat → Int32) (fal : Nat → Int32) (tel : Int32) (gai : Int32) (day : Int32) (mar : Nat → Int32) (fr : Int32) (r_top : rg 48 (-1) (23) top) (r_str : rg 48 (0) (100) str) (r_gho : rg 48 (-1) (23) gho) (r_ghs : rg 48 (0) (100) ghs) (r_cro : rg 48 (0) (6) cro) (r_pla : rg 24 (-1) (47) pla) (r_fal : rg 11 (0) (30) fal) (r_gai : 0 ≤ gai.toInt ∧ gai.toInt ≤ 100) (r_day : 0 ≤ day.toInt ∧ day.toInt ≤ 400) (r_mar : rg 24 (0) (255) mar) (q0 : 0 ≤ fr.toInt) (q1 : fr.toInt ≤ 100) : KR l yX1_gainOf wsX1_gainOf { frames := 0, cells := 0, slots := 0, locals := 0 } (dC, dI) (TY cI cZ cQ) (wCor cI cZ cQ a top str gho ghs pto cro pla wal fal tel gai day mar) [.ref (a 4), .int fr] (fun r : Int32 => (0 ≤ r.toInt) ∧ (r.toInt ≤ 100 - fr.toInt) ∧ (r.toInt ≤ 100) ∧ (r.toInt = gn gai.toInt fr.toInt)) := by
  refine Met.ofW (cc := cX1_gainOf) (maxL := 2) (ret := (some .int)) (by decide) rfl ?_
  intro p e s m args below meth c s₁ B hml hv
  obtain ⟨rfl, hP, hK, hN⟩ := hv
  have hx := B.exec
  have hb := B.bytes
  have hr := B.returns
  have hts := atoms_spec (ws := wsX1_gainOf) B.pre
  have hown : s.vm.findClass RX1 = some m.cls := findClass_of_methodNamed B.named
  have hlocks := B.notSynchronized
  have lf43 := hts (.fieldLink RX1 43 "PalaceOfRooms$Corners" "gain" "I") (List.mem_cons_of_mem _ (List.mem_append_left _ (List.mem_of_getElem? (i := 0) rfl)))
  have inX1 : ∀ w ∈ wsX10, w ∈ wsX1_gainOf := fun w h => List.mem_cons_of_mem _ (List.mem_append_right _ h)
  have hl := lv_entry ([.ref (a 4), .int fr]) (n := 2) (Nat.le_of_ble_eq_true rfl)
  rw [lg_entry_eq]
  generalize (lg_sl ([.ref (a 4), .int fr]) ++ List.replicate (2 - (lg_sl ([.ref (a 4), .int fr])).length) Slot.unset).toArray = ls at hl ⊢
  have hl : lv_has ls 2 [(0, .ref (a 4)), (1, .int fr)] := hl
  refine lv_bipush (v := 100) hx hb dX1_gainOf_0 (by decide) ?_
  refine lv_iload_n hx hb dX1_gainOf_2 rfl (lv_at hl 1 rfl) ?_
  refine lv_isub hx hb dX1_gainOf_3 ?_
  have f1 : (100 - fr).toInt = (100) - (fr.toInt) := subC (show (100 : Int32).toInt = 100 from rfl) rfl (by omega) (by omega)
  refine lv_aload_n hx hb dX1_gainOf_4 rfl (lv_at hl 0 rfl) ?_
  refine va_get (D := (dC, dI)) (ci := 1) (v := .int gai) (C := RX1) (T := TX1) (N := 13) hx hb hts inX1 hown hK hP 0 rfl rfl 11 (by decide) lf43 (fun _ h9 => h9) rfl dX1_gainOf_5 ?_
  refine lv_imul hx hb dX1_gainOf_8 ?_
  obtain ⟨f2, f2_1, f2_2⟩ := mulB (a := (100 - fr)) (b := gai) (A := (100) - (fr.toInt)) (B := gai.toInt) (p := 100) (q := 100) f1 rfl (by omega) (by omega) (by omega) (by omega) (by decide)
  refine lv_bipush (v := 100) hx hb dX1_gainOf_9 (by decide) ?_
  refine lv_idiv hx hb dX1_gainOf_11 (by decide) ?_
  have f3 : (((100 - fr) * gai) / 100).toInt = (((100) - (fr.toInt)) * (gai.toInt)) / (100) := divC f2 (show (100 : Int32).toInt = 100 from rfl) (by omega) (by omega)
  exact W.iret (v := ((100 - fr) * gai) / 100) hx hb hr (fun tq ht hW => ⟨((100 - fr) * gai) / 100, rfl, ⟨(show 0 ≤ (((100 - fr) * gai) / 100).toInt from by (try rw [show (((100 - fr) * gai) / 100).toInt = (((100) - (fr.toInt)) * (gai.toInt)) / (100) from f3]); omega), (show (((100 - fr) * gai) / 100).toInt ≤ 100 - fr.toInt from by (try rw [show (((100 - fr) * gai) / 100).toInt = (((100) - (fr.toInt)) * (gai.toInt)) / (100) from f3]); omega), (show (((100 - fr) * gai) / 100).toInt ≤ 100 from by (try rw [show (((100 - fr) * gai) / 100).toInt = (((100) - (fr.toInt)) * (gai.toInt)) / (100) from f3]); omega), (show (((100 - fr) * gai) / 100).toInt = gn gai.toInt fr.toInt from by (try rw [show (((100 - fr) * gai) / 100).toInt = (((100) - (fr.toInt)) * (gai.toInt)) / (100) from f3]); rfl)⟩, ht⟩) (fun q h => by cases h) dX1_gainOf_12
set_option maxHeartbeats 4000000 in
set_option maxRecDepth 100000 in
theorem k_X1_walkPast2 (l : Launch) (dC : Nat → ClassId) (dI : Nat → Nat → Nat) (cI cZ cQ : ClassId) (a : Nat → Nat) (top : Nat → Int32) (str : Nat → Int32) (gho : Nat → Int32) (ghs : Nat → Int32) (pto : Nat → Int32) (cro : Nat → Int32) (pla : Nat → Int32) (wal : Nat → Int32) (fal : Nat → Int32) (tel : Int32) (gai : Int32) (day : Int32) (mar : Nat → Int32) (sz : Nat) (ro : Int32) (r_top : rg 48 (-1) (23) top) (r_str : rg 48 (0) (100) str) (r_gho : rg 48 (-1) (23) gho) (r_ghs : rg 48 (0) (100) ghs) (r_cro : rg 48 (0) (6) cro) (r_pla : rg 24 (-1) (47) pla) (r_fal : rg 11 (0) (30) fal) (r_gai : 0 ≤ gai.toInt ∧ gai.toInt ≤ 100) (r_day : 0 ≤ day.toInt ∧ day.toInt ≤ 400) (r_mar : rg 24 (0) (255) mar) (q0 : 0 ≤ ro.toInt) (q1 : ro.toInt ≤ 7) : KW l yX1_walkPast wsX1_walkPast { frames := 1, cells := 0, slots := 0, locals := 21 } (dC, dI) (TY cI cZ cQ) (wCor cI cZ cQ a top str gho ghs pto cro pla wal fal tel gai day mar) [.ref (a 4), .int ro] sz 0 0 (fun (r : Int32) (u : US) => (wkS top str gai.toInt (ro.toInt * 6) (ro.toInt * 6 + 6) (u.1 0) r.toInt) ∧ ((u.1 1) = upd wal ro.toNatClampNeg day) ∧ (rg 48 (0) (100) (u.1 0))) (fun u : US => (wCor cI cZ cQ a top (u.1 0) gho ghs pto cro pla (u.1 1) fal tel gai day mar)) := by
  refine Met.ofW (cc := cX1_walkPast) (maxL := 6) (ret := (some .int)) (by decide) rfl ?_
  intro p e s m args below meth c s₁ B hml hv
  obtain ⟨rfl, hsz, hP, hK, hD0, hN⟩ := hv
  have hx := B.exec
  have hb := B.bytes
  have hr := B.returns
  have hts := atoms_spec (ws := wsX1_walkPast) B.pre
  have hown : s.vm.findClass RX1 = some m.cls := findClass_of_methodNamed B.named
  have hlocks := B.notSynchronized
  have lf33 := hts (.fieldLink RX1 33 "PalaceOfRooms$Corners" "walkedOn" "[I") (List.mem_cons_of_mem _ (List.mem_append_left _ (List.mem_of_getElem? (i := 2) rfl)))
  have inX1 : ∀ w ∈ wsX10, w ∈ wsX1_walkPast := fun w h => List.mem_cons_of_mem _ (List.mem_append_right _ h)
  have lf62 := hts (.fieldLink RX1 62 "PalaceOfRooms$Corners" "day" "I") (List.mem_cons_of_mem _ (List.mem_append_left _ (List.mem_of_getElem? (i := 3) rfl)))
  have lf9 := hts (.fieldLink RX1 9 "PalaceOfRooms$Corners" "top" "[I") (List.mem_cons_of_mem _ (List.mem_append_left _ (List.mem_of_getElem? (i := 0) rfl)))
  have lf15 := hts (.fieldLink RX1 15 "PalaceOfRooms$Corners" "strength" "[I") (List.mem_cons_of_mem _ (List.mem_append_left _ (List.mem_of_getElem? (i := 1) rfl)))
  subst hsz
  have hD := hD0.self (sz := s.heap.size)
  generalize hAe : va_A (wCor cI cZ cQ a top str gho ghs pto cro pla wal fal tel gai day mar) s.heap.size = A at hD ⊢
  have hA : ∀ q : Nat, s.heap.size ≤ q → A q := fun q h => by rw [← hAe]; exact Or.inr h
  have hS : va_S A s.heap s.heap [] := va_S.rf
  have hl := lv_entry ([.ref (a 4), .int ro]) (n := 6) (Nat.le_of_ble_eq_true rfl)
  rw [lg_entry_eq]
  generalize (lg_sl ([.ref (a 4), .int ro]) ++ List.replicate (6 - (lg_sl ([.ref (a 4), .int ro])).length) Slot.unset).toArray = ls at hl ⊢
  have hl : lv_has ls 6 [(0, .ref (a 4)), (1, .int ro)] := hl
  refine lv_iconst (v := 0) hx hb dX1_walkPast_0 (by decide) ?_
  refine lv_istore_n (lv' := [(2, .int 0), (0, .ref (a 4)), (1, .int ro)]) hx hb dX1_walkPast_1 rfl hl (by decide) rfl (fun ls hl => ?_)
  refine lv_iload_n hx hb dX1_walkPast_2 rfl (lv_at hl 2 rfl) ?_
  refine lv_bipush (v := 6) hx hb dX1_walkPast_3 (by decide) ?_
  refine lv_imul hx hb dX1_walkPast_5 ?_
  have f1 : (ro * 6).toInt = (ro.toInt) * (6) := mulC rfl (show (6 : Int32).toInt = 6 from rfl) (by omega) (by omega)
  refine lv_topi (fun x2 ex2 => ?_)
  have ix2 : x2.toInt = (ro.toInt) * (6) := by rw [ex2]; exact f1
  refine lv_istore_n (lv' := [(3, .int x2), (2, .int 0), (0, .ref (a 4)), (1, .int ro)]) hx hb dX1_walkPast_6 rfl hl (by decide) rfl (fun ls hl => ?_)
  refine lv_iload_n hx hb dX1_walkPast_7 rfl (lv_at hl 0 rfl) ?_
  refine lv_istore (lv' := [(4, .int x2), (3, .int x2), (2, .int 0), (0, .ref (a 4)), (1, .int ro)]) hx hb dX1_walkPast_8 hl (by decide) rfl (fun ls hl => ?_)
  have L10 : ∀ (nn : Nat) (y10_2 : Int32) (y10_4 : Int32) (str_10 : Nat → Int32) (H : Heap) (locs : List Loc) (ls : Array Slot), (rg 48 (0) (100) str_10) → (0 ≤ (y10_4.toInt)) → ((y10_4.toInt) ≤ 48) → ((x2.toInt) ≤ (y10_4.toInt)) → ((y10_4.toInt) ≤ (x2.toInt) + 6) → (0 ≤ (y10_2.toInt)) → ((y10_2.toInt) ≤ 100 * ((y10_4.toInt) - (x2.toInt))) → (wkS top str gai.toInt (x2.toInt) (y10_4.toInt) str_10 (y10_2.toInt)) → (48 - (y10_4.toInt)).toNat < nn → va_P (dC, dI) vwCl (wCor cI cZ cQ a top str_10 gho ghs pto cro pla wal fal tel gai day mar) H → va_D A (wCor cI cZ cQ a top str_10 gho ghs pto cro pla wal fal tel gai day mar) → va_S A s.heap H locs → lv_has ls 6 [(0, .ref (a 4)), (1, .int ro), (2, .int y10_2), (3, .int x2), (4, .int y10_4)] → W p l e (headSpec wsX1_walkPast { frames := 1, cells := 0, slots := 0, locals := 21 }).room s m ([.ref (a 4), .int ro] : List Value).toArray below meth c H locs 0 0 (MQ below (va_Qi (fun (r : Int32) (u : US) => (wkS top str gai.toInt (ro.toInt * 6) (ro.toInt * 6 + 6) (u.1 0) r.toInt) ∧ ((u.1 1) = upd wal ro.toNatClampNeg day) ∧ (rg 48 (0) (100) (u.1 0))) (Bw (dC, dI) A (fun u : US => (wCor cI cZ cQ a top (u.1 0) gho ghs pto cro pla (u.1 1) fal tel gai day mar))) A) ([.ref (a 4), .int ro] : List Value).toArray s 0 0 A) (F0 m 10 ls []) := by
    intro nn
    induction nn with
    | zero =>
      intro y10_2 y10_4 str_10 H locs ls r_str_10 i10_0 i10_1 i10_2 i10_3 i10_4 i10_5 i10_6 hm10
      exact absurd hm10 (Nat.not_lt_zero _)
    | succ nn ih10 =>
      intro y10_2 y10_4 str_10 H locs ls r_str_10 i10_0 i10_1 i10_2 i10_3 i10_4 i10_5 i10_6 hm10 hP hD hS hl
      refine lv_iload hx hb dX1_walkPast_10 (lv_at hl 4 rfl) ?_
      refine lv_iload_n hx hb dX1_walkPast_12 rfl (lv_at hl 3 rfl) ?_
      refine lv_bipush (v := 6) hx hb dX1_walkPast_13 (by decide) ?_
      refine lv_iadd hx hb dX1_walkPast_15 ?_
      have f3 : (x2 + 6).toInt = (x2.toInt) + (6) := addC rfl (show (6 : Int32).toInt = 6 from rfl) (by omega) (by omega)
      refine lv_icmp_ge (tgt := 66) hx hb dX1_walkPast_16 (by decide) (fun c4 => ?_) (fun c4 => ?_)
      · have dc4 : (x2.toInt) + (6) ≤ y10_4.toInt := leC f3 rfl c4
        refine lv_aload_n hx hb dX1_walkPast_66 rfl (lv_at hl 0 rfl) ?_
        refine va_get (D := (dC, dI)) (ci := 1) (v := .ref (a 12)) (C := RX1) (T := TX1) (N := 13) hx hb hts inX1 hown hK hP 0 rfl rfl 8 (by decide) lf33 (fun _ h9 => h9) rfl dX1_walkPast_67 ?_
        refine lv_iload_n hx hb dX1_walkPast_70 rfl (lv_at hl 1 rfl) ?_
        refine lv_aload_n hx hb dX1_walkPast_71 rfl (lv_at hl 0 rfl) ?_
        refine va_get (D := (dC, dI)) (ci := 1) (v := .int day) (C := RX1) (T := TX1) (N := 13) hx hb hts inX1 hown hK hP 0 rfl rfl 12 (by decide) lf62 (fun _ h9 => h9) rfl dX1_walkPast_72 ?_
        have b5 : vp_in ro 8 := inC rfl (by omega) (by omega)
        refine va_iast hx hb hK hP hD hS 8 0 rfl rfl b5 dX1_walkPast_75 (fun H locs hP hD hS => ?_)
        obtain ⟨wal_u6, ewal_u6⟩ : ∃ f : Nat → Int32, f = upd wal ro.toNatClampNeg day := ⟨_, rfl⟩
        have hP : va_P (dC, dI) vwCl (wCor cI cZ cQ a top str_10 gho ghs pto cro pla wal_u6 fal tel gai day mar) H := by rw [ewal_u6]; exact hP
        have hD : va_D A (wCor cI cZ cQ a top str_10 gho ghs pto cro pla wal_u6 fal tel gai day mar) := by rw [ewal_u6]; exact hD
        refine lv_iload_n hx hb dX1_walkPast_76 rfl (lv_at hl 2 rfl) ?_
        exact W.iret (v := y10_2) hx hb hr (fun tq ht hW => ⟨⟨y10_2, (uS [str_10, wal_u6] 0 (fun _ => 0)), rfl, ⟨(show wkS top str gai.toInt (ro.toInt * 6) (ro.toInt * 6 + 6) str_10 y10_2.toInt from by exact wk_end i10_6 (by omega) (by omega)), (show wal_u6 = upd wal ro.toNatClampNeg day from by (first | assumption | (subst_vars; rfl))), r_str_10⟩, by rw [ht]; exact hP, hD⟩, hS.F ht⟩) hS.2.2 dX1_walkPast_77
      · have dc4 : y10_4.toInt < (x2.toInt) + (6) := nleC f3 rfl c4
        refine lv_aload_n hx hb dX1_walkPast_19 rfl (lv_at hl 0 rfl) ?_
        refine va_get (D := (dC, dI)) (ci := 1) (v := .ref (a 5)) (C := RX1) (T := TX1) (N := 13) hx hb hts inX1 hown hK hP 0 rfl rfl 1 (by decide) lf9 (fun _ h9 => h9) rfl dX1_walkPast_20 ?_
        refine lv_iload hx hb dX1_walkPast_23 (lv_at hl 4 rfl) ?_
        have b7 : vp_in y10_4 48 := inC rfl (by omega) (by omega)
        refine va_iald hx hb hK hP 1 0 rfl rfl b7 dX1_walkPast_25 ?_
        have g8 : -1 ≤ (top y10_4.toNatClampNeg).toInt ∧ (top y10_4.toNatClampNeg).toInt ≤ 23 := rg_at r_top b7
        refine lv_iconst (v := (-1)) hx hb dX1_walkPast_26 (by decide) ?_
        refine lv_icmp_eq (tgt := 60) hx hb dX1_walkPast_27 (by decide) (fun c9 => ?_) (fun c9 => ?_)
        · have dc9 : (top y10_4.toNatClampNeg).toInt = (-1) := eqC rfl (show ((-1) : Int32).toInt = (-1) from rfl) c9
          obtain ⟨z10, ez10⟩ : ∃ y : Int32, y = y10_4 + 1 := ⟨_, rfl⟩
          have iz10 : z10.toInt = y10_4.toInt + 1 := by rw [ez10]; exact addC rfl rfl (by omega) (by omega)
          refine lv_iinc (v := z10) (lv' := [(4, .int z10), (0, .ref (a 4)), (1, .int ro), (2, .int y10_2), (3, .int x2)]) hx hb dX1_walkPast_60 hl (k := 4) rfl (by rw [ez10]; rfl) (by decide) rfl (fun ls hl => ?_)
          refine lv_goto (tgt := 10) hx hb dX1_walkPast_63 (by decide) ?_
          exact ih10 y10_2 z10 str_10 _ _ _ r_str_10 (by omega) (by omega) (by omega) (by omega) (by omega) (by omega) (by (first | exact wk_none i10_6 (by omega) (by omega) (by omega) (by assumption) (by omega) | exact wk_top i10_6 (by omega) (by omega) (by omega) (by assumption) (by assumption) (by assumption) (by omega) (by omega) (by omega) | exact wk_init (by omega) (by first | rfl | omega))) (by omega) hP hD hS (lv_sub hl [1, 2, 3, 4, 0] rfl)
        · have dc9 : 0 ≤ (top y10_4.toNatClampNeg).toInt := ka_lo (by omega) (neC rfl (show ((-1) : Int32).toInt = (-1) from rfl) c9)
          refine lv_aload_n hx hb dX1_walkPast_30 rfl (lv_at hl 0 rfl) ?_
          refine lv_aload_n hx hb dX1_walkPast_31 rfl (lv_at hl 0 rfl) ?_
          refine va_get (D := (dC, dI)) (ci := 1) (v := .ref (a 6)) (C := RX1) (T := TX1) (N := 13) hx hb hts inX1 hown hK hP 0 rfl rfl 2 (by decide) lf15 (fun _ h9 => h9) rfl dX1_walkPast_32 ?_
          refine lv_iload hx hb dX1_walkPast_35 (lv_at hl 4 rfl) ?_
          have b11 : vp_in y10_4 48 := inC rfl (by omega) (by omega)
          refine va_iald hx hb hK hP 2 0 rfl rfl b11 dX1_walkPast_37 ?_
          have g12 : 0 ≤ (str_10 y10_4.toNatClampNeg).toInt ∧ (str_10 y10_4.toNatClampNeg).toInt ≤ 100 := rg_at r_str_10 b11
          refine rdV (As := [.int (str_10 y10_4.toNatClampNeg)]) (rest := []) ⟨hx, hb, hml, hown, hts⟩ (k_X1_gainOf2 l dC dI cI cZ cQ a top str_10 gho ghs pto cro pla wal fal tel gai day mar (str_10 y10_4.toNatClampNeg) r_top r_str_10 r_gho r_ghs r_cro r_pla r_fal r_gai r_day r_mar (by omega) (by omega)) (cwV 1 hts gX1_walkPast_X1_gainOf rfl rfl rfl (by decide +kernel) ⟨Nat.le_of_ble_eq_true rfl, Nat.le_of_ble_eq_true rfl⟩) hP hK hN [0, 1, 2, 3, 4, 5, 6, 7, 8, 9, 10, 11] rfl 0 1 rfl rfl rfl hl.1 rfl (Nat.le_of_ble_eq_true rfl) dX1_walkPast_38 ⟨Nat.le_of_ble_eq_true rfl, Nat.le_of_ble_eq_true rfl⟩ (fun r13 h14 => ?_)
          have h14 : (0 ≤ r13.toInt) ∧ (r13.toInt ≤ 100 - (str_10 y10_4.toNatClampNeg).toInt) ∧ (r13.toInt ≤ 100) ∧ (r13.toInt = gn gai.toInt (str_10 y10_4.toNatClampNeg).toInt) := h14
          obtain ⟨h14_0, h14_1, h14_2, h14_3⟩ := h14
          refine lv_istore (lv' := [(5, .int r13), (0, .ref (a 4)), (1, .int ro), (2, .int y10_2), (3, .int x2), (4, .int y10_4)]) hx hb dX1_walkPast_41 hl (by decide) rfl (fun ls hl => ?_)
          refine lv_aload_n hx hb dX1_walkPast_43 rfl (lv_at hl 1 rfl) ?_
          refine va_get (D := (dC, dI)) (ci := 1) (v := .ref (a 6)) (C := RX1) (T := TX1) (N := 13) hx hb hts inX1 hown hK hP 0 rfl rfl 2 (by decide) lf15 (fun _ h9 => h9) rfl dX1_walkPast_44 ?_
          refine lv_iload hx hb dX1_walkPast_47 (lv_at hl 5 rfl) ?_
          refine lv_dup2_11 hx hb dX1_walkPast_49 rfl rfl ?_
          have b15 : vp_in y10_4 48 := inC rfl (by omega) (by omega)
          refine va_iald hx hb hK hP 2 0 rfl rfl b15 dX1_walkPast_50 ?_
          have g16 : 0 ≤ (str_10 y10_4.toNatClampNeg).toInt ∧ (str_10 y10_4.toNatClampNeg).toInt ≤ 100 := rg_at r_str_10 b15
          refine lv_iload hx hb dX1_walkPast_51 (lv_at hl 0 rfl) ?_
          refine lv_iadd hx hb dX1_walkPast_53 ?_
          have f17 : ((str_10 y10_4.toNatClampNeg) + r13).toInt = ((str_10 y10_4.toNatClampNeg).toInt) + (r13.toInt) := addC rfl rfl (by omega) (by omega)
          refine lv_topi (fun x18 ex18 => ?_)
          have ix18 : x18.toInt = ((str_10 y10_4.toNatClampNeg).toInt) + (r13.toInt) := by rw [ex18]; exact f17
          have b19 : vp_in y10_4 48 := inC rfl (by omega) (by omega)
          have g20 : rg 48 (0) (100) (upd str_10 y10_4.toNatClampNeg x18) := rg_upd r_str_10 rfl (by omega) (by omega)
          refine va_iast hx hb hK hP hD hS 2 0 rfl rfl b19 dX1_walkPast_54 (fun H locs hP hD hS => ?_)
          obtain ⟨str_u21, estr_u21⟩ : ∃ f : Nat → Int32, f = upd str_10 y10_4.toNatClampNeg x18 := ⟨_, rfl⟩
          have rstr_u21 : rg 48 (0) (100) str_u21 := by rw [estr_u21]; exact g20
          have hP : va_P (dC, dI) vwCl (wCor cI cZ cQ a top str_u21 gho ghs pto cro pla wal fal tel gai day mar) H := by rw [estr_u21]; exact hP
          have hD : va_D A (wCor cI cZ cQ a top str_u21 gho ghs pto cro pla wal fal tel gai day mar) := by rw [estr_u21]; exact hD
          refine lv_iload_n hx hb dX1_walkPast_55 rfl (lv_at hl 3 rfl) ?_
          refine lv_iload hx hb dX1_walkPast_56 (lv_at hl 0 rfl) ?_
          refine lv_iadd hx hb dX1_walkPast_58 ?_
          have f22 : (y10_2 + r13).toInt = (y10_2.toInt) + (r13.toInt) := addC rfl rfl (by omega) (by omega)
          refine lv_topi (fun x23 ex23 => ?_)
          have ix23 : x23.toInt = (y10_2.toInt) + (r13.toInt) := by rw [ex23]; exact f22
          refine lv_istore_n (lv' := [(2, .int x23), (5, .int r13), (0, .ref (a 4)), (1, .int ro), (3, .int x2), (4, .int y10_4)]) hx hb dX1_walkPast_59 rfl hl (by decide) rfl (fun ls hl => ?_)
          obtain ⟨z24, ez24⟩ : ∃ y : Int32, y = y10_4 + 1 := ⟨_, rfl⟩
          have iz24 : z24.toInt = y10_4.toInt + 1 := by rw [ez24]; exact addC rfl rfl (by omega) (by omega)
          refine lv_iinc (v := z24) (lv' := [(4, .int z24), (2, .int x23), (5, .int r13), (0, .ref (a 4)), (1, .int ro), (3, .int x2)]) hx hb dX1_walkPast_60 hl (k := 5) rfl (by rw [ez24]; rfl) (by decide) rfl (fun ls hl => ?_)
          refine lv_goto (tgt := 10) hx hb dX1_walkPast_63 (by decide) ?_
          exact ih10 x23 z24 str_u21 _ _ _ rstr_u21 (by omega) (by omega) (by omega) (by omega) (by omega) (by omega) (by (first | exact wk_none i10_6 (by omega) (by omega) (by omega) (by assumption) (by omega) | exact wk_top i10_6 (by omega) (by omega) (by omega) (by assumption) (by assumption) (by assumption) (by omega) (by omega) (by omega) | exact wk_init (by omega) (by first | rfl | omega))) (by omega) hP hD hS (lv_sub hl [3, 4, 1, 5, 0] rfl)
  have kc25 : (0 : Int32).toInt = 0 := rfl
  exact L10 _ 0 x2 str _ _ _ r_str (by omega) (by omega) (by omega) (by omega) (by omega) (by omega) (by (first | exact wk_init (by omega) (by first | rfl | omega) | exact wk_none i10_6 (by omega) (by omega) (by omega) (by assumption) (by omega) | exact wk_top i10_6 (by omega) (by omega) (by omega) (by assumption) (by assumption) (by assumption) (by omega) (by omega) (by omega))) (Nat.lt_succ_self _) hP hD hS (lv_sub hl [3, 4, 2, 1, 0] rfl)
