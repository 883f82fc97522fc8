section
-- ===== COUNTS =====
theorem st_stepX {top : Nat → Int32} {lo N N' : Nat} {o x : Int32} {L R : Int} (h : L = stF top lo N) (ex : x = top o.toNatClampNeg) (ho : o.toNatClampNeg = lo + N) (hR : (x = -1 ∧ R = L) ∨ (¬ x = -1 ∧ R = L + 1)) (hN : N' = N + 1) : R = stF top lo N' := st_step h ho (by rw [← ex]; exact hR) hN
theorem st_endN {top : Nat → Int32} {lo N N' : Nat} {L : Int} (h : L = stF top lo N) (e : N' = N) : L = stF top lo N' := by subst e; exact h
theorem st_add {t : Nat → Int32} {a : Nat} : ∀ k : Nat, stF t 0 (a + k) = stF t 0 a + stF t a k
  | 0 => by show stF t 0 a = stF t 0 a + 0; omega
  | k + 1 => by
    show stF t 0 (a + k) + (if t (0 + (a + k)) = -1 then 0 else 1) = stF t 0 a + (stF t a k + (if t (a + k) = -1 then 0 else 1))
    rw [st_add k, Nat.zero_add]; omega
theorem st_sum {t : Nat → Int32} {N N' M : Nat} {L S R : Int} (h : L = stF t 0 N) (hs : S = stF t M 6) (hM : M = N) (hR : R = L + S) (hN : N' = N + 6) : R = stF t 0 N' := by
  subst hM; subst hN; rw [st_add, hR, h, hs]
def asF (top str : Nat → Int32) : Nat → Int
  | 0 => 0
  | k + 1 => asF top str k + (if top k = -1 then 0 else (str k).toInt)
theorem as_0 {top str : Nat → Int32} {L : Int} {N : Nat} (hL : L = 0) (hN : N = 0) : L = asF top str N := by subst hN; exact hL
theorem as_s {top str : Nat → Int32} {L R : Int} {N N' : Nat} {o : Int32} (h : L = asF top str N) (ho : o.toNatClampNeg = N) (hR : (top o.toNatClampNeg = -1 ∧ R = L) ∨ (¬ top o.toNatClampNeg = -1 ∧ R = L + (str o.toNatClampNeg).toInt)) (hN : N' = N + 1) : R = asF top str N' := by
  subst hN; rw [ho] at hR
  show R = asF top str N + (if top N = -1 then 0 else (str N).toInt)
  rcases hR with ⟨a, b⟩ | ⟨a, b⟩
  · rw [if_pos a, ← h]; omega
  · rw [if_neg a, ← h]; exact b
theorem as_e {top str : Nat → Int32} {L : Int} {N N' : Nat} (h : L = asF top str N) (e : N' = N) : L = asF top str N' := by subst e; exact h
theorem as_eq {t t2 s s2 : Nat → Int32} (h : ∀ j, j < 48 → t j = t2 j) (hs : ∀ j, j < 48 → t j ≠ -1 → s j = s2 j) : ∀ k, k ≤ 48 → asF t s k = asF t2 s2 k
  | 0, _ => rfl
  | k + 1, hk => by
    show asF t s k + (if t k = -1 then 0 else (s k).toInt) = asF t2 s2 k + (if t2 k = -1 then 0 else (s2 k).toInt)
    rw [as_eq h hs k (by omega), ← h k (by omega)]
    by_cases z : t k = -1
    · rw [if_pos z, if_pos z]
    · rw [if_neg z, if_neg z, hs k (by omega) z]
def spCnt (day doo : Int32) (top gho str : Nat → Int32) (len lin w r : Int32) : Prop := (w.toInt = 0 ∧ r = day) ∨ (w.toInt = 1 ∧ r = doo) ∨ (w.toInt = 2 ∧ r.toInt = stF top 0 48) ∨ (w.toInt = 3 ∧ r.toInt = stF gho 0 48) ∨ (w.toInt = 4 ∧ r.toInt = asF top str 48) ∨ (w.toInt = 5 ∧ r = len) ∨ (w.toInt = 6 ∧ r = lin) ∨ ((w.toInt < 0 ∨ 6 < w.toInt) ∧ r = -3)
theorem spCnt_rel {few A B top str gho ghs pto wal mt ms mg mf mp mw mo we L : Nat → Int32} {day mday doo n len mbyt ag ap li ls w r r2 : Int32} (R : crR top str gho ghs pto wal mt ms mg mf mp mw) (ed : day = mday) (Rd : doR few doo A B n) (el : len = mbyt) (Rb : bkR mo we ag ap li L ls) (h1 : spCnt day doo top gho str len li w r) (h2 : spCnt mday n mt mg ms mbyt ls w r2) : r = r2 := by
  have e1 : stF top 0 48 = stF mt 0 48 := st_eq (fun j hj => (R.1 j hj).1) 48 (by omega)
  have e2 : stF gho 0 48 = stF mg 0 48 := st_eq (fun j hj => (R.1 j hj).2.1) 48 (by omega)
  have e3 : asF top str 48 = asF mt ms 48 := as_eq (fun j hj => (R.1 j hj).1) (fun j hj => (R.1 j hj).2.2.2.1) 48 (by omega)
  have e4 := Rd.1
  have e5 := Rb.1
  rcases h1 with ⟨a, b⟩ | ⟨a, b⟩ | ⟨a, b⟩ | ⟨a, b⟩ | ⟨a, b⟩ | ⟨a, b⟩ | ⟨a, b⟩ | ⟨a, b⟩ <;> rcases h2 with ⟨c, d⟩ | ⟨c, d⟩ | ⟨c, d⟩ | ⟨c, d⟩ | ⟨c, d⟩ | ⟨c, d⟩ | ⟨c, d⟩ | ⟨c, d⟩ <;> first | (exfalso; omega) | skip
  · rw [b, d, ed]
  · rw [b, d, e4]
  · exact Int32.toInt_inj.mp (b.trans (e1.trans d.symm))
  · exact Int32.toInt_inj.mp (b.trans (e2.trans d.symm))
  · exact Int32.toInt_inj.mp (b.trans (e3.trans d.symm))
  · rw [b, d, el]
  · rw [b, d, e5]
  · rw [b, d]
-- ===== DUE =====
def duB (ev last day : Int32) : Bool := decide (¬ ev = -1 ∧ (last = -1 ∨ ¬ day - last < ev))
def duM (ev last day : Int32) : Bool := decide (0 < ev.toInt ∧ (last = -1 ∨ ¬ day - last < ev))
def dF (b : Nat → Bool) : Nat → Int32
  | 0 => 0
  | k + 1 => if b k then dF b k ||| (1 <<< (nI k &&& 31)) else dF b k
theorem du_1 {ev last day e l : Int32} (he : e = ev) (hl : l = last) (h1 : ¬ e = -1) (h2 : l = -1) : duB ev last day = true := by subst he; subst hl; exact decide_eq_true ⟨h1, .inl h2⟩
theorem du_2 {ev last day e l : Int32} (he : e = ev) (hl : l = last) (h1 : ¬ e = -1) (h2 : ¬ day - l < e) : duB ev last day = true := by subst he; subst hl; exact decide_eq_true ⟨h1, .inr h2⟩
theorem du_3 {ev last day e : Int32} (he : e = ev) (h1 : e = -1) : duB ev last day = false := by subst he; exact decide_eq_false (fun q => q.1 h1)
theorem du_4 {ev last day e l : Int32} (he : e = ev) (hl : l = last) (h1 : ¬ l = -1) (h2 : day - l < e) : duB ev last day = false := by subst he; subst hl; exact decide_eq_false (fun q => q.2.elim h1 (fun z => z h2))
theorem dF_0 {b : Nat → Bool} {v : Int32} {k : Nat} (hv : v = 0) (hk : k = 0) : v = dF b k := by subst hk; exact hv
theorem dF_y {b : Nat → Bool} {v x y : Int32} {k k' : Nat} (h : v = dF b k) (hb : b y.toNatClampNeg = true) (hx : x = v ||| (1 <<< (y &&& 31))) (hy : y.toInt = k) (hk : k' = k + 1) : x = dF b k' := by
  subst hk
  have ey : y = nI k := by
    have := nI_toNat (y := y) (by omega)
    rw [← this]; congr 1; omega
  have ec : y.toNatClampNeg = k := by rw [clC hy]; omega
  rw [ec] at hb
  show x = if b k then dF b k ||| (1 <<< (nI k &&& 31)) else dF b k
  rw [hb, if_pos rfl, ← h, ← ey]; exact hx
theorem dF_n {b : Nat → Bool} {v x y : Int32} {k k' : Nat} (h : v = dF b k) (hb : b y.toNatClampNeg = false) (hx : x = v) (hy : y.toInt = k) (hk : k' = k + 1) : x = dF b k' := by
  subst hk
  have ec : y.toNatClampNeg = k := by rw [clC hy]; omega
  rw [ec] at hb
  show x = if b k then dF b k ||| (1 <<< (nI k &&& 31)) else dF b k
  rw [hb, if_neg (by decide), ← h]; exact hx
theorem dF_e {b : Nat → Bool} {v : Int32} {k k' : Nat} (h : v = dF b k) (e : k' = k) : v = dF b k' := by subst e; exact h
theorem dF_eq {b c : Nat → Bool} {N : Nat} (h : ∀ j, j < N → b j = c j) : ∀ k, k ≤ N → dF b k = dF c k
  | 0, _ => rfl
  | k + 1, hk => by
    show (if b k then dF b k ||| (1 <<< (nI k &&& 31)) else dF b k) = (if c k then dF c k ||| (1 <<< (nI k &&& 31)) else dF c k)
    rw [dF_eq h k (by omega), h k (by omega)]
def spDueC (we wal : Nat → Int32) (day r : Int32) : Prop := r = dF (fun j => duB (we j) (wal j) day) 8
def spDueM (L : Nat → Int32) (ls : Int32) (wal : Nat → Int32) (day r : Int32) : Prop := r = dF (fun j => duM (laF L 3 (nI j) 0 ls.toInt.toNat) (wal j) day) 8
theorem bk_i {mo we L : Nat → Int32} {ag ap li ls : Int32} (h : bkR mo we ag ap li L ls) : bkL mo we ag ap L ls.toInt.toNat := by
  obtain ⟨_, i, hi, e, b⟩ := h
  rw [e, nI_toInt (by omega), show ((i : Int)).toNat = i by omega]; exact b
theorem spDue_rel {top str gho ghs pto wal mt ms mg mf mp mw mo we L : Nat → Int32} {day mday ag ap li ls r r2 : Int32} (R : crR top str gho ghs pto wal mt ms mg mf mp mw) (ed : day = mday) (Rb : bkR mo we ag ap li L ls) (h1 : spDueC we wal day r) (h2 : spDueM L ls mw mday r2) : r = r2 := by
  subst ed
  have B := bk_i Rb
  unfold spDueC at h1
  unfold spDueM at h2
  rw [h1, h2]
  refine dF_eq (N := 8) (fun j hj => ?_) 8 (by decide)
  show duB (we j) (wal j) day = duM (laF L 3 (nI j) 0 ls.toInt.toNat) (mw j) day
  rw [R.2 j hj, B.2.1 j hj]
  rcases la_wi (r := L) (so := 3) (ro := nI j) (wi := 0) _ B.2.2.2.2 with ⟨a, b⟩ | ⟨a, b⟩
  · rw [a, b]
    unfold duB duM
    rw [decide_eq_false (fun q => q.1 rfl), decide_eq_false (fun q => absurd q.1 (by decide))]
  · rw [a]
    have p := b.2.1 (.inr rfl)
    unfold duB duM
    have i1 : (¬ laF L 3 (nI j) (-1) ls.toInt.toNat = -1) ↔ 0 < (laF L 3 (nI j) (-1) ls.toInt.toNat).toInt := ⟨fun _ => by omega, fun q => nn_m1 (by omega)⟩
    by_cases c : 0 < (laF L 3 (nI j) (-1) ls.toInt.toNat).toInt ∧ (mw j = -1 ∨ ¬ day - mw j < laF L 3 (nI j) (-1) ls.toInt.toNat)
    · rw [decide_eq_true c, decide_eq_true ⟨i1.mpr c.1, c.2⟩]
    · rw [decide_eq_false c, decide_eq_false (fun q => c ⟨i1.mp q.1, q.2⟩)]
-- lastOf
theorem lo_0 {L : Nat → Int32} {so ro wi v : Int32} {k : Nat} (hv : v = wi) (hk : k = 0) : v = laF L so ro wi k := by subst hk; exact hv
theorem lo_s {L : Nat → Int32} {so ro wi v w y a b c : Int32} {k k' : Nat} (h : v = laF L so ro wi k) (hy : y.toInt = k) (ha : a.toInt = 3 * y.toInt) (hb : b.toInt = 3 * y.toInt + 1) (hc : c.toInt = 3 * y.toInt + 2) (hw : (L a.toNatClampNeg = so ∧ L b.toNatClampNeg = ro ∧ w = L c.toNatClampNeg) ∨ (¬ (L a.toNatClampNeg = so ∧ L b.toNatClampNeg = ro) ∧ w = v)) (hk : k' = k + 1) : w = laF L so ro wi k' := by
  subst hk
  rw [show a.toNatClampNeg = 3 * k by rw [clC ha]; omega, show b.toNatClampNeg = 3 * k + 1 by rw [clC hb]; omega, show c.toNatClampNeg = 3 * k + 2 by rw [clC hc]; omega] at hw
  show w = if L (3 * k) = so ∧ L (3 * k + 1) = ro then L (3 * k + 2) else laF L so ro wi k
  rcases hw with ⟨p, q, r⟩ | ⟨p, r⟩
  · rw [if_pos ⟨p, q⟩]; exact r
  · rw [if_neg p, r]; exact h
theorem lo_e {L : Nat → Int32} {so ro wi v : Int32} {k k' : Nat} (h : v = laF L so ro wi k) (e : k' = k) : v = laF L so ro wi k' := by subst e; exact h
theorem dm_1 {L wal : Nat → Int32} {ls day y e : Int32} (he : e = laF L 3 y 0 ls.toInt.toNat) (h0 : 0 ≤ y.toInt) (h1 : 0 < e.toInt) (h2 : wal y.toNatClampNeg = -1 ∨ ¬ day - wal y.toNatClampNeg < e) : duM (laF L 3 (nI y.toNatClampNeg) 0 ls.toInt.toNat) (wal y.toNatClampNeg) day = true := by
  rw [clC (x := y) rfl] at h2 ⊢
  rw [nI_toNat h0, ← he]
  exact decide_eq_true ⟨h1, h2⟩
theorem dm_0 {L wal : Nat → Int32} {ls day y e : Int32} (he : e = laF L 3 y 0 ls.toInt.toNat) (h0 : 0 ≤ y.toInt) (h1 : e.toInt ≤ 0 ∨ (¬ wal y.toNatClampNeg = -1 ∧ day - wal y.toNatClampNeg < e)) : duM (laF L 3 (nI y.toNatClampNeg) 0 ls.toInt.toNat) (wal y.toNatClampNeg) day = false := by
  rw [clC (x := y) rfl] at h1 ⊢
  rw [nI_toNat h0, ← he]
  refine decide_eq_false (fun q => ?_)
  rcases h1 with h1 | h1
  · have := q.1; omega
  · exact q.2.elim h1.1 (fun z => z h1.2)
theorem or0 {x v : Int32} (h : x = v ||| 0) : x = v := by
  rw [h]; exact Int32.or_zero
set_option maxHeartbeats 4000000 in
set_option maxRecDepth 100000 in
theorem k_X9_filled2 (l : Launch) (dC : Nat → ClassId) (dI : Nat → Nat → Nat) (cI cZ cQ : ClassId) (ar0 : Nat) (ln : Nat) (fv : Nat → Int32) (q0 : ln ≤ 2048) : KR l yX9_filled wsX9_filled { frames := 0, cells := 0, slots := 0, locals := 0 } (dC, dI) (TY cI cZ cQ) (wArr cI cZ cQ ar0 ln fv) [.ref ar0] (fun r : Int32 => (0 ≤ r.toInt) ∧ (r.toInt ≤ 2048) ∧ (r.toInt = stF fv 0 ln)) := by
  refine Met.ofW (cc := cX9_filled) (maxL := 6) (ret := (some .int)) (by decide) rfl ?_
  intro p e s m args below meth c s₁ B hml hv
  obtain ⟨rfl, hP, hK, hN⟩ := hv
  have hx := B.exec
  have hb := B.bytes
  have hr := B.returns
  have hts := atoms_spec (ws := wsX9_filled) B.pre
  have hown : s.vm.findClass RX9 = some m.cls := findClass_of_methodNamed B.named
  have hlocks := B.notSynchronized
  have hl := lv_entry ([.ref ar0]) (n := 6) (Nat.le_of_ble_eq_true rfl)
  rw [lg_entry_eq]
  generalize (lg_sl ([.ref ar0]) ++ List.replicate (6 - (lg_sl ([.ref ar0])).length) Slot.unset).toArray = ls at hl ⊢
  have hl : lv_has ls 6 [(0, .ref ar0)] := hl
  refine lv_iconst (v := 0) hx hb dX9_filled_0 (by decide) ?_
  refine lv_istore_n (lv' := [(1, .int 0), (0, .ref ar0)]) hx hb dX9_filled_1 rfl hl (by decide) rfl (fun ls hl => ?_)
  refine lv_aload_n hx hb dX9_filled_2 rfl (lv_at hl 1 rfl) ?_
  refine lv_astore_n (lv' := [(2, .ref ar0), (1, .int 0), (0, .ref ar0)]) hx hb dX9_filled_3 rfl hl (by decide) rfl (fun ls hl => ?_)
  refine lv_aload_n hx hb dX9_filled_4 rfl (lv_at hl 0 rfl) ?_
  refine va_alen (v := nI ln) hx hb hK hP 0 0 rfl rfl rfl dX9_filled_5 ?_
  refine lv_topi (fun x1 ex1 => ?_)
  have ix1 : x1.toInt = (ln : Int) := by rw [ex1]; exact (nI_toInt (by omega))
  refine lv_istore_n (lv' := [(3, .int x1), (2, .ref ar0), (1, .int 0), (0, .ref ar0)]) hx hb dX9_filled_6 rfl hl (by decide) rfl (fun ls hl => ?_)
  refine lv_iconst (v := 0) hx hb dX9_filled_7 (by decide) ?_
  refine lv_istore (lv' := [(4, .int 0), (3, .int x1), (2, .ref ar0), (1, .int 0), (0, .ref ar0)]) hx hb dX9_filled_8 hl (by decide) rfl (fun ls hl => ?_)
  have L10 : ∀ (nn : Nat) (y10_1 : Int32) (y10_4 : Int32) (ls : Array Slot), (0 ≤ (y10_4.toInt)) → ((y10_4.toInt) ≤ 2048) → (0 ≤ (y10_1.toInt)) → ((y10_1.toInt) ≤ 2048) → ((y10_1.toInt) ≤ (y10_4.toInt)) → ((y10_4.toInt) ≤ (ln : Int)) → ((y10_1.toInt) = stF fv 0 ((y10_4.toInt)).toNat) → (2048 - (y10_4.toInt)).toNat < nn → lv_has ls 6 [(1, .int y10_1), (2, .ref ar0), (3, .int x1), (4, .int y10_4)] → W p l e (headSpec wsX9_filled { frames := 0, cells := 0, slots := 0, locals := 0 }).room s m ([.ref ar0] : List Value).toArray below meth c s.heap [] 0 0 (MQ below (QR (fun r : Int32 => (0 ≤ r.toInt) ∧ (r.toInt ≤ 2048) ∧ (r.toInt = stF fv 0 ln))) ([.ref ar0] : List Value).toArray s 0 0 (fun _ => False)) (F0 m 10 ls []) := by
    intro nn
    induction nn with
    | zero =>
      intro y10_1 y10_4 ls i10_0 i10_1 i10_2 i10_3 i10_4 i10_5 i10_6 hm10
      exact absurd hm10 (Nat.not_lt_zero _)
    | succ nn ih10 =>
      intro y10_1 y10_4 ls i10_0 i10_1 i10_2 i10_3 i10_4 i10_5 i10_6 hm10 hl
      refine lv_iload hx hb dX9_filled_10 (lv_at hl 3 rfl) ?_
      refine lv_iload_n hx hb dX9_filled_12 rfl (lv_at hl 2 rfl) ?_
      refine lv_icmp_ge (tgt := 37) hx hb dX9_filled_13 (by decide) (fun c2 => ?_) (fun c2 => ?_)
      · have dc2 : x1.toInt ≤ y10_4.toInt := leC rfl rfl c2
        refine lv_iload_n hx hb dX9_filled_37 rfl (lv_at hl 0 rfl) ?_
        exact W.iret (v := y10_1) hx hb hr (fun tq ht hW => ⟨y10_1, rfl, ⟨(show 0 ≤ y10_1.toInt from by omega), (show y10_1.toInt ≤ 2048 from by omega), (show y10_1.toInt = stF fv 0 ln from by exact st_endN i10_6 (by omega))⟩, ht⟩) (fun q h => by cases h) dX9_filled_38
      · have dc2 : y10_4.toInt < x1.toInt := nleC rfl rfl c2
        refine lv_aload_n hx hb dX9_filled_16 rfl (lv_at hl 1 rfl) ?_
        refine lv_iload hx hb dX9_filled_17 (lv_at hl 3 rfl) ?_
        have b3 : vp_in y10_4 ln := inC rfl (by omega) (by omega)
        refine va_iald hx hb hK hP 0 0 rfl rfl b3 dX9_filled_19 ?_
        refine lv_topi (fun x4 ex4 => ?_)
        have ix4 : x4.toInt = (fv y10_4.toNatClampNeg).toInt := by rw [ex4]
        refine lv_istore (lv' := [(5, .int x4), (1, .int y10_1), (2, .ref ar0), (3, .int x1), (4, .int y10_4)]) hx hb dX9_filled_20 hl (by decide) rfl (fun ls hl => ?_)
        refine lv_iload hx hb dX9_filled_22 (lv_at hl 0 rfl) ?_
        refine lv_iconst (v := (-1)) hx hb dX9_filled_24 (by decide) ?_
        refine lv_icmp_eq (tgt := 31) hx hb dX9_filled_25 (by decide) (fun c5 => ?_) (fun c5 => ?_)
        · have dc5 : x4.toInt = (-1) := eqC rfl (show ((-1) : Int32).toInt = (-1) from rfl) c5
          obtain ⟨z6, ez6⟩ : ∃ y : Int32, y = y10_4 + 1 := ⟨_, rfl⟩
          have iz6 : z6.toInt = y10_4.toInt + 1 := by rw [ez6]; exact addC rfl rfl (by omega) (by omega)
          refine lv_iinc (v := z6) (lv' := [(4, .int z6), (5, .int x4), (1, .int y10_1), (2, .ref ar0), (3, .int x1)]) hx hb dX9_filled_31 hl (k := 4) rfl (by rw [ez6]; rfl) (by decide) rfl (fun ls hl => ?_)
          refine lv_goto (tgt := 10) hx hb dX9_filled_34 (by decide) ?_
          exact ih10 y10_1 z6 _ (by omega) (by omega) (by omega) (by omega) (by omega) (by omega) (by (first | exact st_stepX (o := y10_4) i10_6 (by assumption) (by first | exact clC (x := y10_4) rfl | (rw [clC (x := y10_4) rfl]; omega)) (by first | exact Or.inl ⟨by assumption, by first | rfl | omega⟩ | exact Or.inr ⟨by assumption, by omega⟩) (by omega) | exact st_init (by first | rfl | omega) (by first | rfl | omega))) (by omega) (lv_sub hl [2, 3, 4, 0] rfl)
        · have dc5 : x4.toInt ≠ (-1) := neC rfl (show ((-1) : Int32).toInt = (-1) from rfl) c5
          obtain ⟨z7, ez7⟩ : ∃ y : Int32, y = y10_1 + 1 := ⟨_, rfl⟩
          have iz7 : z7.toInt = y10_1.toInt + 1 := by rw [ez7]; exact addC rfl rfl (by omega) (by omega)
          refine lv_iinc (v := z7) (lv' := [(1, .int z7), (5, .int x4), (2, .ref ar0), (3, .int x1), (4, .int y10_4)]) hx hb dX9_filled_28 hl (k := 1) rfl (by rw [ez7]; rfl) (by decide) rfl (fun ls hl => ?_)
          obtain ⟨z8, ez8⟩ : ∃ y : Int32, y = y10_4 + 1 := ⟨_, rfl⟩
          have iz8 : z8.toInt = y10_4.toInt + 1 := by rw [ez8]; exact addC rfl rfl (by omega) (by omega)
          refine lv_iinc (v := z8) (lv' := [(4, .int z8), (1, .int z7), (5, .int x4), (2, .ref ar0), (3, .int x1)]) hx hb dX9_filled_31 hl (k := 4) rfl (by rw [ez8]; rfl) (by decide) rfl (fun ls hl => ?_)
          refine lv_goto (tgt := 10) hx hb dX9_filled_34 (by decide) ?_
          exact ih10 z7 z8 _ (by omega) (by omega) (by omega) (by omega) (by omega) (by omega) (by (first | exact st_stepX (o := y10_4) i10_6 (by assumption) (by first | exact clC (x := y10_4) rfl | (rw [clC (x := y10_4) rfl]; omega)) (by first | exact Or.inl ⟨by assumption, by first | rfl | omega⟩ | exact Or.inr ⟨by assumption, by omega⟩) (by omega) | exact st_init (by first | rfl | omega) (by first | rfl | omega))) (by omega) (lv_sub hl [1, 3, 4, 0] rfl)
  have kc9 : (0 : Int32).toInt = 0 := rfl
  exact L10 _ 0 0 _ (by omega) (by omega) (by omega) (by omega) (by omega) (by omega) (by (first | exact st_stepX (o := y10_4) i10_6 (by assumption) (by first | exact clC (x := y10_4) rfl | (rw [clC (x := y10_4) rfl]; omega)) (by first | exact Or.inl ⟨by assumption, by first | rfl | omega⟩ | exact Or.inr ⟨by assumption, by omega⟩) (by omega) | exact st_init (by first | rfl | omega) (by first | rfl | omega))) (Nat.lt_succ_self _) (lv_sub hl [3, 2, 1, 0] rfl)
set_option maxHeartbeats 4000000 in
set_option maxRecDepth 100000 in
theorem k_X1_allStrength2 (l : Launch) (dC : Nat → ClassId) (dI : Nat → Nat → Nat) (cI cZ cQ : ClassId) (a : Nat → Nat) (top : Nat → Int32) (str : Nat → Int32) (gho : Nat → Int32) (ghs : Nat → Int32) (pto : Nat → Int32) (cro : Nat → Int32) (pla : Nat → Int32) (wal : Nat → Int32) (fal : Nat → Int32) (tel : Int32) (gai : Int32) (day : Int32) (mar : Nat → Int32) (r_top : rg 48 (-1) (23) top) (r_str : rg 48 (0) (100) str) (r_gho : rg 48 (-1) (23) gho) (r_ghs : rg 48 (0) (100) ghs) (r_cro : rg 48 (0) (6) cro) (r_pla : rg 24 (-1) (47) pla) (r_fal : rg 11 (0) (30) fal) (r_gai : 0 ≤ gai.toInt ∧ gai.toInt ≤ 100) (r_day : 0 ≤ day.toInt ∧ day.toInt ≤ 400) (r_mar : rg 24 (0) (255) mar) : KR l yX1_allStrength wsX1_allStrength { frames := 0, cells := 0, slots := 0, locals := 0 } (dC, dI) (TY cI cZ cQ) (wCor cI cZ cQ a top str gho ghs pto cro pla wal fal tel gai day mar) [.ref (a 4)] (fun r : Int32 => (0 ≤ r.toInt) ∧ (r.toInt ≤ 4800) ∧ (r.toInt = asF top str 48)) := by
  refine Met.ofW (cc := cX1_allStrength) (maxL := 3) (ret := (some .int)) (by decide) rfl ?_
  intro p e s m args below meth c s₁ B hml hv
  obtain ⟨rfl, hP, hK, hN⟩ := hv
  have hx := B.exec
  have hb := B.bytes
  have hr := B.returns
  have hts := atoms_spec (ws := wsX1_allStrength) B.pre
  have hown : s.vm.findClass RX1 = some m.cls := findClass_of_methodNamed B.named
  have hlocks := B.notSynchronized
  have lf9 := hts (.fieldLink RX1 9 "PalaceOfRooms$Corners" "top" "[I") (List.mem_cons_of_mem _ (List.mem_append_left _ (List.mem_of_getElem? (i := 0) rfl)))
  have inX1 : ∀ w ∈ wsX10, w ∈ wsX1_allStrength := fun w h => List.mem_cons_of_mem _ (List.mem_append_right _ h)
  have lf15 := hts (.fieldLink RX1 15 "PalaceOfRooms$Corners" "strength" "[I") (List.mem_cons_of_mem _ (List.mem_append_left _ (List.mem_of_getElem? (i := 1) rfl)))
  have hl := lv_entry ([.ref (a 4)]) (n := 3) (Nat.le_of_ble_eq_true rfl)
  rw [lg_entry_eq]
  generalize (lg_sl ([.ref (a 4)]) ++ List.replicate (3 - (lg_sl ([.ref (a 4)])).length) Slot.unset).toArray = ls at hl ⊢
  have hl : lv_has ls 3 [(0, .ref (a 4))] := hl
  refine lv_iconst (v := 0) hx hb dX1_allStrength_0 (by decide) ?_
  refine lv_istore_n (lv' := [(1, .int 0), (0, .ref (a 4))]) hx hb dX1_allStrength_1 rfl hl (by decide) rfl (fun ls hl => ?_)
  refine lv_iconst (v := 0) hx hb dX1_allStrength_2 (by decide) ?_
  refine lv_istore_n (lv' := [(2, .int 0), (1, .int 0), (0, .ref (a 4))]) hx hb dX1_allStrength_3 rfl hl (by decide) rfl (fun ls hl => ?_)
  have L4 : ∀ (nn : Nat) (y4_1 : Int32) (y4_2 : Int32) (ls : Array Slot), (0 ≤ (y4_2.toInt)) → ((y4_2.toInt) ≤ 48) → (0 ≤ (y4_1.toInt)) → ((y4_1.toInt) ≤ 4800) → ((y4_1.toInt) ≤ 100 * (y4_2.toInt)) → ((y4_1.toInt) = asF top str ((y4_2.toInt)).toNat) → (48 - (y4_2.toInt)).toNat < nn → lv_has ls 3 [(0, .ref (a 4)), (1, .int y4_1), (2, .int y4_2)] → W p l e (headSpec wsX1_allStrength { frames := 0, cells := 0, slots := 0, locals := 0 }).room s m ([.ref (a 4)] : List Value).toArray below meth c s.heap [] 0 0 (MQ below (QR (fun r : Int32 => (0 ≤ r.toInt) ∧ (r.toInt ≤ 4800) ∧ (r.toInt = asF top str 48))) ([.ref (a 4)] : List Value).toArray s 0 0 (fun _ => False)) (F0 m 4 ls []) := by
    intro nn
    induction nn with
    | zero =>
      intro y4_1 y4_2 ls i4_0 i4_1 i4_2 i4_3 i4_4 i4_5 hm4
      exact absurd hm4 (Nat.not_lt_zero _)
    | succ nn ih4 =>
      intro y4_1 y4_2 ls i4_0 i4_1 i4_2 i4_3 i4_4 i4_5 hm4 hl
      refine lv_iload_n hx hb dX1_allStrength_4 rfl (lv_at hl 2 rfl) ?_
      refine lv_bipush (v := 48) hx hb dX1_allStrength_5 (by decide) ?_
      refine lv_icmp_ge (tgt := 35) hx hb dX1_allStrength_7 (by decide) (fun c1 => ?_) (fun c1 => ?_)
      · have dc1 : 48 ≤ y4_2.toInt := leC (show (48 : Int32).toInt = 48 from rfl) rfl c1
        refine lv_iload_n hx hb dX1_allStrength_35 rfl (lv_at hl 1 rfl) ?_
        exact W.iret (v := y4_1) hx hb hr (fun tq ht hW => ⟨y4_1, rfl, ⟨(show 0 ≤ y4_1.toInt from by omega), (show y4_1.toInt ≤ 4800 from by omega), (show y4_1.toInt = asF top str 48 from by exact as_e i4_5 (by omega))⟩, ht⟩) (fun q h => by cases h) dX1_allStrength_36
      · have dc1 : y4_2.toInt < 48 := nleC (show (48 : Int32).toInt = 48 from rfl) rfl c1
        refine lv_aload_n hx hb dX1_allStrength_10 rfl (lv_at hl 0 rfl) ?_
        refine va_get (D := (dC, dI)) (ci := 1) (v := .ref (a 5)) (C := RX1) (T := TX1) (N := 13) hx hb hts inX1 hown hK hP 0 rfl rfl 1 (by decide) lf9 (fun _ h9 => h9) rfl dX1_allStrength_11 ?_
        refine lv_iload_n hx hb dX1_allStrength_14 rfl (lv_at hl 2 rfl) ?_
        have b2 : vp_in y4_2 48 := inC rfl (by omega) (by omega)
        refine va_iald hx hb hK hP 1 0 rfl rfl b2 dX1_allStrength_15 ?_
        have g3 : -1 ≤ (top y4_2.toNatClampNeg).toInt ∧ (top y4_2.toNatClampNeg).toInt ≤ 23 := rg_at r_top b2
        refine lv_iconst (v := (-1)) hx hb dX1_allStrength_16 (by decide) ?_
        refine lv_icmp_eq (tgt := 29) hx hb dX1_allStrength_17 (by decide) (fun c4 => ?_) (fun c4 => ?_)
        · have dc4 : (top y4_2.toNatClampNeg).toInt = (-1) := eqC rfl (show ((-1) : Int32).toInt = (-1) from rfl) c4
          obtain ⟨z5, ez5⟩ : ∃ y : Int32, y = y4_2 + 1 := ⟨_, rfl⟩
          have iz5 : z5.toInt = y4_2.toInt + 1 := by rw [ez5]; exact addC rfl rfl (by omega) (by omega)
          refine lv_iinc (v := z5) (lv' := [(2, .int z5), (0, .ref (a 4)), (1, .int y4_1)]) hx hb dX1_allStrength_29 hl (k := 2) rfl (by rw [ez5]; rfl) (by decide) rfl (fun ls hl => ?_)
          refine lv_goto (tgt := 4) hx hb dX1_allStrength_32 (by decide) ?_
          exact ih4 y4_1 z5 _ (by omega) (by omega) (by omega) (by omega) (by omega) (by (first | exact as_s (o := y4_2) i4_5 (by first | exact clC (x := y4_2) rfl | (rw [clC (x := y4_2) rfl]; omega)) (by first | exact Or.inl ⟨by assumption, by first | rfl | omega⟩ | exact Or.inr ⟨by assumption, by omega⟩) (by omega) | exact as_0 (by first | rfl | omega) (by first | rfl | omega))) (by omega) (lv_sub hl [1, 2, 0] rfl)
        · have dc4 : 0 ≤ (top y4_2.toNatClampNeg).toInt := ka_lo (by omega) (neC rfl (show ((-1) : Int32).toInt = (-1) from rfl) c4)
          refine lv_iload_n hx hb dX1_allStrength_20 rfl (lv_at hl 1 rfl) ?_
          refine lv_aload_n hx hb dX1_allStrength_21 rfl (lv_at hl 0 rfl) ?_
          refine va_get (D := (dC, dI)) (ci := 1) (v := .ref (a 6)) (C := RX1) (T := TX1) (N := 13) hx hb hts inX1 hown hK hP 0 rfl rfl 2 (by decide) lf15 (fun _ h9 => h9) rfl dX1_allStrength_22 ?_
          refine lv_iload_n hx hb dX1_allStrength_25 rfl (lv_at hl 2 rfl) ?_
          have b6 : vp_in y4_2 48 := inC rfl (by omega) (by omega)
          refine va_iald hx hb hK hP 2 0 rfl rfl b6 dX1_allStrength_26 ?_
          have g7 : 0 ≤ (str y4_2.toNatClampNeg).toInt ∧ (str y4_2.toNatClampNeg).toInt ≤ 100 := rg_at r_str b6
          refine lv_iadd hx hb dX1_allStrength_27 ?_
          have f8 : (y4_1 + (str y4_2.toNatClampNeg)).toInt = (y4_1.toInt) + ((str y4_2.toNatClampNeg).toInt) := addC rfl rfl (by omega) (by omega)
          refine lv_topi (fun x9 ex9 => ?_)
          have ix9 : x9.toInt = (y4_1.toInt) + ((str y4_2.toNatClampNeg).toInt) := by rw [ex9]; exact f8
          refine lv_istore_n (lv' := [(1, .int x9), (0, .ref (a 4)), (2, .int y4_2)]) hx hb dX1_allStrength_28 rfl hl (by decide) rfl (fun ls hl => ?_)
          obtain ⟨z10, ez10⟩ : ∃ y : Int32, y = y4_2 + 1 := ⟨_, rfl⟩
          have iz10 : z10.toInt = y4_2.toInt + 1 := by rw [ez10]; exact addC rfl rfl (by omega) (by omega)
          refine lv_iinc (v := z10) (lv' := [(2, .int z10), (1, .int x9), (0, .ref (a 4))]) hx hb dX1_allStrength_29 hl (k := 2) rfl (by rw [ez10]; rfl) (by decide) rfl (fun ls hl => ?_)
          refine lv_goto (tgt := 4) hx hb dX1_allStrength_32 (by decide) ?_
          exact ih4 x9 z10 _ (by omega) (by omega) (by omega) (by omega) (by omega) (by (first | exact as_s (o := y4_2) i4_5 (by first | exact clC (x := y4_2) rfl | (rw [clC (x := y4_2) rfl]; omega)) (by first | exact Or.inl ⟨by assumption, by first | rfl | omega⟩ | exact Or.inr ⟨by assumption, by omega⟩) (by omega) | exact as_0 (by first | rfl | omega) (by first | rfl | omega))) (by omega) (lv_sub hl [2, 1, 0] rfl)
  have kc11 : (0 : Int32).toInt = 0 := rfl
  exact L4 _ 0 0 _ (by omega) (by omega) (by omega) (by omega) (by omega) (by (first | exact as_s (o := y4_2) i4_5 (by first | exact clC (x := y4_2) rfl | (rw [clC (x := y4_2) rfl]; omega)) (by first | exact Or.inl ⟨by assumption, by first | rfl | omega⟩ | exact Or.inr ⟨by assumption, by omega⟩) (by omega) | exact as_0 (by first | rfl | omega) (by first | rfl | omega))) (Nat.lt_succ_self _) (lv_sub hl [2, 1, 0] rfl)
set_option maxHeartbeats 4000000 in
set_option maxRecDepth 100000 in
theorem k_X9_count2 (l : Launch) (dC : Nat → ClassId) (dI : Nat → Nat → Nat) (cI cZ cQ : ClassId) (a : Nat → Nat) (rb0 : Nat) (rb1 : Nat) (rb2 : Nat) (db0 : Nat) (db1 : Nat) (db2 : Nat) (top : Nat → Int32) (str : Nat → Int32) (gho : Nat → Int32) (ghs : Nat → Int32) (pto : Nat → Int32) (cro : Nat → Int32) (pla : Nat → Int32) (wal : Nat → Int32) (fal : Nat → Int32) (tel : Int32) (gai : Int32) (day : Int32) (mar : Nat → Int32) (few : Nat → Int32) (doo : Int32) (byt : Nat → Int32) (len : Int32) (tst : Int32) (ten : Int32) (mos : Nat → Int32) (wev : Nat → Int32) (aga : Int32) (apa : Int32) (lin : Int32) (wh : Int32) (r_top : rg 48 (-1) (23) top) (r_str : rg 48 (0) (100) str) (r_gho : rg 48 (-1) (23) gho) (r_ghs : rg 48 (0) (100) ghs) (r_cro : rg 48 (0) (6) cro) (r_pla : rg 24 (-1) (47) pla) (r_fal : rg 11 (0) (30) fal) (r_gai : 0 ≤ gai.toInt ∧ gai.toInt ≤ 100) (r_day : 0 ≤ day.toInt ∧ day.toInt ≤ 400) (r_mar : rg 24 (0) (255) mar) (r_len : 0 ≤ len.toInt ∧ len.toInt ≤ 160) (r_tst : 0 ≤ tst.toInt ∧ tst.toInt ≤ 160) (r_ten : 0 ≤ ten.toInt ∧ ten.toInt ≤ 160) : KR l yX9_count wsX9_count { frames := 1, cells := 0, slots := 0, locals := 25 } (dC, dI) (TY cI cZ cQ) (wsAl cI cZ cQ a rb0 rb1 rb2 db0 db1 db2 top str gho ghs pto cro pla wal fal tel gai day mar few doo byt len tst ten mos wev aga apa lin) [.ref (a 43), .int wh] (fun r : Int32 => (spCnt day doo top gho str len lin wh r)) := by
  refine Met.ofW (cc := cX9_count) (maxL := 2) (ret := (some .int)) (by decide) rfl ?_
  intro p e s m args below meth c s₁ B hml hv
  obtain ⟨rfl, hP, hK, hN⟩ := hv
  have hx := B.exec
  have hb := B.bytes
  have hr := B.returns
  have hts := atoms_spec (ws := wsX9_count) B.pre
  have hown : s.vm.findClass RX9 = some m.cls := findClass_of_methodNamed B.named
  have hlocks := B.notSynchronized
  have lf28 := hts (.fieldLink RX9 28 "PalaceOfRooms" "corners" "LPalaceOfRooms$Corners;") (List.mem_cons_of_mem _ (List.mem_append_left _ (List.mem_append_left _ (List.mem_append_left _ (List.mem_append_left _ (List.mem_append_left _ (List.mem_of_getElem? (i := 0) rfl)))))))
  have inX9 : ∀ w ∈ wsX90, w ∈ wsX9_count := fun w h => List.mem_cons_of_mem _ (List.mem_append_left _ (List.mem_append_left _ (List.mem_append_left _ (List.mem_append_left _ (List.mem_append_right _ h)))))
  have lf153 := hN.use (w := .fieldLinkNest "PalaceOfRooms" 153 "PalaceOfRooms$Corners" "day" "I" "PalaceOfRooms") (List.mem_of_getElem? (i := 13) rfl) ([.ref (a 43), .int wh] : List Value).toArray
  have inX1 : ∀ w ∈ wsX10, w ∈ wsX9_count := fun w h => List.mem_cons_of_mem _ (List.mem_append_left _ (List.mem_append_left _ (List.mem_append_left _ (List.mem_append_right _ h))))
  have lf12 := hts (.fieldLink RX9 12 "PalaceOfRooms" "ways" "LPalaceOfRooms$Ways;") (List.mem_cons_of_mem _ (List.mem_append_left _ (List.mem_append_left _ (List.mem_append_left _ (List.mem_append_left _ (List.mem_append_left _ (List.mem_of_getElem? (i := 1) rfl)))))))
  have lf91 := hN.use (w := .fieldLinkNest "PalaceOfRooms" 91 "PalaceOfRooms$Ways" "doors" "I" "PalaceOfRooms") (List.mem_of_getElem? (i := 0) rfl) ([.ref (a 43), .int wh] : List Value).toArray
  have inX8 : ∀ w ∈ wsX80, w ∈ wsX9_count := fun w h => List.mem_cons_of_mem _ (List.mem_append_left _ (List.mem_append_left _ (List.mem_append_right _ h)))
  have lf131 := hN.use (w := .fieldLinkNest "PalaceOfRooms" 131 "PalaceOfRooms$Corners" "top" "[I" "PalaceOfRooms") (List.mem_of_getElem? (i := 2) rfl) ([.ref (a 43), .int wh] : List Value).toArray
  have lf144 := hN.use (w := .fieldLinkNest "PalaceOfRooms" 144 "PalaceOfRooms$Corners" "ghost" "[I" "PalaceOfRooms") (List.mem_of_getElem? (i := 5) rfl) ([.ref (a 43), .int wh] : List Value).toArray
  have lf35 := hts (.fieldLink RX9 35 "PalaceOfRooms" "text" "LPalaceOfRooms$Text;") (List.mem_cons_of_mem _ (List.mem_append_left _ (List.mem_append_left _ (List.mem_append_left _ (List.mem_append_left _ (List.mem_append_left _ (List.mem_of_getElem? (i := 2) rfl)))))))
  have lf163 := hN.use (w := .fieldLinkNest "PalaceOfRooms" 163 "PalaceOfRooms$Text" "length" "I" "PalaceOfRooms") (List.mem_of_getElem? (i := 14) rfl) ([.ref (a 43), .int wh] : List Value).toArray
  have inX7 : ∀ w ∈ wsX70, w ∈ wsX9_count := fun w h => List.mem_cons_of_mem _ (List.mem_append_left _ (List.mem_append_right _ h))
  have lf76 := hts (.fieldLink RX9 76 "PalaceOfRooms" "rules" "LPalaceOfRooms$RuleBook;") (List.mem_cons_of_mem _ (List.mem_append_left _ (List.mem_append_left _ (List.mem_append_left _ (List.mem_append_left _ (List.mem_append_left _ (List.mem_of_getElem? (i := 3) rfl)))))))
  have lf174 := hN.use (w := .fieldLinkNest "PalaceOfRooms" 174 "PalaceOfRooms$RuleBook" "lines" "I" "PalaceOfRooms") (List.mem_of_getElem? (i := 30) rfl) ([.ref (a 43), .int wh] : List Value).toArray
  have inX5 : ∀ w ∈ wsX50, w ∈ wsX9_count := fun w h => List.mem_cons_of_mem _ (List.mem_append_right _ h)
  have hl := lv_entry ([.ref (a 43), .int wh]) (n := 2) (Nat.le_of_ble_eq_true rfl)
  rw [lg_entry_eq]
  generalize (lg_sl ([.ref (a 43), .int wh]) ++ List.replicate (2 - (lg_sl ([.ref (a 43), .int wh])).length) Slot.unset).toArray = ls at hl ⊢
  have hl : lv_has ls 2 [(0, .ref (a 43)), (1, .int wh)] := hl
  refine lv_iload_n hx hb dX9_count_0 rfl (lv_at hl 1 rfl) ?_
  by_cases w1 : wh = 0
  · have dw1 : wh.toInt = 0 := eqC rfl rfl w1
    refine lv_tableIn (off := 43) (tgt := 44) hx hb dX9_count_1 (by rw [w1]; decide) (by rw [w1]; decide) (by rw [w1]; decide) (by decide) ?_
    refine lv_aload_n hx hb dX9_count_44 rfl (lv_at hl 0 rfl) ?_
    refine va_get (D := (dC, dI)) (ci := 9) (v := .ref (a 4)) (C := RX9) (T := TX9) (N := 11) hx hb hts inX9 hown hK hP 0 rfl rfl 2 (by decide) lf28 (fun _ h9 => h9) rfl dX9_count_45 ?_
    refine va_getN (D := (dC, dI)) (ci := 1) (v := .int day) (C := RX1) (T := TX1) (N := 13) hx hb hts inX1 hown hK hP 1 rfl rfl 12 (by decide) lf153 (fun _ h9 => h9) rfl dX9_count_48 ?_
    exact W.iret (v := day) hx hb hr (fun tq ht hW => ⟨day, rfl, (show spCnt day doo top gho str len lin wh day from by (first | exact Or.inl ⟨by omega, by first | rfl | assumption⟩ | exact Or.inr (Or.inl ⟨by omega, by first | rfl | assumption⟩) | exact Or.inr (Or.inr (Or.inl ⟨by omega, by first | rfl | assumption⟩)) | exact Or.inr (Or.inr (Or.inr (Or.inl ⟨by omega, by first | rfl | assumption⟩))) | exact Or.inr (Or.inr (Or.inr (Or.inr (Or.inl ⟨by omega, by first | rfl | assumption⟩)))) | exact Or.inr (Or.inr (Or.inr (Or.inr (Or.inr (Or.inl ⟨by omega, by first | rfl | assumption⟩))))) | exact Or.inr (Or.inr (Or.inr (Or.inr (Or.inr (Or.inr (Or.inl ⟨by omega, by first | rfl | assumption⟩)))))) | exact Or.inr (Or.inr (Or.inr (Or.inr (Or.inr (Or.inr (Or.inr (⟨by omega, by first | rfl | assumption⟩))))))))), ht⟩) (fun q h => by cases h) dX9_count_51
  by_cases w2 : wh = 1
  · have dw2 : wh.toInt = 1 := eqC rfl rfl w2
    refine lv_tableIn (off := 51) (tgt := 52) hx hb dX9_count_1 (by rw [w2]; decide) (by rw [w2]; decide) (by rw [w2]; decide) (by decide) ?_
    refine lv_aload_n hx hb dX9_count_52 rfl (lv_at hl 0 rfl) ?_
    refine va_get (D := (dC, dI)) (ci := 9) (v := .ref (a 0)) (C := RX9) (T := TX9) (N := 11) hx hb hts inX9 hown hK hP 0 rfl rfl 0 (by decide) lf12 (fun _ h9 => h9) rfl dX9_count_53 ?_
    refine va_getN (D := (dC, dI)) (ci := 8) (v := .int doo) (C := RX8) (T := TX8) (N := 2) hx hb hts inX8 hown hK hP 13 rfl rfl 1 (by decide) lf91 (fun _ h9 => h9) rfl dX9_count_56 ?_
    exact W.iret (v := doo) hx hb hr (fun tq ht hW => ⟨doo, rfl, (show spCnt day doo top gho str len lin wh doo from by (first | exact Or.inl ⟨by omega, by first | rfl | assumption⟩ | exact Or.inr (Or.inl ⟨by omega, by first | rfl | assumption⟩) | exact Or.inr (Or.inr (Or.inl ⟨by omega, by first | rfl | assumption⟩)) | exact Or.inr (Or.inr (Or.inr (Or.inl ⟨by omega, by first | rfl | assumption⟩))) | exact Or.inr (Or.inr (Or.inr (Or.inr (Or.inl ⟨by omega, by first | rfl | assumption⟩)))) | exact Or.inr (Or.inr (Or.inr (Or.inr (Or.inr (Or.inl ⟨by omega, by first | rfl | assumption⟩))))) | exact Or.inr (Or.inr (Or.inr (Or.inr (Or.inr (Or.inr (Or.inl ⟨by omega, by first | rfl | assumption⟩)))))) | exact Or.inr (Or.inr (Or.inr (Or.inr (Or.inr (Or.inr (Or.inr (⟨by omega, by first | rfl | assumption⟩))))))))), ht⟩) (fun q h => by cases h) dX9_count_59
  by_cases w3 : wh = 2
  · have dw3 : wh.toInt = 2 := eqC rfl rfl w3
    refine lv_tableIn (off := 59) (tgt := 60) hx hb dX9_count_1 (by rw [w3]; decide) (by rw [w3]; decide) (by rw [w3]; decide) (by decide) ?_
    refine lv_aload_n hx hb dX9_count_60 rfl (lv_at hl 0 rfl) ?_
    refine va_get (D := (dC, dI)) (ci := 9) (v := .ref (a 4)) (C := RX9) (T := TX9) (N := 11) hx hb hts inX9 hown hK hP 0 rfl rfl 2 (by decide) lf28 (fun _ h9 => h9) rfl dX9_count_61 ?_
    refine va_getN (D := (dC, dI)) (ci := 1) (v := .ref (a 5)) (C := RX1) (T := TX1) (N := 13) hx hb hts inX1 hown hK hP 1 rfl rfl 1 (by decide) lf131 (fun _ h9 => h9) rfl dX9_count_64 ?_
    refine rdS (As := [.ref (a 5)]) (rest := []) ⟨hx, hb, hml, hown, hts⟩ (k_X9_filled2 l dC dI cI cZ cQ (a 5) 48 top (by omega)) (va_cwS 1 hts gX9_count_X9_filled rfl rfl rfl (by decide +kernel) ⟨Nat.le_of_ble_eq_true rfl, Nat.le_of_ble_eq_true rfl⟩) hP hK hN [2] rfl rfl hl.1 rfl (Nat.le_of_ble_eq_true rfl) dX9_count_67 ⟨Nat.le_of_ble_eq_true rfl, Nat.le_of_ble_eq_true rfl⟩ (fun r4 h5 => ?_)
    have h5 : (0 ≤ r4.toInt) ∧ (r4.toInt ≤ 2048) ∧ (r4.toInt = stF top 0 48) := h5
    obtain ⟨h5_0, h5_1, h5_2⟩ := h5
    exact W.iret (v := r4) hx hb hr (fun tq ht hW => ⟨r4, rfl, (show spCnt day doo top gho str len lin wh r4 from by (first | exact Or.inl ⟨by omega, by first | rfl | assumption⟩ | exact Or.inr (Or.inl ⟨by omega, by first | rfl | assumption⟩) | exact Or.inr (Or.inr (Or.inl ⟨by omega, by first | rfl | assumption⟩)) | exact Or.inr (Or.inr (Or.inr (Or.inl ⟨by omega, by first | rfl | assumption⟩))) | exact Or.inr (Or.inr (Or.inr (Or.inr (Or.inl ⟨by omega, by first | rfl | assumption⟩)))) | exact Or.inr (Or.inr (Or.inr (Or.inr (Or.inr (Or.inl ⟨by omega, by first | rfl | assumption⟩))))) | exact Or.inr (Or.inr (Or.inr (Or.inr (Or.inr (Or.inr (Or.inl ⟨by omega, by first | rfl | assumption⟩)))))) | exact Or.inr (Or.inr (Or.inr (Or.inr (Or.inr (Or.inr (Or.inr (⟨by omega, by first | rfl | assumption⟩))))))))), ht⟩) (fun q h => by cases h) dX9_count_70
  by_cases w6 : wh = 3
  · have dw6 : wh.toInt = 3 := eqC rfl rfl w6
    refine lv_tableIn (off := 70) (tgt := 71) hx hb dX9_count_1 (by rw [w6]; decide) (by rw [w6]; decide) (by rw [w6]; decide) (by decide) ?_
    refine lv_aload_n hx hb dX9_count_71 rfl (lv_at hl 0 rfl) ?_
    refine va_get (D := (dC, dI)) (ci := 9) (v := .ref (a 4)) (C := RX9) (T := TX9) (N := 11) hx hb hts inX9 hown hK hP 0 rfl rfl 2 (by decide) lf28 (fun _ h9 => h9) rfl dX9_count_72 ?_
    refine va_getN (D := (dC, dI)) (ci := 1) (v := .ref (a 7)) (C := RX1) (T := TX1) (N := 13) hx hb hts inX1 hown hK hP 1 rfl rfl 3 (by decide) lf144 (fun _ h9 => h9) rfl dX9_count_75 ?_
    refine rdS (As := [.ref (a 7)]) (rest := []) ⟨hx, hb, hml, hown, hts⟩ (k_X9_filled2 l dC dI cI cZ cQ (a 7) 48 gho (by omega)) (va_cwS 1 hts gX9_count_X9_filled rfl rfl rfl (by decide +kernel) ⟨Nat.le_of_ble_eq_true rfl, Nat.le_of_ble_eq_true rfl⟩) hP hK hN [4] rfl rfl hl.1 rfl (Nat.le_of_ble_eq_true rfl) dX9_count_78 ⟨Nat.le_of_ble_eq_true rfl, Nat.le_of_ble_eq_true rfl⟩ (fun r7 h8 => ?_)
    have h8 : (0 ≤ r7.toInt) ∧ (r7.toInt ≤ 2048) ∧ (r7.toInt = stF gho 0 48) := h8
    obtain ⟨h8_0, h8_1, h8_2⟩ := h8
    exact W.iret (v := r7) hx hb hr (fun tq ht hW => ⟨r7, rfl, (show spCnt day doo top gho str len lin wh r7 from by (first | exact Or.inl ⟨by omega, by first | rfl | assumption⟩ | exact Or.inr (Or.inl ⟨by omega, by first | rfl | assumption⟩) | exact Or.inr (Or.inr (Or.inl ⟨by omega, by first | rfl | assumption⟩)) | exact Or.inr (Or.inr (Or.inr (Or.inl ⟨by omega, by first | rfl | assumption⟩))) | exact Or.inr (Or.inr (Or.inr (Or.inr (Or.inl ⟨by omega, by first | rfl | assumption⟩)))) | exact Or.inr (Or.inr (Or.inr (Or.inr (Or.inr (Or.inl ⟨by omega, by first | rfl | assumption⟩))))) | exact Or.inr (Or.inr (Or.inr (Or.inr (Or.inr (Or.inr (Or.inl ⟨by omega, by first | rfl | assumption⟩)))))) | exact Or.inr (Or.inr (Or.inr (Or.inr (Or.inr (Or.inr (Or.inr (⟨by omega, by first | rfl | assumption⟩))))))))), ht⟩) (fun q h => by cases h) dX9_count_81
  by_cases w9 : wh = 4
  · have dw9 : wh.toInt = 4 := eqC rfl rfl w9
    refine lv_tableIn (off := 81) (tgt := 82) hx hb dX9_count_1 (by rw [w9]; decide) (by rw [w9]; decide) (by rw [w9]; decide) (by decide) ?_
    refine lv_aload_n hx hb dX9_count_82 rfl (lv_at hl 0 rfl) ?_
    refine va_get (D := (dC, dI)) (ci := 9) (v := .ref (a 4)) (C := RX9) (T := TX9) (N := 11) hx hb hts inX9 hown hK hP 0 rfl rfl 2 (by decide) lf28 (fun _ h9 => h9) rfl dX9_count_83 ?_
    refine rdV (As := []) (rest := []) ⟨hx, hb, hml, hown, hts⟩ (k_X1_allStrength2 l dC dI cI cZ cQ a top str gho ghs pto cro pla wal fal tel gai day mar r_top r_str r_gho r_ghs r_cro r_pla r_fal r_gai r_day r_mar) (cwV 0 hts gX9_count_X1_allStrength rfl rfl rfl (by decide +kernel) ⟨Nat.le_of_ble_eq_true rfl, Nat.le_of_ble_eq_true rfl⟩) hP hK hN [1, 2, 3, 4, 5, 6, 7, 8, 9, 10, 11, 12] rfl 1 1 rfl rfl rfl hl.1 rfl (Nat.le_of_ble_eq_true rfl) dX9_count_86 ⟨Nat.le_of_ble_eq_true rfl, Nat.le_of_ble_eq_true rfl⟩ (fun r10 h11 => ?_)
    have h11 : (0 ≤ r10.toInt) ∧ (r10.toInt ≤ 4800) ∧ (r10.toInt = asF top str 48) := h11
    obtain ⟨h11_0, h11_1, h11_2⟩ := h11
    exact W.iret (v := r10) hx hb hr (fun tq ht hW => ⟨r10, rfl, (show spCnt day doo top gho str len lin wh r10 from by (first | exact Or.inl ⟨by omega, by first | rfl | assumption⟩ | exact Or.inr (Or.inl ⟨by omega, by first | rfl | assumption⟩) | exact Or.inr (Or.inr (Or.inl ⟨by omega, by first | rfl | assumption⟩)) | exact Or.inr (Or.inr (Or.inr (Or.inl ⟨by omega, by first | rfl | assumption⟩))) | exact Or.inr (Or.inr (Or.inr (Or.inr (Or.inl ⟨by omega, by first | rfl | assumption⟩)))) | exact Or.inr (Or.inr (Or.inr (Or.inr (Or.inr (Or.inl ⟨by omega, by first | rfl | assumption⟩))))) | exact Or.inr (Or.inr (Or.inr (Or.inr (Or.inr (Or.inr (Or.inl ⟨by omega, by first | rfl | assumption⟩)))))) | exact Or.inr (Or.inr (Or.inr (Or.inr (Or.inr (Or.inr (Or.inr (⟨by omega, by first | rfl | assumption⟩))))))))), ht⟩) (fun q h => by cases h) dX9_count_89
  by_cases w12 : wh = 5
  · have dw12 : wh.toInt = 5 := eqC rfl rfl w12
    refine lv_tableIn (off := 89) (tgt := 90) hx hb dX9_count_1 (by rw [w12]; decide) (by rw [w12]; decide) (by rw [w12]; decide) (by decide) ?_
    refine lv_aload_n hx hb dX9_count_90 rfl (lv_at hl 0 rfl) ?_
    refine va_get (D := (dC, dI)) (ci := 9) (v := .ref (a 14)) (C := RX9) (T := TX9) (N := 11) hx hb hts inX9 hown hK hP 0 rfl rfl 3 (by decide) lf35 (fun _ h9 => h9) rfl dX9_count_91 ?_
    refine va_getN (D := (dC, dI)) (ci := 7) (v := .int len) (C := RX7) (T := TX7) (N := 4) hx hb hts inX7 hown hK hP 15 rfl rfl 1 (by decide) lf163 (fun _ h9 => h9) rfl dX9_count_94 ?_
    exact W.iret (v := len) hx hb hr (fun tq ht hW => ⟨len, rfl, (show spCnt day doo top gho str len lin wh len from by (first | exact Or.inl ⟨by omega, by first | rfl | assumption⟩ | exact Or.inr (Or.inl ⟨by omega, by first | rfl | assumption⟩) | exact Or.inr (Or.inr (Or.inl ⟨by omega, by first | rfl | assumption⟩)) | exact Or.inr (Or.inr (Or.inr (Or.inl ⟨by omega, by first | rfl | assumption⟩))) | exact Or.inr (Or.inr (Or.inr (Or.inr (Or.inl ⟨by omega, by first | rfl | assumption⟩)))) | exact Or.inr (Or.inr (Or.inr (Or.inr (Or.inr (Or.inl ⟨by omega, by first | rfl | assumption⟩))))) | exact Or.inr (Or.inr (Or.inr (Or.inr (Or.inr (Or.inr (Or.inl ⟨by omega, by first | rfl | assumption⟩)))))) | exact Or.inr (Or.inr (Or.inr (Or.inr (Or.inr (Or.inr (Or.inr (⟨by omega, by first | rfl | assumption⟩))))))))), ht⟩) (fun q h => by cases h) dX9_count_97
  by_cases w13 : wh = 6
  · have dw13 : wh.toInt = 6 := eqC rfl rfl w13
    refine lv_tableIn (off := 97) (tgt := 98) hx hb dX9_count_1 (by rw [w13]; decide) (by rw [w13]; decide) (by rw [w13]; decide) (by decide) ?_
    refine lv_aload_n hx hb dX9_count_98 rfl (lv_at hl 0 rfl) ?_
    refine va_get (D := (dC, dI)) (ci := 9) (v := .ref rb0) (C := RX9) (T := TX9) (N := 11) hx hb hts inX9 hown hK hP 0 rfl rfl 9 (by decide) lf76 (fun _ h9 => h9) rfl dX9_count_99 ?_
    refine va_getN (D := (dC, dI)) (ci := 5) (v := .int lin) (C := RX5) (T := TX5) (N := 5) hx hb hts inX5 hown hK hP 17 rfl rfl 4 (by decide) lf174 (fun _ h9 => h9) rfl dX9_count_102 ?_
    exact W.iret (v := lin) hx hb hr (fun tq ht hW => ⟨lin, rfl, (show spCnt day doo top gho str len lin wh lin from by (first | exact Or.inl ⟨by omega, by first | rfl | assumption⟩ | exact Or.inr (Or.inl ⟨by omega, by first | rfl | assumption⟩) | exact Or.inr (Or.inr (Or.inl ⟨by omega, by first | rfl | assumption⟩)) | exact Or.inr (Or.inr (Or.inr (Or.inl ⟨by omega, by first | rfl | assumption⟩))) | exact Or.inr (Or.inr (Or.inr (Or.inr (Or.inl ⟨by omega, by first | rfl | assumption⟩)))) | exact Or.inr (Or.inr (Or.inr (Or.inr (Or.inr (Or.inl ⟨by omega, by first | rfl | assumption⟩))))) | exact Or.inr (Or.inr (Or.inr (Or.inr (Or.inr (Or.inr (Or.inl ⟨by omega, by first | rfl | assumption⟩)))))) | exact Or.inr (Or.inr (Or.inr (Or.inr (Or.inr (Or.inr (Or.inr (⟨by omega, by first | rfl | assumption⟩))))))))), ht⟩) (fun q h => by cases h) dX9_count_105
  have nw1 : wh.toInt ≠ 0 := neC rfl rfl w1
  have nw2 : wh.toInt ≠ 1 := neC rfl rfl w2
  have nw3 : wh.toInt ≠ 2 := neC rfl rfl w3
  have nw6 : wh.toInt ≠ 3 := neC rfl rfl w6
  have nw9 : wh.toInt ≠ 4 := neC rfl rfl w9
  have nw12 : wh.toInt ≠ 5 := neC rfl rfl w12
  have nw13 : wh.toInt ≠ 6 := neC rfl rfl w13
  have o1 : wh.toInt < 0 ∨ 6 < wh.toInt := by rw [show wh.toInt = wh.toInt from rfl]; omega
  refine lv_tableOut (tgt := 106) hx hb dX9_count_1 o1 (by decide) ?_
  refine lv_bipush (v := (-3)) hx hb dX9_count_106 (by decide) ?_
  exact W.iret (v := (-3)) hx hb hr (fun tq ht hW => ⟨(-3), rfl, (show spCnt day doo top gho str len lin wh ((-3) : Int32) from by (try rw [show ((-3) : Int32).toInt = (-3) from (show ((-3) : Int32).toInt = (-3) from rfl)]); (first | exact Or.inl ⟨by omega, by first | rfl | assumption⟩ | exact Or.inr (Or.inl ⟨by omega, by first | rfl | assumption⟩) | exact Or.inr (Or.inr (Or.inl ⟨by omega, by first | rfl | assumption⟩)) | exact Or.inr (Or.inr (Or.inr (Or.inl ⟨by omega, by first | rfl | assumption⟩))) | exact Or.inr (Or.inr (Or.inr (Or.inr (Or.inl ⟨by omega, by first | rfl | assumption⟩)))) | exact Or.inr (Or.inr (Or.inr (Or.inr (Or.inr (Or.inl ⟨by omega, by first | rfl | assumption⟩))))) | exact Or.inr (Or.inr (Or.inr (Or.inr (Or.inr (Or.inr (Or.inl ⟨by omega, by first | rfl | assumption⟩)))))) | exact Or.inr (Or.inr (Or.inr (Or.inr (Or.inr (Or.inr (Or.inr (⟨by omega, by first | rfl | assumption⟩))))))))), ht⟩) (fun q h => by cases h) dX9_count_108
set_option maxHeartbeats 4000000 in
set_option maxRecDepth 100000 in
theorem k_X10_count2 (l : Launch) (dC : Nat → ClassId) (dI : Nat → Nat → Nat) (cI cZ cQ : ClassId) (b : Nat → Nat) (mday : Int32) (mdoo : Int32) (mdA : Nat → Int32) (mdB : Nat → Int32) (mfar : Nat → Int32) (mmar : Nat → Int32) (mtel : Int32) (mgai : Int32) (mfal : Nat → Int32) (mtop : Nat → Int32) (mstr : Nat → Int32) (mgho : Nat → Int32) (mfai : Nat → Int32) (mpto : Nat → Int32) (mwal : Nat → Int32) (mahd : Nat → Int32) (mahf : Nat → Int32) (mcho : Nat → Int32) (mbes : Nat → Int32) (mbyt : Int32) (mtxt : Nat → Int32) (mpos : Int32) (mtka : Int32) (mtok : Int64) (mdig : Int32) (mnum : Int32) (mfau : Int32) (mrdm : Int32) (mrea : Nat → Int32) (mlin : Int32) (mlne : Nat → Int32) (mthg : Nat → Int32) (mord : Nat → Int32) (mbor : Nat → Int32) (mbsm : Int32) (mans : Nat → Int32) (mand : Nat → Int32) (manr : Nat → Int32) (mali : Nat → Int32) (wh : Int32) (r_mday : 0 ≤ mday.toInt ∧ mday.toInt ≤ 400) (r_mdoo : 0 ≤ mdoo.toInt ∧ mdoo.toInt ≤ 14) (r_mdA : rg 14 (0) (7) mdA) (r_mdB : rg 14 (0) (7) mdB) (r_mmar : rg 24 (0) (255) mmar) (r_mgai : 0 ≤ mgai.toInt ∧ mgai.toInt ≤ 100) (r_mfal : rg 11 (0) (30) mfal) (r_mtop : rg 48 (-1) (23) mtop) (r_mstr : rg 48 (0) (100) mstr) (r_mgho : rg 48 (-1) (23) mgho) (r_mfai : rg 48 (0) (100) mfai) (r_mahd : rg 240 (0) (100) mahd) (r_mahf : rg 240 (0) (100) mahf) (r_mcho : rg 5 (-1) (9) mcho) (r_mbyt : 0 ≤ mbyt.toInt ∧ mbyt.toInt ≤ 160) (r_mpos : 0 ≤ mpos.toInt ∧ mpos.toInt ≤ 160) (r_mrdm : 0 ≤ mrdm.toInt ∧ mrdm.toInt ≤ 10) (r_mlin : 0 ≤ mlin.toInt ∧ mlin.toInt ≤ 10) (r_mthg : rg 8 (0) (31) mthg) (r_mord : rg 8 (-1) (8) mord) (r_mans : rg 4 (0) (12) mans) : KR l yX10_count wsX10_count { frames := 1, cells := 0, slots := 0, locals := 23 } (dC, dI) (TY cI cZ cQ) (wMod cI cZ cQ b mday mdoo mdA mdB mfar mmar mtel mgai mfal mtop mstr mgho mfai mpto mwal mahd mahf mcho mbes mbyt mtxt mpos mtka mtok mdig mnum mfau mrdm mrea mlin mlne mthg mord mbor mbsm mans mand manr mali) [.ref (b 39), .int wh] (fun r : Int32 => (spCnt mday mdoo mtop mgho mstr mbyt mlin wh r)) := by
  refine Met.ofW (cc := cX10_count) (maxL := 4) (ret := (some .int)) (by decide) rfl ?_
  intro p e s m args below meth c s₁ B hml hv
  obtain ⟨rfl, hP, hK, hN⟩ := hv
  have hx := B.exec
  have hb := B.bytes
  have hr := B.returns
  have hts := atoms_spec (ws := wsX10_count) B.pre
  have hown : s.vm.findClass RX10 = some m.cls := findClass_of_methodNamed B.named
  have hlocks := B.notSynchronized
  have lf125 := hts (.fieldLink RX10 125 "PalaceOfRoomsModel" "day" "I") (List.mem_cons_of_mem _ (List.mem_append_left _ (List.mem_of_getElem? (i := 0) rfl)))
  have inX10 : ∀ w ∈ wsX100, w ∈ wsX10_count := fun w h => List.mem_cons_of_mem _ (List.mem_append_right _ h)
  have lf97 := hts (.fieldLink RX10 97 "PalaceOfRoomsModel" "doors" "I") (List.mem_cons_of_mem _ (List.mem_append_left _ (List.mem_of_getElem? (i := 1) rfl)))
  have lf38 := hts (.fieldLink RX10 38 "PalaceOfRoomsModel" "ghost" "[I") (List.mem_cons_of_mem _ (List.mem_append_left _ (List.mem_of_getElem? (i := 2) rfl)))
  have lf32 := hts (.fieldLink RX10 32 "PalaceOfRoomsModel" "top" "[I") (List.mem_cons_of_mem _ (List.mem_append_left _ (List.mem_of_getElem? (i := 3) rfl)))
  have lf35 := hts (.fieldLink RX10 35 "PalaceOfRoomsModel" "strength" "[I") (List.mem_cons_of_mem _ (List.mem_append_left _ (List.mem_of_getElem? (i := 4) rfl)))
  have lf141 := hts (.fieldLink RX10 141 "PalaceOfRoomsModel" "bytes" "I") (List.mem_cons_of_mem _ (List.mem_append_left _ (List.mem_of_getElem? (i := 5) rfl)))
  have lf210 := hts (.fieldLink RX10 210 "PalaceOfRoomsModel" "lines" "I") (List.mem_cons_of_mem _ (List.mem_append_left _ (List.mem_of_getElem? (i := 6) rfl)))
  have hl := lv_entry ([.ref (b 39), .int wh]) (n := 4) (Nat.le_of_ble_eq_true rfl)
  rw [lg_entry_eq]
  generalize (lg_sl ([.ref (b 39), .int wh]) ++ List.replicate (4 - (lg_sl ([.ref (b 39), .int wh])).length) Slot.unset).toArray = ls at hl ⊢
  have hl : lv_has ls 4 [(0, .ref (b 39)), (1, .int wh)] := hl
  refine lv_iconst (v := 0) hx hb dX10_count_0 (by decide) ?_
  refine lv_istore_n (lv' := [(2, .int 0), (0, .ref (b 39)), (1, .int wh)]) hx hb dX10_count_1 rfl hl (by decide) rfl (fun ls hl => ?_)
  refine lv_iload_n hx hb dX10_count_2 rfl (lv_at hl 2 rfl) ?_
  by_cases w1 : wh = 0
  · have dw1 : wh.toInt = 0 := eqC rfl rfl w1
    refine lv_tableIn (off := 41) (tgt := 44) hx hb dX10_count_3 (by rw [w1]; decide) (by rw [w1]; decide) (by rw [w1]; decide) (by decide) ?_
    refine lv_aload_n hx hb dX10_count_44 rfl (lv_at hl 1 rfl) ?_
    refine va_get (D := (dC, dI)) (ci := 10) (v := .int mday) (C := RX10) (T := TX10) (N := 39) hx hb hts inX10 hown hK hP 0 rfl rfl 0 (by decide) lf125 (fun _ h9 => h9) rfl dX10_count_45 ?_
    exact W.iret (v := mday) hx hb hr (fun tq ht hW => ⟨mday, rfl, (show spCnt mday mdoo mtop mgho mstr mbyt mlin wh mday from by (first | exact Or.inl ⟨by omega, by first | rfl | assumption | exact st_endN i56_5 (by omega) | exact st_endN i80_5 (by omega) | exact as_e i114_5 (by omega)⟩ | exact Or.inr (Or.inl ⟨by omega, by first | rfl | assumption | exact st_endN i56_5 (by omega) | exact st_endN i80_5 (by omega) | exact as_e i114_5 (by omega)⟩) | exact Or.inr (Or.inr (Or.inl ⟨by omega, by first | rfl | assumption | exact st_endN i56_5 (by omega) | exact st_endN i80_5 (by omega) | exact as_e i114_5 (by omega)⟩)) | exact Or.inr (Or.inr (Or.inr (Or.inl ⟨by omega, by first | rfl | assumption | exact st_endN i56_5 (by omega) | exact st_endN i80_5 (by omega) | exact as_e i114_5 (by omega)⟩))) | exact Or.inr (Or.inr (Or.inr (Or.inr (Or.inl ⟨by omega, by first | rfl | assumption | exact st_endN i56_5 (by omega) | exact st_endN i80_5 (by omega) | exact as_e i114_5 (by omega)⟩)))) | exact Or.inr (Or.inr (Or.inr (Or.inr (Or.inr (Or.inl ⟨by omega, by first | rfl | assumption | exact st_endN i56_5 (by omega) | exact st_endN i80_5 (by omega) | exact as_e i114_5 (by omega)⟩))))) | exact Or.inr (Or.inr (Or.inr (Or.inr (Or.inr (Or.inr (Or.inl ⟨by omega, by first | rfl | assumption | exact st_endN i56_5 (by omega) | exact st_endN i80_5 (by omega) | exact as_e i114_5 (by omega)⟩)))))) | exact Or.inr (Or.inr (Or.inr (Or.inr (Or.inr (Or.inr (Or.inr (⟨by omega, by first | rfl | assumption | exact st_endN i56_5 (by omega) | exact st_endN i80_5 (by omega) | exact as_e i114_5 (by omega)⟩))))))))), ht⟩) (fun q h => by cases h) dX10_count_48
  by_cases w2 : wh = 1
  · have dw2 : wh.toInt = 1 := eqC rfl rfl w2
    refine lv_tableIn (off := 46) (tgt := 49) hx hb dX10_count_3 (by rw [w2]; decide) (by rw [w2]; decide) (by rw [w2]; decide) (by decide) ?_
    refine lv_aload_n hx hb dX10_count_49 rfl (lv_at hl 1 rfl) ?_
    refine va_get (D := (dC, dI)) (ci := 10) (v := .int mdoo) (C := RX10) (T := TX10) (N := 39) hx hb hts inX10 hown hK hP 0 rfl rfl 1 (by decide) lf97 (fun _ h9 => h9) rfl dX10_count_50 ?_
    exact W.iret (v := mdoo) hx hb hr (fun tq ht hW => ⟨mdoo, rfl, (show spCnt mday mdoo mtop mgho mstr mbyt mlin wh mdoo from by (first | exact Or.inl ⟨by omega, by first | rfl | assumption | exact st_endN i56_5 (by omega) | exact st_endN i80_5 (by omega) | exact as_e i114_5 (by omega)⟩ | exact Or.inr (Or.inl ⟨by omega, by first | rfl | assumption | exact st_endN i56_5 (by omega) | exact st_endN i80_5 (by omega) | exact as_e i114_5 (by omega)⟩) | exact Or.inr (Or.inr (Or.inl ⟨by omega, by first | rfl | assumption | exact st_endN i56_5 (by omega) | exact st_endN i80_5 (by omega) | exact as_e i114_5 (by omega)⟩)) | exact Or.inr (Or.inr (Or.inr (Or.inl ⟨by omega, by first | rfl | assumption | exact st_endN i56_5 (by omega) | exact st_endN i80_5 (by omega) | exact as_e i114_5 (by omega)⟩))) | exact Or.inr (Or.inr (Or.inr (Or.inr (Or.inl ⟨by omega, by first | rfl | assumption | exact st_endN i56_5 (by omega) | exact st_endN i80_5 (by omega) | exact as_e i114_5 (by omega)⟩)))) | exact Or.inr (Or.inr (Or.inr (Or.inr (Or.inr (Or.inl ⟨by omega, by first | rfl | assumption | exact st_endN i56_5 (by omega) | exact st_endN i80_5 (by omega) | exact as_e i114_5 (by omega)⟩))))) | exact Or.inr (Or.inr (Or.inr (Or.inr (Or.inr (Or.inr (Or.inl ⟨by omega, by first | rfl | assumption | exact st_endN i56_5 (by omega) | exact st_endN i80_5 (by omega) | exact as_e i114_5 (by omega)⟩)))))) | exact Or.inr (Or.inr (Or.inr (Or.inr (Or.inr (Or.inr (Or.inr (⟨by omega, by first | rfl | assumption | exact st_endN i56_5 (by omega) | exact st_endN i80_5 (by omega) | exact as_e i114_5 (by omega)⟩))))))))), ht⟩) (fun q h => by cases h) dX10_count_53
  by_cases w3 : wh = 2
  · have dw3 : wh.toInt = 2 := eqC rfl rfl w3
    refine lv_tableIn (off := 51) (tgt := 54) hx hb dX10_count_3 (by rw [w3]; decide) (by rw [w3]; decide) (by rw [w3]; decide) (by decide) ?_
    refine lv_iconst (v := 0) hx hb dX10_count_54 (by decide) ?_
    refine lv_istore_n (lv' := [(3, .int 0), (2, .int 0), (0, .ref (b 39)), (1, .int wh)]) hx hb dX10_count_55 rfl hl (by decide) rfl (fun ls hl => ?_)
    have L56 : ∀ (nn : Nat) (y56_2 : Int32) (y56_3 : Int32) (ls : Array Slot), (0 ≤ (y56_3.toInt)) → ((y56_3.toInt) ≤ 8) → (0 ≤ (y56_2.toInt)) → ((y56_2.toInt) ≤ 48) → ((y56_2.toInt) ≤ 6 * (y56_3.toInt)) → ((y56_2.toInt) = stF mtop 0 (6 * (y56_3.toInt)).toNat) → (8 - (y56_3.toInt)).toNat < nn → lv_has ls 4 [(0, .ref (b 39)), (2, .int y56_2), (3, .int y56_3)] → W p l e (headSpec wsX10_count { frames := 1, cells := 0, slots := 0, locals := 23 }).room s m ([.ref (b 39), .int wh] : List Value).toArray below meth c s.heap [] 0 0 (MQ below (QR (fun r : Int32 => (spCnt mday mdoo mtop mgho mstr mbyt mlin wh r))) ([.ref (b 39), .int wh] : List Value).toArray s 0 0 (fun _ => False)) (F0 m 56 ls []) := by
      intro nn
      induction nn with
      | zero =>
        intro y56_2 y56_3 ls i56_0 i56_1 i56_2 i56_3 i56_4 i56_5 hm56
        exact absurd hm56 (Nat.not_lt_zero _)
      | succ nn ih56 =>
        intro y56_2 y56_3 ls i56_0 i56_1 i56_2 i56_3 i56_4 i56_5 hm56 hl
        refine lv_iload_n hx hb dX10_count_56 rfl (lv_at hl 2 rfl) ?_
        refine lv_bipush (v := 8) hx hb dX10_count_57 (by decide) ?_
        refine lv_icmp_ge (tgt := 76) hx hb dX10_count_59 (by decide) (fun c4 => ?_) (fun c4 => ?_)
        · have dc4 : 8 ≤ y56_3.toInt := leC (show (8 : Int32).toInt = 8 from rfl) rfl c4
          refine lv_iload_n hx hb dX10_count_76 rfl (lv_at hl 1 rfl) ?_
          exact W.iret (v := y56_2) hx hb hr (fun tq ht hW => ⟨y56_2, rfl, (show spCnt mday mdoo mtop mgho mstr mbyt mlin wh y56_2 from by (first | exact Or.inl ⟨by omega, by first | rfl | assumption | exact st_endN i56_5 (by omega) | exact st_endN i80_5 (by omega) | exact as_e i114_5 (by omega)⟩ | exact Or.inr (Or.inl ⟨by omega, by first | rfl | assumption | exact st_endN i56_5 (by omega) | exact st_endN i80_5 (by omega) | exact as_e i114_5 (by omega)⟩) | exact Or.inr (Or.inr (Or.inl ⟨by omega, by first | rfl | assumption | exact st_endN i56_5 (by omega) | exact st_endN i80_5 (by omega) | exact as_e i114_5 (by omega)⟩)) | exact Or.inr (Or.inr (Or.inr (Or.inl ⟨by omega, by first | rfl | assumption | exact st_endN i56_5 (by omega) | exact st_endN i80_5 (by omega) | exact as_e i114_5 (by omega)⟩))) | exact Or.inr (Or.inr (Or.inr (Or.inr (Or.inl ⟨by omega, by first | rfl | assumption | exact st_endN i56_5 (by omega) | exact st_endN i80_5 (by omega) | exact as_e i114_5 (by omega)⟩)))) | exact Or.inr (Or.inr (Or.inr (Or.inr (Or.inr (Or.inl ⟨by omega, by first | rfl | assumption | exact st_endN i56_5 (by omega) | exact st_endN i80_5 (by omega) | exact as_e i114_5 (by omega)⟩))))) | exact Or.inr (Or.inr (Or.inr (Or.inr (Or.inr (Or.inr (Or.inl ⟨by omega, by first | rfl | assumption | exact st_endN i56_5 (by omega) | exact st_endN i80_5 (by omega) | exact as_e i114_5 (by omega)⟩)))))) | exact Or.inr (Or.inr (Or.inr (Or.inr (Or.inr (Or.inr (Or.inr (⟨by omega, by first | rfl | assumption | exact st_endN i56_5 (by omega) | exact st_endN i80_5 (by omega) | exact as_e i114_5 (by omega)⟩))))))))), ht⟩) (fun q h => by cases h) dX10_count_77
        · have dc4 : y56_3.toInt < 8 := nleC (show (8 : Int32).toInt = 8 from rfl) rfl c4
          refine lv_iload_n hx hb dX10_count_62 rfl (lv_at hl 1 rfl) ?_
          refine lv_aload_n hx hb dX10_count_63 rfl (lv_at hl 0 rfl) ?_
          refine lv_iload_n hx hb dX10_count_64 rfl (lv_at hl 2 rfl) ?_
          refine rdV (As := [.int y56_3]) (rest := [.int y56_2]) ⟨hx, hb, hml, hown, hts⟩ (k_X10_standIn2 l dC dI cI cZ cQ b mday mdoo mdA mdB mfar mmar mtel mgai mfal mtop mstr mgho mfai mpto mwal mahd mahf mcho mbes mbyt mtxt mpos mtka mtok mdig mnum mfau mrdm mrea mlin mlne mthg mord mbor mbsm mans mand manr mali y56_3 r_mday r_mdoo r_mdA r_mdB r_mmar r_mgai r_mfal r_mtop r_mstr r_mgho r_mfai r_mahd r_mahf r_mcho r_mbyt r_mpos r_mrdm r_mlin r_mthg r_mord r_mans (by omega) (by omega)) (cwV 1 hts gX10_count_X10_standIn rfl rfl rfl (by decide +kernel) ⟨Nat.le_of_ble_eq_true rfl, Nat.le_of_ble_eq_true rfl⟩) hP hK hN [0, 1, 2, 3, 4, 5, 6, 7, 8, 9, 10, 11, 12, 13, 14, 15, 16, 17, 18, 19, 20, 21, 22, 23, 24, 25] rfl 0 10 rfl rfl rfl hl.1 rfl (Nat.le_of_ble_eq_true rfl) dX10_count_65 ⟨Nat.le_of_ble_eq_true rfl, Nat.le_of_ble_eq_true rfl⟩ (fun r5 h6 => ?_)
          have h6 : (0 ≤ r5.toInt) ∧ (r5.toInt ≤ 6) ∧ (r5.toInt = stF mtop (y56_3.toInt * 6).toNat 6) := h6
          obtain ⟨h6_0, h6_1, h6_2⟩ := h6
          refine lv_iadd hx hb dX10_count_68 ?_
          have f7 : (y56_2 + r5).toInt = (y56_2.toInt) + (r5.toInt) := addC rfl rfl (by omega) (by omega)
          refine lv_topi (fun x8 ex8 => ?_)
          have ix8 : x8.toInt = (y56_2.toInt) + (r5.toInt) := by rw [ex8]; exact f7
          refine lv_istore_n (lv' := [(2, .int x8), (0, .ref (b 39)), (3, .int y56_3)]) hx hb dX10_count_69 rfl hl (by decide) rfl (fun ls hl => ?_)
          obtain ⟨z9, ez9⟩ : ∃ y : Int32, y = y56_3 + 1 := ⟨_, rfl⟩
          have iz9 : z9.toInt = y56_3.toInt + 1 := by rw [ez9]; exact addC rfl rfl (by omega) (by omega)
          refine lv_iinc (v := z9) (lv' := [(3, .int z9), (2, .int x8), (0, .ref (b 39))]) hx hb dX10_count_70 hl (k := 2) rfl (by rw [ez9]; rfl) (by decide) rfl (fun ls hl => ?_)
          refine lv_goto (tgt := 56) hx hb dX10_count_73 (by decide) ?_
          exact ih56 x8 z9 _ (by omega) (by omega) (by omega) (by omega) (by omega) (by (first | exact st_sum i56_5 (by assumption) (by omega) (by omega) (by omega) | exact st_init (by first | rfl | omega) (by first | rfl | omega))) (by omega) (lv_sub hl [2, 1, 0] rfl)
    have kc10 : (0 : Int32).toInt = 0 := rfl
    exact L56 _ 0 0 _ (by omega) (by omega) (by omega) (by omega) (by omega) (by (first | exact st_sum i56_5 (by assumption) (by omega) (by omega) (by omega) | exact st_init (by first | rfl | omega) (by first | rfl | omega))) (Nat.lt_succ_self _) (lv_sub hl [2, 1, 0] rfl)
  by_cases w11 : wh = 3
  · have dw11 : wh.toInt = 3 := eqC rfl rfl w11
    refine lv_tableIn (off := 75) (tgt := 78) hx hb dX10_count_3 (by rw [w11]; decide) (by rw [w11]; decide) (by rw [w11]; decide) (by decide) ?_
    refine lv_iconst (v := 0) hx hb dX10_count_78 (by decide) ?_
    refine lv_istore_n (lv' := [(3, .int 0), (2, .int 0), (0, .ref (b 39)), (1, .int wh)]) hx hb dX10_count_79 rfl hl (by decide) rfl (fun ls hl => ?_)
    have L80 : ∀ (nn : Nat) (y80_2 : Int32) (y80_3 : Int32) (ls : Array Slot), (0 ≤ (y80_3.toInt)) → ((y80_3.toInt) ≤ 48) → (0 ≤ (y80_2.toInt)) → ((y80_2.toInt) ≤ 48) → ((y80_2.toInt) ≤ (y80_3.toInt)) → ((y80_2.toInt) = stF mgho 0 ((y80_3.toInt)).toNat) → (48 - (y80_3.toInt)).toNat < nn → lv_has ls 4 [(0, .ref (b 39)), (2, .int y80_2), (3, .int y80_3)] → W p l e (headSpec wsX10_count { frames := 1, cells := 0, slots := 0, locals := 23 }).room s m ([.ref (b 39), .int wh] : List Value).toArray below meth c s.heap [] 0 0 (MQ below (QR (fun r : Int32 => (spCnt mday mdoo mtop mgho mstr mbyt mlin wh r))) ([.ref (b 39), .int wh] : List Value).toArray s 0 0 (fun _ => False)) (F0 m 80 ls []) := by
      intro nn
      induction nn with
      | zero =>
        intro y80_2 y80_3 ls i80_0 i80_1 i80_2 i80_3 i80_4 i80_5 hm80
        exact absurd hm80 (Nat.not_lt_zero _)
      | succ nn ih80 =>
        intro y80_2 y80_3 ls i80_0 i80_1 i80_2 i80_3 i80_4 i80_5 hm80 hl
        refine lv_iload_n hx hb dX10_count_80 rfl (lv_at hl 2 rfl) ?_
        refine lv_bipush (v := 48) hx hb dX10_count_81 (by decide) ?_
        refine lv_icmp_ge (tgt := 110) hx hb dX10_count_83 (by decide) (fun c12 => ?_) (fun c12 => ?_)
        · have dc12 : 48 ≤ y80_3.toInt := leC (show (48 : Int32).toInt = 48 from rfl) rfl c12
          refine lv_iload_n hx hb dX10_count_110 rfl (lv_at hl 1 rfl) ?_
          exact W.iret (v := y80_2) hx hb hr (fun tq ht hW => ⟨y80_2, rfl, (show spCnt mday mdoo mtop mgho mstr mbyt mlin wh y80_2 from by (first | exact Or.inl ⟨by omega, by first | rfl | assumption | exact st_endN i56_5 (by omega) | exact st_endN i80_5 (by omega) | exact as_e i114_5 (by omega)⟩ | exact Or.inr (Or.inl ⟨by omega, by first | rfl | assumption | exact st_endN i56_5 (by omega) | exact st_endN i80_5 (by omega) | exact as_e i114_5 (by omega)⟩) | exact Or.inr (Or.inr (Or.inl ⟨by omega, by first | rfl | assumption | exact st_endN i56_5 (by omega) | exact st_endN i80_5 (by omega) | exact as_e i114_5 (by omega)⟩)) | exact Or.inr (Or.inr (Or.inr (Or.inl ⟨by omega, by first | rfl | assumption | exact st_endN i56_5 (by omega) | exact st_endN i80_5 (by omega) | exact as_e i114_5 (by omega)⟩))) | exact Or.inr (Or.inr (Or.inr (Or.inr (Or.inl ⟨by omega, by first | rfl | assumption | exact st_endN i56_5 (by omega) | exact st_endN i80_5 (by omega) | exact as_e i114_5 (by omega)⟩)))) | exact Or.inr (Or.inr (Or.inr (Or.inr (Or.inr (Or.inl ⟨by omega, by first | rfl | assumption | exact st_endN i56_5 (by omega) | exact st_endN i80_5 (by omega) | exact as_e i114_5 (by omega)⟩))))) | exact Or.inr (Or.inr (Or.inr (Or.inr (Or.inr (Or.inr (Or.inl ⟨by omega, by first | rfl | assumption | exact st_endN i56_5 (by omega) | exact st_endN i80_5 (by omega) | exact as_e i114_5 (by omega)⟩)))))) | exact Or.inr (Or.inr (Or.inr (Or.inr (Or.inr (Or.inr (Or.inr (⟨by omega, by first | rfl | assumption | exact st_endN i56_5 (by omega) | exact st_endN i80_5 (by omega) | exact as_e i114_5 (by omega)⟩))))))))), ht⟩) (fun q h => by cases h) dX10_count_111
        · have dc12 : y80_3.toInt < 48 := nleC (show (48 : Int32).toInt = 48 from rfl) rfl c12
          refine lv_iload_n hx hb dX10_count_86 rfl (lv_at hl 1 rfl) ?_
          refine lv_aload_n hx hb dX10_count_87 rfl (lv_at hl 0 rfl) ?_
          refine va_get (D := (dC, dI)) (ci := 10) (v := .ref (b 11)) (C := RX10) (T := TX10) (N := 39) hx hb hts inX10 hown hK hP 0 rfl rfl 11 (by decide) lf38 (fun _ h9 => h9) rfl dX10_count_88 ?_
          refine lv_iload_n hx hb dX10_count_91 rfl (lv_at hl 2 rfl) ?_
          have b13 : vp_in y80_3 48 := inC rfl (by omega) (by omega)
          refine va_iald hx hb hK hP 8 0 rfl rfl b13 dX10_count_92 ?_
          have g14 : -1 ≤ (mgho y80_3.toNatClampNeg).toInt ∧ (mgho y80_3.toNatClampNeg).toInt ≤ 23 := rg_at r_mgho b13
          refine lv_iconst (v := (-1)) hx hb dX10_count_93 (by decide) ?_
          refine lv_icmp_ne (tgt := 101) hx hb dX10_count_94 (by decide) (fun c15 => ?_) (fun c15 => ?_)
          · have dc15 : 0 ≤ (mgho y80_3.toNatClampNeg).toInt := ka_lo (by omega) (neC rfl (show ((-1) : Int32).toInt = (-1) from rfl) c15)
            refine lv_iconst (v := 1) hx hb dX10_count_101 (by decide) ?_
            refine lv_iadd hx hb dX10_count_102 ?_
            have f16 : (y80_2 + 1).toInt = (y80_2.toInt) + (1) := addC rfl (show (1 : Int32).toInt = 1 from rfl) (by omega) (by omega)
            refine lv_topi (fun x17 ex17 => ?_)
            have ix17 : x17.toInt = (y80_2.toInt) + (1) := by rw [ex17]; exact f16
            refine lv_istore_n (lv' := [(2, .int x17), (0, .ref (b 39)), (3, .int y80_3)]) hx hb dX10_count_103 rfl hl (by decide) rfl (fun ls hl => ?_)
            obtain ⟨z18, ez18⟩ : ∃ y : Int32, y = y80_3 + 1 := ⟨_, rfl⟩
            have iz18 : z18.toInt = y80_3.toInt + 1 := by rw [ez18]; exact addC rfl rfl (by omega) (by omega)
            refine lv_iinc (v := z18) (lv' := [(3, .int z18), (2, .int x17), (0, .ref (b 39))]) hx hb dX10_count_104 hl (k := 2) rfl (by rw [ez18]; rfl) (by decide) rfl (fun ls hl => ?_)
            refine lv_goto (tgt := 80) hx hb dX10_count_107 (by decide) ?_
            exact ih80 x17 z18 _ (by omega) (by omega) (by omega) (by omega) (by omega) (by (first | exact st_step (o := y80_3) i80_5 (by rw [clC (x := y80_3) rfl]; omega) (by first | exact Or.inl ⟨by assumption, by first | rfl | omega⟩ | exact Or.inr ⟨by assumption, by omega⟩) (by omega) | exact st_init (by first | rfl | omega) (by first | rfl | omega))) (by omega) (lv_sub hl [2, 1, 0] rfl)
          · have dc15 : (mgho y80_3.toNatClampNeg).toInt = (-1) := eqC rfl (show ((-1) : Int32).toInt = (-1) from rfl) c15
            refine lv_iconst (v := 0) hx hb dX10_count_97 (by decide) ?_
            refine lv_goto (tgt := 102) hx hb dX10_count_98 (by decide) ?_
            refine lv_iadd hx hb dX10_count_102 ?_
            have f19 : (y80_2 + 0).toInt = (y80_2.toInt) + (0) := addC rfl (show (0 : Int32).toInt = 0 from rfl) (by omega) (by omega)
            refine lv_topi (fun x20 ex20 => ?_)
            have ix20 : x20.toInt = (y80_2.toInt) + (0) := by rw [ex20]; exact f19
            refine lv_istore_n (lv' := [(2, .int x20), (0, .ref (b 39)), (3, .int y80_3)]) hx hb dX10_count_103 rfl hl (by decide) rfl (fun ls hl => ?_)
            obtain ⟨z21, ez21⟩ : ∃ y : Int32, y = y80_3 + 1 := ⟨_, rfl⟩
            have iz21 : z21.toInt = y80_3.toInt + 1 := by rw [ez21]; exact addC rfl rfl (by omega) (by omega)
            refine lv_iinc (v := z21) (lv' := [(3, .int z21), (2, .int x20), (0, .ref (b 39))]) hx hb dX10_count_104 hl (k := 2) rfl (by rw [ez21]; rfl) (by decide) rfl (fun ls hl => ?_)
            refine lv_goto (tgt := 80) hx hb dX10_count_107 (by decide) ?_
            exact ih80 x20 z21 _ (by omega) (by omega) (by omega) (by omega) (by omega) (by (first | exact st_step (o := y80_3) i80_5 (by rw [clC (x := y80_3) rfl]; omega) (by first | exact Or.inl ⟨by assumption, by first | rfl | omega⟩ | exact Or.inr ⟨by assumption, by omega⟩) (by omega) | exact st_init (by first | rfl | omega) (by first | rfl | omega))) (by omega) (lv_sub hl [2, 1, 0] rfl)
    have kc22 : (0 : Int32).toInt = 0 := rfl
    exact L80 _ 0 0 _ (by omega) (by omega) (by omega) (by omega) (by omega) (by (first | exact st_step (o := y80_3) i80_5 (by rw [clC (x := y80_3) rfl]; omega) (by first | exact Or.inl ⟨by assumption, by first | rfl | omega⟩ | exact Or.inr ⟨by assumption, by omega⟩) (by omega) | exact st_init (by first | rfl | omega) (by first | rfl | omega))) (Nat.lt_succ_self _) (lv_sub hl [2, 1, 0] rfl)
  by_cases w23 : wh = 4
  · have dw23 : wh.toInt = 4 := eqC rfl rfl w23
    refine lv_tableIn (off := 109) (tgt := 112) hx hb dX10_count_3 (by rw [w23]; decide) (by rw [w23]; decide) (by rw [w23]; decide) (by decide) ?_
    refine lv_iconst (v := 0) hx hb dX10_count_112 (by decide) ?_
    refine lv_istore_n (lv' := [(3, .int 0), (2, .int 0), (0, .ref (b 39)), (1, .int wh)]) hx hb dX10_count_113 rfl hl (by decide) rfl (fun ls hl => ?_)
    have L114 : ∀ (nn : Nat) (y114_2 : Int32) (y114_3 : Int32) (ls : Array Slot), (0 ≤ (y114_3.toInt)) → ((y114_3.toInt) ≤ 48) → (0 ≤ (y114_2.toInt)) → ((y114_2.toInt) ≤ 4800) → ((y114_2.toInt) ≤ 100 * (y114_3.toInt)) → ((y114_2.toInt) = asF mtop mstr ((y114_3.toInt)).toNat) → (48 - (y114_3.toInt)).toNat < nn → lv_has ls 4 [(0, .ref (b 39)), (2, .int y114_2), (3, .int y114_3)] → W p l e (headSpec wsX10_count { frames := 1, cells := 0, slots := 0, locals := 23 }).room s m ([.ref (b 39), .int wh] : List Value).toArray below meth c s.heap [] 0 0 (MQ below (QR (fun r : Int32 => (spCnt mday mdoo mtop mgho mstr mbyt mlin wh r))) ([.ref (b 39), .int wh] : List Value).toArray s 0 0 (fun _ => False)) (F0 m 114 ls []) := by
      intro nn
      induction nn with
      | zero =>
        intro y114_2 y114_3 ls i114_0 i114_1 i114_2 i114_3 i114_4 i114_5 hm114
        exact absurd hm114 (Nat.not_lt_zero _)
      | succ nn ih114 =>
        intro y114_2 y114_3 ls i114_0 i114_1 i114_2 i114_3 i114_4 i114_5 hm114 hl
        refine lv_iload_n hx hb dX10_count_114 rfl (lv_at hl 2 rfl) ?_
        refine lv_bipush (v := 48) hx hb dX10_count_115 (by decide) ?_
        refine lv_icmp_ge (tgt := 149) hx hb dX10_count_117 (by decide) (fun c24 => ?_) (fun c24 => ?_)
        · have dc24 : 48 ≤ y114_3.toInt := leC (show (48 : Int32).toInt = 48 from rfl) rfl c24
          refine lv_iload_n hx hb dX10_count_149 rfl (lv_at hl 1 rfl) ?_
          exact W.iret (v := y114_2) hx hb hr (fun tq ht hW => ⟨y114_2, rfl, (show spCnt mday mdoo mtop mgho mstr mbyt mlin wh y114_2 from by (first | exact Or.inl ⟨by omega, by first | rfl | assumption | exact st_endN i56_5 (by omega) | exact st_endN i80_5 (by omega) | exact as_e i114_5 (by omega)⟩ | exact Or.inr (Or.inl ⟨by omega, by first | rfl | assumption | exact st_endN i56_5 (by omega) | exact st_endN i80_5 (by omega) | exact as_e i114_5 (by omega)⟩) | exact Or.inr (Or.inr (Or.inl ⟨by omega, by first | rfl | assumption | exact st_endN i56_5 (by omega) | exact st_endN i80_5 (by omega) | exact as_e i114_5 (by omega)⟩)) | exact Or.inr (Or.inr (Or.inr (Or.inl ⟨by omega, by first | rfl | assumption | exact st_endN i56_5 (by omega) | exact st_endN i80_5 (by omega) | exact as_e i114_5 (by omega)⟩))) | exact Or.inr (Or.inr (Or.inr (Or.inr (Or.inl ⟨by omega, by first | rfl | assumption | exact st_endN i56_5 (by omega) | exact st_endN i80_5 (by omega) | exact as_e i114_5 (by omega)⟩)))) | exact Or.inr (Or.inr (Or.inr (Or.inr (Or.inr (Or.inl ⟨by omega, by first | rfl | assumption | exact st_endN i56_5 (by omega) | exact st_endN i80_5 (by omega) | exact as_e i114_5 (by omega)⟩))))) | exact Or.inr (Or.inr (Or.inr (Or.inr (Or.inr (Or.inr (Or.inl ⟨by omega, by first | rfl | assumption | exact st_endN i56_5 (by omega) | exact st_endN i80_5 (by omega) | exact as_e i114_5 (by omega)⟩)))))) | exact Or.inr (Or.inr (Or.inr (Or.inr (Or.inr (Or.inr (Or.inr (⟨by omega, by first | rfl | assumption | exact st_endN i56_5 (by omega) | exact st_endN i80_5 (by omega) | exact as_e i114_5 (by omega)⟩))))))))), ht⟩) (fun q h => by cases h) dX10_count_150
        · have dc24 : y114_3.toInt < 48 := nleC (show (48 : Int32).toInt = 48 from rfl) rfl c24
          refine lv_iload_n hx hb dX10_count_120 rfl (lv_at hl 1 rfl) ?_
          refine lv_aload_n hx hb dX10_count_121 rfl (lv_at hl 0 rfl) ?_
          refine va_get (D := (dC, dI)) (ci := 10) (v := .ref (b 9)) (C := RX10) (T := TX10) (N := 39) hx hb hts inX10 hown hK hP 0 rfl rfl 9 (by decide) lf32 (fun _ h9 => h9) rfl dX10_count_122 ?_
          refine lv_iload_n hx hb dX10_count_125 rfl (lv_at hl 2 rfl) ?_
          have b25 : vp_in y114_3 48 := inC rfl (by omega) (by omega)
          refine va_iald hx hb hK hP 6 0 rfl rfl b25 dX10_count_126 ?_
          have g26 : -1 ≤ (mtop y114_3.toNatClampNeg).toInt ∧ (mtop y114_3.toNatClampNeg).toInt ≤ 23 := rg_at r_mtop b25
          refine lv_iconst (v := (-1)) hx hb dX10_count_127 (by decide) ?_
          refine lv_icmp_ne (tgt := 135) hx hb dX10_count_128 (by decide) (fun c27 => ?_) (fun c27 => ?_)
          · have dc27 : 0 ≤ (mtop y114_3.toNatClampNeg).toInt := ka_lo (by omega) (neC rfl (show ((-1) : Int32).toInt = (-1) from rfl) c27)
            refine lv_aload_n hx hb dX10_count_135 rfl (lv_at hl 0 rfl) ?_
            refine va_get (D := (dC, dI)) (ci := 10) (v := .ref (b 10)) (C := RX10) (T := TX10) (N := 39) hx hb hts inX10 hown hK hP 0 rfl rfl 10 (by decide) lf35 (fun _ h9 => h9) rfl dX10_count_136 ?_
            refine lv_iload_n hx hb dX10_count_139 rfl (lv_at hl 2 rfl) ?_
            have b28 : vp_in y114_3 48 := inC rfl (by omega) (by omega)
            refine va_iald hx hb hK hP 7 0 rfl rfl b28 dX10_count_140 ?_
            have g29 : 0 ≤ (mstr y114_3.toNatClampNeg).toInt ∧ (mstr y114_3.toNatClampNeg).toInt ≤ 100 := rg_at r_mstr b28
            refine lv_iadd hx hb dX10_count_141 ?_
            have f30 : (y114_2 + (mstr y114_3.toNatClampNeg)).toInt = (y114_2.toInt) + ((mstr y114_3.toNatClampNeg).toInt) := addC rfl rfl (by omega) (by omega)
            refine lv_topi (fun x31 ex31 => ?_)
            have ix31 : x31.toInt = (y114_2.toInt) + ((mstr y114_3.toNatClampNeg).toInt) := by rw [ex31]; exact f30
            refine lv_istore_n (lv' := [(2, .int x31), (0, .ref (b 39)), (3, .int y114_3)]) hx hb dX10_count_142 rfl hl (by decide) rfl (fun ls hl => ?_)
            obtain ⟨z32, ez32⟩ : ∃ y : Int32, y = y114_3 + 1 := ⟨_, rfl⟩
            have iz32 : z32.toInt = y114_3.toInt + 1 := by rw [ez32]; exact addC rfl rfl (by omega) (by omega)
            refine lv_iinc (v := z32) (lv' := [(3, .int z32), (2, .int x31), (0, .ref (b 39))]) hx hb dX10_count_143 hl (k := 2) rfl (by rw [ez32]; rfl) (by decide) rfl (fun ls hl => ?_)
            refine lv_goto (tgt := 114) hx hb dX10_count_146 (by decide) ?_
            exact ih114 x31 z32 _ (by omega) (by omega) (by omega) (by omega) (by omega) (by (first | exact as_s (o := y114_3) i114_5 (by first | exact clC (x := y114_3) rfl | (rw [clC (x := y114_3) rfl]; omega)) (by first | exact Or.inl ⟨by assumption, by first | rfl | omega⟩ | exact Or.inr ⟨by assumption, by omega⟩) (by omega) | exact as_0 (by first | rfl | omega) (by first | rfl | omega))) (by omega) (lv_sub hl [2, 1, 0] rfl)
          · have dc27 : (mtop y114_3.toNatClampNeg).toInt = (-1) := eqC rfl (show ((-1) : Int32).toInt = (-1) from rfl) c27
            refine lv_iconst (v := 0) hx hb dX10_count_131 (by decide) ?_
            refine lv_goto (tgt := 141) hx hb dX10_count_132 (by decide) ?_
            refine lv_iadd hx hb dX10_count_141 ?_
            have f33 : (y114_2 + 0).toInt = (y114_2.toInt) + (0) := addC rfl (show (0 : Int32).toInt = 0 from rfl) (by omega) (by omega)
            refine lv_topi (fun x34 ex34 => ?_)
            have ix34 : x34.toInt = (y114_2.toInt) + (0) := by rw [ex34]; exact f33
            refine lv_istore_n (lv' := [(2, .int x34), (0, .ref (b 39)), (3, .int y114_3)]) hx hb dX10_count_142 rfl hl (by decide) rfl (fun ls hl => ?_)
            obtain ⟨z35, ez35⟩ : ∃ y : Int32, y = y114_3 + 1 := ⟨_, rfl⟩
            have iz35 : z35.toInt = y114_3.toInt + 1 := by rw [ez35]; exact addC rfl rfl (by omega) (by omega)
            refine lv_iinc (v := z35) (lv' := [(3, .int z35), (2, .int x34), (0, .ref (b 39))]) hx hb dX10_count_143 hl (k := 2) rfl (by rw [ez35]; rfl) (by decide) rfl (fun ls hl => ?_)
            refine lv_goto (tgt := 114) hx hb dX10_count_146 (by decide) ?_
            exact ih114 x34 z35 _ (by omega) (by omega) (by omega) (by omega) (by omega) (by (first | exact as_s (o := y114_3) i114_5 (by first | exact clC (x := y114_3) rfl | (rw [clC (x := y114_3) rfl]; omega)) (by first | exact Or.inl ⟨by assumption, by first | rfl | omega⟩ | exact Or.inr ⟨by assumption, by omega⟩) (by omega) | exact as_0 (by first | rfl | omega) (by first | rfl | omega))) (by omega) (lv_sub hl [2, 1, 0] rfl)
    have kc36 : (0 : Int32).toInt = 0 := rfl
    exact L114 _ 0 0 _ (by omega) (by omega) (by omega) (by omega) (by omega) (by (first | exact as_s (o := y114_3) i114_5 (by first | exact clC (x := y114_3) rfl | (rw [clC (x := y114_3) rfl]; omega)) (by first | exact Or.inl ⟨by assumption, by first | rfl | omega⟩ | exact Or.inr ⟨by assumption, by omega⟩) (by omega) | exact as_0 (by first | rfl | omega) (by first | rfl | omega))) (Nat.lt_succ_self _) (lv_sub hl [2, 1, 0] rfl)
  by_cases w37 : wh = 5
  · have dw37 : wh.toInt = 5 := eqC rfl rfl w37
    refine lv_tableIn (off := 148) (tgt := 151) hx hb dX10_count_3 (by rw [w37]; decide) (by rw [w37]; decide) (by rw [w37]; decide) (by decide) ?_
    refine lv_aload_n hx hb dX10_count_151 rfl (lv_at hl 1 rfl) ?_
    refine va_get (D := (dC, dI)) (ci := 10) (v := .int mbyt) (C := RX10) (T := TX10) (N := 39) hx hb hts inX10 hown hK hP 0 rfl rfl 19 (by decide) lf141 (fun _ h9 => h9) rfl dX10_count_152 ?_
    exact W.iret (v := mbyt) hx hb hr (fun tq ht hW => ⟨mbyt, rfl, (show spCnt mday mdoo mtop mgho mstr mbyt mlin wh mbyt from by (first | exact Or.inl ⟨by omega, by first | rfl | assumption | exact st_endN i56_5 (by omega) | exact st_endN i80_5 (by omega) | exact as_e i114_5 (by omega)⟩ | exact Or.inr (Or.inl ⟨by omega, by first | rfl | assumption | exact st_endN i56_5 (by omega) | exact st_endN i80_5 (by omega) | exact as_e i114_5 (by omega)⟩) | exact Or.inr (Or.inr (Or.inl ⟨by omega, by first | rfl | assumption | exact st_endN i56_5 (by omega) | exact st_endN i80_5 (by omega) | exact as_e i114_5 (by omega)⟩)) | exact Or.inr (Or.inr (Or.inr (Or.inl ⟨by omega, by first | rfl | assumption | exact st_endN i56_5 (by omega) | exact st_endN i80_5 (by omega) | exact as_e i114_5 (by omega)⟩))) | exact Or.inr (Or.inr (Or.inr (Or.inr (Or.inl ⟨by omega, by first | rfl | assumption | exact st_endN i56_5 (by omega) | exact st_endN i80_5 (by omega) | exact as_e i114_5 (by omega)⟩)))) | exact Or.inr (Or.inr (Or.inr (Or.inr (Or.inr (Or.inl ⟨by omega, by first | rfl | assumption | exact st_endN i56_5 (by omega) | exact st_endN i80_5 (by omega) | exact as_e i114_5 (by omega)⟩))))) | exact Or.inr (Or.inr (Or.inr (Or.inr (Or.inr (Or.inr (Or.inl ⟨by omega, by first | rfl | assumption | exact st_endN i56_5 (by omega) | exact st_endN i80_5 (by omega) | exact as_e i114_5 (by omega)⟩)))))) | exact Or.inr (Or.inr (Or.inr (Or.inr (Or.inr (Or.inr (Or.inr (⟨by omega, by first | rfl | assumption | exact st_endN i56_5 (by omega) | exact st_endN i80_5 (by omega) | exact as_e i114_5 (by omega)⟩))))))))), ht⟩) (fun q h => by cases h) dX10_count_155
  by_cases w38 : wh = 6
  · have dw38 : wh.toInt = 6 := eqC rfl rfl w38
    refine lv_tableIn (off := 153) (tgt := 156) hx hb dX10_count_3 (by rw [w38]; decide) (by rw [w38]; decide) (by rw [w38]; decide) (by decide) ?_
    refine lv_aload_n hx hb dX10_count_156 rfl (lv_at hl 1 rfl) ?_
    refine va_get (D := (dC, dI)) (ci := 10) (v := .int mlin) (C := RX10) (T := TX10) (N := 39) hx hb hts inX10 hown hK hP 0 rfl rfl 29 (by decide) lf210 (fun _ h9 => h9) rfl dX10_count_157 ?_
    exact W.iret (v := mlin) hx hb hr (fun tq ht hW => ⟨mlin, rfl, (show spCnt mday mdoo mtop mgho mstr mbyt mlin wh mlin from by (first | exact Or.inl ⟨by omega, by first | rfl | assumption | exact st_endN i56_5 (by omega) | exact st_endN i80_5 (by omega) | exact as_e i114_5 (by omega)⟩ | exact Or.inr (Or.inl ⟨by omega, by first | rfl | assumption | exact st_endN i56_5 (by omega) | exact st_endN i80_5 (by omega) | exact as_e i114_5 (by omega)⟩) | exact Or.inr (Or.inr (Or.inl ⟨by omega, by first | rfl | assumption | exact st_endN i56_5 (by omega) | exact st_endN i80_5 (by omega) | exact as_e i114_5 (by omega)⟩)) | exact Or.inr (Or.inr (Or.inr (Or.inl ⟨by omega, by first | rfl | assumption | exact st_endN i56_5 (by omega) | exact st_endN i80_5 (by omega) | exact as_e i114_5 (by omega)⟩))) | exact Or.inr (Or.inr (Or.inr (Or.inr (Or.inl ⟨by omega, by first | rfl | assumption | exact st_endN i56_5 (by omega) | exact st_endN i80_5 (by omega) | exact as_e i114_5 (by omega)⟩)))) | exact Or.inr (Or.inr (Or.inr (Or.inr (Or.inr (Or.inl ⟨by omega, by first | rfl | assumption | exact st_endN i56_5 (by omega) | exact st_endN i80_5 (by omega) | exact as_e i114_5 (by omega)⟩))))) | exact Or.inr (Or.inr (Or.inr (Or.inr (Or.inr (Or.inr (Or.inl ⟨by omega, by first | rfl | assumption | exact st_endN i56_5 (by omega) | exact st_endN i80_5 (by omega) | exact as_e i114_5 (by omega)⟩)))))) | exact Or.inr (Or.inr (Or.inr (Or.inr (Or.inr (Or.inr (Or.inr (⟨by omega, by first | rfl | assumption | exact st_endN i56_5 (by omega) | exact st_endN i80_5 (by omega) | exact as_e i114_5 (by omega)⟩))))))))), ht⟩) (fun q h => by cases h) dX10_count_160
  have nw1 : wh.toInt ≠ 0 := neC rfl rfl w1
  have nw2 : wh.toInt ≠ 1 := neC rfl rfl w2
  have nw3 : wh.toInt ≠ 2 := neC rfl rfl w3
  have nw11 : wh.toInt ≠ 3 := neC rfl rfl w11
  have nw23 : wh.toInt ≠ 4 := neC rfl rfl w23
  have nw37 : wh.toInt ≠ 5 := neC rfl rfl w37
  have nw38 : wh.toInt ≠ 6 := neC rfl rfl w38
  have o3 : wh.toInt < 0 ∨ 6 < wh.toInt := by rw [show wh.toInt = wh.toInt from rfl]; omega
  refine lv_tableOut (tgt := 161) hx hb dX10_count_3 o3 (by decide) ?_
  refine lv_bipush (v := (-3)) hx hb dX10_count_161 (by decide) ?_
  exact W.iret (v := (-3)) hx hb hr (fun tq ht hW => ⟨(-3), rfl, (show spCnt mday mdoo mtop mgho mstr mbyt mlin wh ((-3) : Int32) from by (try rw [show ((-3) : Int32).toInt = (-3) from (show ((-3) : Int32).toInt = (-3) from rfl)]); (first | exact Or.inl ⟨by omega, by first | rfl | assumption | exact st_endN i56_5 (by omega) | exact st_endN i80_5 (by omega) | exact as_e i114_5 (by omega)⟩ | exact Or.inr (Or.inl ⟨by omega, by first | rfl | assumption | exact st_endN i56_5 (by omega) | exact st_endN i80_5 (by omega) | exact as_e i114_5 (by omega)⟩) | exact Or.inr (Or.inr (Or.inl ⟨by omega, by first | rfl | assumption | exact st_endN i56_5 (by omega) | exact st_endN i80_5 (by omega) | exact as_e i114_5 (by omega)⟩)) | exact Or.inr (Or.inr (Or.inr (Or.inl ⟨by omega, by first | rfl | assumption | exact st_endN i56_5 (by omega) | exact st_endN i80_5 (by omega) | exact as_e i114_5 (by omega)⟩))) | exact Or.inr (Or.inr (Or.inr (Or.inr (Or.inl ⟨by omega, by first | rfl | assumption | exact st_endN i56_5 (by omega) | exact st_endN i80_5 (by omega) | exact as_e i114_5 (by omega)⟩)))) | exact Or.inr (Or.inr (Or.inr (Or.inr (Or.inr (Or.inl ⟨by omega, by first | rfl | assumption | exact st_endN i56_5 (by omega) | exact st_endN i80_5 (by omega) | exact as_e i114_5 (by omega)⟩))))) | exact Or.inr (Or.inr (Or.inr (Or.inr (Or.inr (Or.inr (Or.inl ⟨by omega, by first | rfl | assumption | exact st_endN i56_5 (by omega) | exact st_endN i80_5 (by omega) | exact as_e i114_5 (by omega)⟩)))))) | exact Or.inr (Or.inr (Or.inr (Or.inr (Or.inr (Or.inr (Or.inr (⟨by omega, by first | rfl | assumption | exact st_endN i56_5 (by omega) | exact st_endN i80_5 (by omega) | exact as_e i114_5 (by omega)⟩))))))))), ht⟩) (fun q h => by cases h) dX10_count_163
set_option maxHeartbeats 4000000 in
set_option maxRecDepth 100000 in
theorem k_X9_isDue2 (l : Launch) (dC : Nat → ClassId) (dI : Nat → Nat → Nat) (cI cZ cQ : ClassId) (a : Nat → Nat) (rb0 : Nat) (rb1 : Nat) (rb2 : Nat) (db0 : Nat) (db1 : Nat) (db2 : Nat) (top : Nat → Int32) (str : Nat → Int32) (gho : Nat → Int32) (ghs : Nat → Int32) (pto : Nat → Int32) (cro : Nat → Int32) (pla : Nat → Int32) (wal : Nat → Int32) (fal : Nat → Int32) (tel : Int32) (gai : Int32) (day : Int32) (mar : Nat → Int32) (mos : Nat → Int32) (wev : Nat → Int32) (aga : Int32) (apa : Int32) (lin : Int32) (ro : Int32) (r_top : rg 48 (-1) (23) top) (r_str : rg 48 (0) (100) str) (r_gho : rg 48 (-1) (23) gho) (r_ghs : rg 48 (0) (100) ghs) (r_cro : rg 48 (0) (6) cro) (r_pla : rg 24 (-1) (47) pla) (r_fal : rg 11 (0) (30) fal) (r_gai : 0 ≤ gai.toInt ∧ gai.toInt ≤ 100) (r_day : 0 ≤ day.toInt ∧ day.toInt ≤ 400) (r_mar : rg 24 (0) (255) mar) (q0 : 0 ≤ ro.toInt) (q1 : ro.toInt ≤ 7) : KR l yX9_isDue wsX9_isDue { frames := 0, cells := 0, slots := 0, locals := 0 } (dC, dI) (TY cI cZ cQ) (wsCR cI cZ cQ a rb0 rb1 rb2 db0 db1 db2 top str gho ghs pto cro pla wal fal tel gai day mar mos wev aga apa lin) [.ref (a 43), .int ro] (fun r : Int32 => ((((r = 1) ∧ (duB (wev ro.toNatClampNeg) (wal ro.toNatClampNeg) day = true)) ∨ ((r = 0) ∧ (duB (wev ro.toNatClampNeg) (wal ro.toNatClampNeg) day = false))))) := by
  refine Met.ofW (cc := cX9_isDue) (maxL := 4) (ret := (some .boolean)) (by decide) rfl ?_
  intro p e s m args below meth c s₁ B hml hv
  obtain ⟨rfl, hP, hK, hN⟩ := hv
  have hx := B.exec
  have hb := B.bytes
  have hr := B.returns
  have hts := atoms_spec (ws := wsX9_isDue) B.pre
  have hown : s.vm.findClass RX9 = some m.cls := findClass_of_methodNamed B.named
  have hlocks := B.notSynchronized
  have lf76 := hts (.fieldLink RX9 76 "PalaceOfRooms" "rules" "LPalaceOfRooms$RuleBook;") (List.mem_cons_of_mem _ (List.mem_append_left _ (List.mem_append_left _ (List.mem_append_left _ (List.mem_of_getElem? (i := 0) rfl)))))
  have inX9 : ∀ w ∈ wsX90, w ∈ wsX9_isDue := fun w h => List.mem_cons_of_mem _ (List.mem_append_left _ (List.mem_append_left _ (List.mem_append_right _ h)))
  have lf303 := hN.use (w := .fieldLinkNest "PalaceOfRooms" 303 "PalaceOfRooms$RuleBook" "walkEvery" "[I" "PalaceOfRooms") (List.mem_of_getElem? (i := 24) rfl) ([.ref (a 43), .int ro] : List Value).toArray
  have inX5 : ∀ w ∈ wsX50, w ∈ wsX9_isDue := fun w h => List.mem_cons_of_mem _ (List.mem_append_left _ (List.mem_append_right _ h))
  have lf28 := hts (.fieldLink RX9 28 "PalaceOfRooms" "corners" "LPalaceOfRooms$Corners;") (List.mem_cons_of_mem _ (List.mem_append_left _ (List.mem_append_left _ (List.mem_append_left _ (List.mem_of_getElem? (i := 1) rfl)))))
  have lf306 := hN.use (w := .fieldLinkNest "PalaceOfRooms" 306 "PalaceOfRooms$Corners" "walkedOn" "[I" "PalaceOfRooms") (List.mem_of_getElem? (i := 9) rfl) ([.ref (a 43), .int ro] : List Value).toArray
  have inX1 : ∀ w ∈ wsX10, w ∈ wsX9_isDue := fun w h => List.mem_cons_of_mem _ (List.mem_append_right _ h)
  have lf153 := hN.use (w := .fieldLinkNest "PalaceOfRooms" 153 "PalaceOfRooms$Corners" "day" "I" "PalaceOfRooms") (List.mem_of_getElem? (i := 13) rfl) ([.ref (a 43), .int ro] : List Value).toArray
  have hl := lv_entry ([.ref (a 43), .int ro]) (n := 4) (Nat.le_of_ble_eq_true rfl)
  rw [lg_entry_eq]
  generalize (lg_sl ([.ref (a 43), .int ro]) ++ List.replicate (4 - (lg_sl ([.ref (a 43), .int ro])).length) Slot.unset).toArray = ls at hl ⊢
  have hl : lv_has ls 4 [(0, .ref (a 43)), (1, .int ro)] := hl
  refine lv_aload_n hx hb dX9_isDue_0 rfl (lv_at hl 0 rfl) ?_
  refine va_get (D := (dC, dI)) (ci := 9) (v := .ref rb0) (C := RX9) (T := TX9) (N := 11) hx hb hts inX9 hown hK hP 0 rfl rfl 9 (by decide) lf76 (fun _ h9 => h9) rfl dX9_isDue_1 ?_
  refine va_getN (D := (dC, dI)) (ci := 5) (v := .ref rb2) (C := RX5) (T := TX5) (N := 5) hx hb hts inX5 hown hK hP 13 rfl rfl 1 (by decide) lf303 (fun _ h9 => h9) rfl dX9_isDue_4 ?_
  refine lv_iload_n hx hb dX9_isDue_7 rfl (lv_at hl 1 rfl) ?_
  have b1 : vp_in ro 8 := inC rfl (by omega) (by omega)
  refine va_iald hx hb hK hP 15 0 rfl rfl b1 dX9_isDue_8 ?_
  refine lv_topi (fun x2 ex2 => ?_)
  have ix2 : x2.toInt = (wev ro.toNatClampNeg).toInt := by rw [ex2]
  refine lv_istore_n (lv' := [(2, .int x2), (0, .ref (a 43)), (1, .int ro)]) hx hb dX9_isDue_9 rfl hl (by decide) rfl (fun ls hl => ?_)
  refine lv_aload_n hx hb dX9_isDue_10 rfl (lv_at hl 1 rfl) ?_
  refine va_get (D := (dC, dI)) (ci := 9) (v := .ref (a 4)) (C := RX9) (T := TX9) (N := 11) hx hb hts inX9 hown hK hP 0 rfl rfl 2 (by decide) lf28 (fun _ h9 => h9) rfl dX9_isDue_11 ?_
  refine va_getN (D := (dC, dI)) (ci := 1) (v := .ref (a 12)) (C := RX1) (T := TX1) (N := 13) hx hb hts inX1 hown hK hP 1 rfl rfl 8 (by decide) lf306 (fun _ h9 => h9) rfl dX9_isDue_14 ?_
  refine lv_iload_n hx hb dX9_isDue_17 rfl (lv_at hl 2 rfl) ?_
  have b3 : vp_in ro 8 := inC rfl (by omega) (by omega)
  refine va_iald hx hb hK hP 9 0 rfl rfl b3 dX9_isDue_18 ?_
  refine lv_topi (fun x4 ex4 => ?_)
  have ix4 : x4.toInt = (wal ro.toNatClampNeg).toInt := by rw [ex4]
  refine lv_istore_n (lv' := [(3, .int x4), (2, .int x2), (0, .ref (a 43)), (1, .int ro)]) hx hb dX9_isDue_19 rfl hl (by decide) rfl (fun ls hl => ?_)
  refine lv_iload_n hx hb dX9_isDue_20 rfl (lv_at hl 1 rfl) ?_
  refine lv_iconst (v := (-1)) hx hb dX9_isDue_21 (by decide) ?_
  refine lv_icmp_eq (tgt := 47) hx hb dX9_isDue_22 (by decide) (fun c5 => ?_) (fun c5 => ?_)
  · have dc5 : x2.toInt = (-1) := eqC rfl (show ((-1) : Int32).toInt = (-1) from rfl) c5
    refine lv_iconst (v := 0) hx hb dX9_isDue_47 (by decide) ?_
    exact W.zret (v := 0) hx hb hr (by decide) (fun tq ht hW => ⟨0, rfl, (Or.inr (⟨rfl, (show duB (wev ro.toNatClampNeg) (wal ro.toNatClampNeg) day = false from by (try rw [show (0 : Int32).toInt = 0 from (show (0 : Int32).toInt = 0 from rfl)]); (first | exact du_1 (by assumption) (by assumption) (by assumption) (by assumption) | exact du_2 (by assumption) (by assumption) (by assumption) (by assumption) | exact du_3 (by assumption) (by assumption) | exact du_4 (by assumption) (by assumption) (by assumption) (by assumption)))⟩)), ht⟩) (fun q h => by cases h) dX9_isDue_48
  · have dc5 : x2.toInt ≠ (-1) := neC rfl (show ((-1) : Int32).toInt = (-1) from rfl) c5
    refine lv_iload_n hx hb dX9_isDue_25 rfl (lv_at hl 0 rfl) ?_
    refine lv_iconst (v := (-1)) hx hb dX9_isDue_26 (by decide) ?_
    refine lv_icmp_eq (tgt := 43) hx hb dX9_isDue_27 (by decide) (fun c6 => ?_) (fun c6 => ?_)
    · have dc6 : x4.toInt = (-1) := eqC rfl (show ((-1) : Int32).toInt = (-1) from rfl) c6
      refine lv_iconst (v := 1) hx hb dX9_isDue_43 (by decide) ?_
      refine lv_goto (tgt := 48) hx hb dX9_isDue_44 (by decide) ?_
      exact W.zret (v := 1) hx hb hr (by decide) (fun tq ht hW => ⟨1, rfl, (Or.inl (⟨rfl, (show duB (wev ro.toNatClampNeg) (wal ro.toNatClampNeg) day = true from by (try rw [show (1 : Int32).toInt = 1 from (show (1 : Int32).toInt = 1 from rfl)]); (first | exact du_1 (by assumption) (by assumption) (by assumption) (by assumption) | exact du_2 (by assumption) (by assumption) (by assumption) (by assumption) | exact du_3 (by assumption) (by assumption) | exact du_4 (by assumption) (by assumption) (by assumption) (by assumption)))⟩)), ht⟩) (fun q h => by cases h) dX9_isDue_48
    · have dc6 : x4.toInt ≠ (-1) := neC rfl (show ((-1) : Int32).toInt = (-1) from rfl) c6
      refine lv_aload_n hx hb dX9_isDue_30 rfl (lv_at hl 2 rfl) ?_
      refine va_get (D := (dC, dI)) (ci := 9) (v := .ref (a 4)) (C := RX9) (T := TX9) (N := 11) hx hb hts inX9 hown hK hP 0 rfl rfl 2 (by decide) lf28 (fun _ h9 => h9) rfl dX9_isDue_31 ?_
      refine va_getN (D := (dC, dI)) (ci := 1) (v := .int day) (C := RX1) (T := TX1) (N := 13) hx hb hts inX1 hown hK hP 1 rfl rfl 12 (by decide) lf153 (fun _ h9 => h9) rfl dX9_isDue_34 ?_
      refine lv_iload_n hx hb dX9_isDue_37 rfl (lv_at hl 0 rfl) ?_
      refine lv_isub hx hb dX9_isDue_38 ?_
      refine lv_iload_n hx hb dX9_isDue_39 rfl (lv_at hl 1 rfl) ?_
      refine lv_icmp_lt (tgt := 47) hx hb dX9_isDue_40 (by decide) (fun c7 => ?_) (fun c7 => ?_)
      · have dc7 : (day - x4).toInt < x2.toInt := ltC rfl rfl c7
        refine lv_iconst (v := 0) hx hb dX9_isDue_47 (by decide) ?_
        exact W.zret (v := 0) hx hb hr (by decide) (fun tq ht hW => ⟨0, rfl, (Or.inr (⟨rfl, (show duB (wev ro.toNatClampNeg) (wal ro.toNatClampNeg) day = false from by (try rw [show (0 : Int32).toInt = 0 from (show (0 : Int32).toInt = 0 from rfl)]); (first | exact du_1 (by assumption) (by assumption) (by assumption) (by assumption) | exact du_2 (by assumption) (by assumption) (by assumption) (by assumption) | exact du_3 (by assumption) (by assumption) | exact du_4 (by assumption) (by assumption) (by assumption) (by assumption)))⟩)), ht⟩) (fun q h => by cases h) dX9_isDue_48
      · have dc7 : x2.toInt ≤ (day - x4).toInt := nltC rfl rfl c7
        refine lv_iconst (v := 1) hx hb dX9_isDue_43 (by decide) ?_
        refine lv_goto (tgt := 48) hx hb dX9_isDue_44 (by decide) ?_
        exact W.zret (v := 1) hx hb hr (by decide) (fun tq ht hW => ⟨1, rfl, (Or.inl (⟨rfl, (show duB (wev ro.toNatClampNeg) (wal ro.toNatClampNeg) day = true from by (try rw [show (1 : Int32).toInt = 1 from (show (1 : Int32).toInt = 1 from rfl)]); (first | exact du_1 (by assumption) (by assumption) (by assumption) (by assumption) | exact du_2 (by assumption) (by assumption) (by assumption) (by assumption) | exact du_3 (by assumption) (by assumption) | exact du_4 (by assumption) (by assumption) (by assumption) (by assumption)))⟩)), ht⟩) (fun q h => by cases h) dX9_isDue_48
set_option maxHeartbeats 4000000 in
set_option maxRecDepth 100000 in
theorem k_X9_due2 (l : Launch) (dC : Nat → ClassId) (dI : Nat → Nat → Nat) (cI cZ cQ : ClassId) (a : Nat → Nat) (rb0 : Nat) (rb1 : Nat) (rb2 : Nat) (db0 : Nat) (db1 : Nat) (db2 : Nat) (top : Nat → Int32) (str : Nat → Int32) (gho : Nat → Int32) (ghs : Nat → Int32) (pto : Nat → Int32) (cro : Nat → Int32) (pla : Nat → Int32) (wal : Nat → Int32) (fal : Nat → Int32) (tel : Int32) (gai : Int32) (day : Int32) (mar : Nat → Int32) (mos : Nat → Int32) (wev : Nat → Int32) (aga : Int32) (apa : Int32) (lin : Int32) (r_top : rg 48 (-1) (23) top) (r_str : rg 48 (0) (100) str) (r_gho : rg 48 (-1) (23) gho) (r_ghs : rg 48 (0) (100) ghs) (r_cro : rg 48 (0) (6) cro) (r_pla : rg 24 (-1) (47) pla) (r_fal : rg 11 (0) (30) fal) (r_gai : 0 ≤ gai.toInt ∧ gai.toInt ≤ 100) (r_day : 0 ≤ day.toInt ∧ day.toInt ≤ 400) (r_mar : rg 24 (0) (255) mar) : KR l yX9_due wsX9_due { frames := 1, cells := 0, slots := 0, locals := 23 } (dC, dI) (TY cI cZ cQ) (wsCR cI cZ cQ a rb0 rb1 rb2 db0 db1 db2 top str gho ghs pto cro pla wal fal tel gai day mar mos wev aga apa lin) [.ref (a 43)] (fun r : Int32 => (spDueC wev wal day r)) := by
  refine Met.ofW (cc := cX9_due) (maxL := 3) (ret := (some .int)) (by decide) rfl ?_
  intro p e s m args below meth c s₁ B hml hv
  obtain ⟨rfl, hP, hK, hN⟩ := hv
  have hx := B.exec
  have hb := B.bytes
  have hr := B.returns
  have hts := atoms_spec (ws := wsX9_due) B.pre
  have hown : s.vm.findClass RX9 = some m.cls := findClass_of_methodNamed B.named
  have hlocks := B.notSynchronized
  have hl := lv_entry ([.ref (a 43)]) (n := 3) (Nat.le_of_ble_eq_true rfl)
  rw [lg_entry_eq]
  generalize (lg_sl ([.ref (a 43)]) ++ List.replicate (3 - (lg_sl ([.ref (a 43)])).length) Slot.unset).toArray = ls at hl ⊢
  have hl : lv_has ls 3 [(0, .ref (a 43))] := hl
  refine lv_iconst (v := 0) hx hb dX9_due_0 (by decide) ?_
  refine lv_istore_n (lv' := [(1, .int 0), (0, .ref (a 43))]) hx hb dX9_due_1 rfl hl (by decide) rfl (fun ls hl => ?_)
  refine lv_iconst (v := 0) hx hb dX9_due_2 (by decide) ?_
  refine lv_istore_n (lv' := [(2, .int 0), (1, .int 0), (0, .ref (a 43))]) hx hb dX9_due_3 rfl hl (by decide) rfl (fun ls hl => ?_)
  have L4 : ∀ (nn : Nat) (y4_1 : Int32) (y4_2 : Int32) (ls : Array Slot), (0 ≤ (y4_2.toInt)) → ((y4_2.toInt) ≤ 8) → (y4_1 = dF (fun j => duB (wev j) (wal j) day) ((y4_2.toInt)).toNat) → (8 - (y4_2.toInt)).toNat < nn → lv_has ls 3 [(0, .ref (a 43)), (1, .int y4_1), (2, .int y4_2)] → W p l e (headSpec wsX9_due { frames := 1, cells := 0, slots := 0, locals := 23 }).room s m ([.ref (a 43)] : List Value).toArray below meth c s.heap [] 0 0 (MQ below (QR (fun r : Int32 => (spDueC wev wal day r))) ([.ref (a 43)] : List Value).toArray s 0 0 (fun _ => False)) (F0 m 4 ls []) := by
    intro nn
    induction nn with
    | zero =>
      intro y4_1 y4_2 ls i4_0 i4_1 i4_2 hm4
      exact absurd hm4 (Nat.not_lt_zero _)
    | succ nn ih4 =>
      intro y4_1 y4_2 ls i4_0 i4_1 i4_2 hm4 hl
      refine lv_iload_n hx hb dX9_due_4 rfl (lv_at hl 2 rfl) ?_
      refine lv_bipush (v := 8) hx hb dX9_due_5 (by decide) ?_
      refine lv_icmp_ge (tgt := 30) hx hb dX9_due_7 (by decide) (fun c1 => ?_) (fun c1 => ?_)
      · have dc1 : 8 ≤ y4_2.toInt := leC (show (8 : Int32).toInt = 8 from rfl) rfl c1
        refine lv_iload_n hx hb dX9_due_30 rfl (lv_at hl 1 rfl) ?_
        exact W.iret (v := y4_1) hx hb hr (fun tq ht hW => ⟨y4_1, rfl, (show spDueC wev wal day y4_1 from by exact dF_e i4_2 (by omega)), ht⟩) (fun q h => by cases h) dX9_due_31
      · have dc1 : y4_2.toInt < 8 := nleC (show (8 : Int32).toInt = 8 from rfl) rfl c1
        refine lv_aload_n hx hb dX9_due_10 rfl (lv_at hl 0 rfl) ?_
        refine lv_iload_n hx hb dX9_due_11 rfl (lv_at hl 2 rfl) ?_
        refine rdV (As := [.int y4_2]) (rest := []) ⟨hx, hb, hml, hown, hts⟩ (k_X9_isDue2 l dC dI cI cZ cQ a rb0 rb1 rb2 db0 db1 db2 top str gho ghs pto cro pla wal fal tel gai day mar mos wev aga apa lin y4_2 r_top r_str r_gho r_ghs r_cro r_pla r_fal r_gai r_day r_mar (by omega) (by omega)) (cwV 1 hts gX9_due_X9_isDue rfl rfl rfl (by decide +kernel) ⟨Nat.le_of_ble_eq_true rfl, Nat.le_of_ble_eq_true rfl⟩) hP hK hN [0, 1, 2, 3, 4, 5, 6, 7, 8, 9, 10, 11, 12, 13, 14, 15] rfl 0 9 rfl rfl rfl hl.1 rfl (Nat.le_of_ble_eq_true rfl) dX9_due_12 ⟨Nat.le_of_ble_eq_true rfl, Nat.le_of_ble_eq_true rfl⟩ (fun r2 h3 => ?_)
        have h3 : ((((r2 = 1) ∧ (duB (wev y4_2.toNatClampNeg) (wal y4_2.toNatClampNeg) day = true)) ∨ ((r2 = 0) ∧ (duB (wev y4_2.toNatClampNeg) (wal y4_2.toNatClampNeg) day = false)))) := h3
        rcases h3 with (⟨rfl, h3_a0⟩ | ⟨rfl, h3_a0⟩)
        · refine lv_if_eq (tgt := 24) hx hb dX9_due_15 (by decide) (fun c9 => absurd c9 (by decide)) (fun _ => ?_)
          refine lv_iload_n hx hb dX9_due_18 rfl (lv_at hl 1 rfl) ?_
          refine lv_iconst (v := 1) hx hb dX9_due_19 (by decide) ?_
          refine lv_iload_n hx hb dX9_due_20 rfl (lv_at hl 2 rfl) ?_
          refine lv_ishl hx hb dX9_due_21 ?_
          have f4 : 1 ≤ ((1 : Int32) <<< (y4_2 &&& 31)).toInt ∧ ((1 : Int32) <<< (y4_2 &&& 31)).toInt ≤ 128 := shl1 rfl (by omega) 7 (by omega) (by decide)
          refine lv_ior hx hb dX9_due_22 ?_
          refine lv_topi (fun x5 ex5 => ?_)
          have ix5 : x5.toInt = (y4_1 ||| ((1 : Int32) <<< (y4_2 &&& 31))).toInt := by rw [ex5]
          refine lv_istore_n (lv' := [(1, .int x5), (0, .ref (a 43)), (2, .int y4_2)]) hx hb dX9_due_23 rfl hl (by decide) rfl (fun ls hl => ?_)
          obtain ⟨z6, ez6⟩ : ∃ y : Int32, y = y4_2 + 1 := ⟨_, rfl⟩
          have iz6 : z6.toInt = y4_2.toInt + 1 := by rw [ez6]; exact addC rfl rfl (by omega) (by omega)
          refine lv_iinc (v := z6) (lv' := [(2, .int z6), (1, .int x5), (0, .ref (a 43))]) hx hb dX9_due_24 hl (k := 2) rfl (by rw [ez6]; rfl) (by decide) rfl (fun ls hl => ?_)
          refine lv_goto (tgt := 4) hx hb dX9_due_27 (by decide) ?_
          exact ih4 x5 z6 _ (by omega) (by omega) (by (first | exact dF_y (y := y4_2) i4_2 (by assumption) (by assumption) (by omega) (by omega) | exact dF_n (y := y4_2) i4_2 (by assumption) rfl (by omega) (by omega) | exact dF_0 rfl (by first | rfl | omega))) (by omega) (lv_sub hl [2, 1, 0] rfl)
        · refine lv_if_eq (tgt := 24) hx hb dX9_due_15 (by decide) (fun _ => ?_) (fun c9 => absurd (by decide) c9)
          obtain ⟨z7, ez7⟩ : ∃ y : Int32, y = y4_2 + 1 := ⟨_, rfl⟩
          have iz7 : z7.toInt = y4_2.toInt + 1 := by rw [ez7]; exact addC rfl rfl (by omega) (by omega)
          refine lv_iinc (v := z7) (lv' := [(2, .int z7), (0, .ref (a 43)), (1, .int y4_1)]) hx hb dX9_due_24 hl (k := 2) rfl (by rw [ez7]; rfl) (by decide) rfl (fun ls hl => ?_)
          refine lv_goto (tgt := 4) hx hb dX9_due_27 (by decide) ?_
          exact ih4 y4_1 z7 _ (by omega) (by omega) (by (first | exact dF_y (y := y4_2) i4_2 (by assumption) (by assumption) (by omega) (by omega) | exact dF_n (y := y4_2) i4_2 (by assumption) rfl (by omega) (by omega) | exact dF_0 rfl (by first | rfl | omega))) (by omega) (lv_sub hl [1, 2, 0] rfl)
  have kc8 : (0 : Int32).toInt = 0 := rfl
  exact L4 _ 0 0 _ (by omega) (by omega) (by (first | exact dF_y (y := y4_2) i4_2 (by assumption) (by assumption) (by omega) (by omega) | exact dF_n (y := y4_2) i4_2 (by assumption) rfl (by omega) (by omega) | exact dF_0 rfl (by first | rfl | omega))) (Nat.lt_succ_self _) (lv_sub hl [2, 1, 0] rfl)
set_option maxHeartbeats 4000000 in
set_option maxRecDepth 100000 in
theorem k_X10_lastOf2 (l : Launch) (dC : Nat → ClassId) (dI : Nat → Nat → Nat) (cI cZ cQ : ClassId) (b : Nat → Nat) (mday : Int32) (mdoo : Int32) (mdA : Nat → Int32) (mdB : Nat → Int32) (mfar : Nat → Int32) (mmar : Nat → Int32) (mtel : Int32) (mgai : Int32) (mfal : Nat → Int32) (mtop : Nat → Int32) (mstr : Nat → Int32) (mgho : Nat → Int32) (mfai : Nat → Int32) (mpto : Nat → Int32) (mwal : Nat → Int32) (mahd : Nat → Int32) (mahf : Nat → Int32) (mcho : Nat → Int32) (mbes : Nat → Int32) (mbyt : Int32) (mtxt : Nat → Int32) (mpos : Int32) (mtka : Int32) (mtok : Int64) (mdig : Int32) (mnum : Int32) (mfau : Int32) (mrdm : Int32) (mrea : Nat → Int32) (mlin : Int32) (mlne : Nat → Int32) (mthg : Nat → Int32) (mord : Nat → Int32) (mbor : Nat → Int32) (mbsm : Int32) (mans : Nat → Int32) (mand : Nat → Int32) (manr : Nat → Int32) (mali : Nat → Int32) (so : Int32) (ro : Int32) (wi : Int32) (r_mday : 0 ≤ mday.toInt ∧ mday.toInt ≤ 400) (r_mdoo : 0 ≤ mdoo.toInt ∧ mdoo.toInt ≤ 14) (r_mdA : rg 14 (0) (7) mdA) (r_mdB : rg 14 (0) (7) mdB) (r_mmar : rg 24 (0) (255) mmar) (r_mgai : 0 ≤ mgai.toInt ∧ mgai.toInt ≤ 100) (r_mfal : rg 11 (0) (30) mfal) (r_mtop : rg 48 (-1) (23) mtop) (r_mstr : rg 48 (0) (100) mstr) (r_mgho : rg 48 (-1) (23) mgho) (r_mfai : rg 48 (0) (100) mfai) (r_mahd : rg 240 (0) (100) mahd) (r_mahf : rg 240 (0) (100) mahf) (r_mcho : rg 5 (-1) (9) mcho) (r_mbyt : 0 ≤ mbyt.toInt ∧ mbyt.toInt ≤ 160) (r_mpos : 0 ≤ mpos.toInt ∧ mpos.toInt ≤ 160) (r_mrdm : 0 ≤ mrdm.toInt ∧ mrdm.toInt ≤ 10) (r_mlin : 0 ≤ mlin.toInt ∧ mlin.toInt ≤ 10) (r_mthg : rg 8 (0) (31) mthg) (r_mord : rg 8 (-1) (8) mord) (r_mans : rg 4 (0) (12) mans) : KR l yX10_lastOf wsX10_lastOf { frames := 0, cells := 0, slots := 0, locals := 0 } (dC, dI) (TY cI cZ cQ) (wMod cI cZ cQ b mday mdoo mdA mdB mfar mmar mtel mgai mfal mtop mstr mgho mfai mpto mwal mahd mahf mcho mbes mbyt mtxt mpos mtka mtok mdig mnum mfau mrdm mrea mlin mlne mthg mord mbor mbsm mans mand manr mali) [.ref (b 39), .int so, .int ro, .int wi] (fun r : Int32 => (r = laF mlne so ro wi mlin.toInt.toNat)) := by
  refine Met.ofW (cc := cX10_lastOf) (maxL := 6) (ret := (some .int)) (by decide) rfl ?_
  intro p e s m args below meth c s₁ B hml hv
  obtain ⟨rfl, hP, hK, hN⟩ := hv
  have hx := B.exec
  have hb := B.bytes
  have hr := B.returns
  have hts := atoms_spec (ws := wsX10_lastOf) B.pre
  have hown : s.vm.findClass RX10 = some m.cls := findClass_of_methodNamed B.named
  have hlocks := B.notSynchronized
  have lf210 := hts (.fieldLink RX10 210 "PalaceOfRoomsModel" "lines" "I") (List.mem_cons_of_mem _ (List.mem_append_left _ (List.mem_of_getElem? (i := 0) rfl)))
  have inX10 : ∀ w ∈ wsX100, w ∈ wsX10_lastOf := fun w h => List.mem_cons_of_mem _ (List.mem_append_right _ h)
  have lf68 := hts (.fieldLink RX10 68 "PalaceOfRoomsModel" "line" "[I") (List.mem_cons_of_mem _ (List.mem_append_left _ (List.mem_of_getElem? (i := 1) rfl)))
  have hl := lv_entry ([.ref (b 39), .int so, .int ro, .int wi]) (n := 6) (Nat.le_of_ble_eq_true rfl)
  rw [lg_entry_eq]
  generalize (lg_sl ([.ref (b 39), .int so, .int ro, .int wi]) ++ List.replicate (6 - (lg_sl ([.ref (b 39), .int so, .int ro, .int wi])).length) Slot.unset).toArray = ls at hl ⊢
  have hl : lv_has ls 6 [(0, .ref (b 39)), (1, .int so), (2, .int ro), (3, .int wi)] := hl
  refine lv_iload_n hx hb dX10_lastOf_0 rfl (lv_at hl 3 rfl) ?_
  refine lv_istore (lv' := [(4, .int wi), (0, .ref (b 39)), (1, .int so), (2, .int ro), (3, .int wi)]) hx hb dX10_lastOf_1 hl (by decide) rfl (fun ls hl => ?_)
  refine lv_iconst (v := 0) hx hb dX10_lastOf_3 (by decide) ?_
  refine lv_istore (lv' := [(5, .int 0), (4, .int wi), (0, .ref (b 39)), (1, .int so), (2, .int ro), (3, .int wi)]) hx hb dX10_lastOf_4 hl (by decide) rfl (fun ls hl => ?_)
  have L6 : ∀ (nn : Nat) (y6_4 : Int32) (y6_5 : Int32) (ls : Array Slot), (0 ≤ (y6_5.toInt)) → ((y6_5.toInt) ≤ 10) → (y6_4 = laF mlne so ro wi ((y6_5.toInt)).toNat) → ((y6_5.toInt) ≤ mlin.toInt) → (10 - (y6_5.toInt)).toNat < nn → lv_has ls 6 [(0, .ref (b 39)), (1, .int so), (2, .int ro), (4, .int y6_4), (5, .int y6_5)] → W p l e (headSpec wsX10_lastOf { frames := 0, cells := 0, slots := 0, locals := 0 }).room s m ([.ref (b 39), .int so, .int ro, .int wi] : List Value).toArray below meth c s.heap [] 0 0 (MQ below (QR (fun r : Int32 => (r = laF mlne so ro wi mlin.toInt.toNat))) ([.ref (b 39), .int so, .int ro, .int wi] : List Value).toArray s 0 0 (fun _ => False)) (F0 m 6 ls []) := by
    intro nn
    induction nn with
    | zero =>
      intro y6_4 y6_5 ls i6_0 i6_1 i6_2 i6_3 hm6
      exact absurd hm6 (Nat.not_lt_zero _)
    | succ nn ih6 =>
      intro y6_4 y6_5 ls i6_0 i6_1 i6_2 i6_3 hm6 hl
      refine lv_iload hx hb dX10_lastOf_6 (lv_at hl 4 rfl) ?_
      refine lv_aload_n hx hb dX10_lastOf_8 rfl (lv_at hl 0 rfl) ?_
      refine va_get (D := (dC, dI)) (ci := 10) (v := .int mlin) (C := RX10) (T := TX10) (N := 39) hx hb hts inX10 hown hK hP 0 rfl rfl 29 (by decide) lf210 (fun _ h9 => h9) rfl dX10_lastOf_9 ?_
      refine lv_icmp_ge (tgt := 67) hx hb dX10_lastOf_12 (by decide) (fun c1 => ?_) (fun c1 => ?_)
      · have dc1 : mlin.toInt ≤ y6_5.toInt := leC rfl rfl c1
        refine lv_iload hx hb dX10_lastOf_67 (lv_at hl 3 rfl) ?_
        exact W.iret (v := y6_4) hx hb hr (fun tq ht hW => ⟨y6_4, rfl, (show y6_4 = laF mlne so ro wi mlin.toInt.toNat from by exact lo_e i6_2 (by omega)), ht⟩) (fun q h => by cases h) dX10_lastOf_69
      · have dc1 : y6_5.toInt < mlin.toInt := nleC rfl rfl c1
        have l3a : (3 * y6_5).toInt = 3 * (y6_5.toInt) := mulC (a := 3) rfl rfl (by omega) (by omega)
        have l3b : (3 * y6_5 + 1).toInt = 3 * (y6_5.toInt) + 1 := addC l3a rfl (by omega) (by omega)
        have l3c : (3 * y6_5 + 2).toInt = 3 * (y6_5.toInt) + 2 := addC l3a rfl (by omega) (by omega)
        refine lv_aload_n hx hb dX10_lastOf_15 rfl (lv_at hl 0 rfl) ?_
        refine va_get (D := (dC, dI)) (ci := 10) (v := .ref (b 30)) (C := RX10) (T := TX10) (N := 39) hx hb hts inX10 hown hK hP 0 rfl rfl 30 (by decide) lf68 (fun _ h9 => h9) rfl dX10_lastOf_16 ?_
        refine lv_iconst (v := 3) hx hb dX10_lastOf_19 (by decide) ?_
        refine lv_iload hx hb dX10_lastOf_20 (lv_at hl 4 rfl) ?_
        refine lv_imul hx hb dX10_lastOf_22 ?_
        have f2 : (3 * y6_5).toInt = (3) * (y6_5.toInt) := mulC (show (3 : Int32).toInt = 3 from rfl) rfl (by omega) (by omega)
        have b3 : vp_in (3 * y6_5) 30 := inC f2 (by omega) (by omega)
        refine va_iald hx hb hK hP 18 0 rfl rfl b3 dX10_lastOf_23 ?_
        refine lv_iload_n hx hb dX10_lastOf_24 rfl (lv_at hl 1 rfl) ?_
        refine lv_icmp_ne (tgt := 57) hx hb dX10_lastOf_25 (by decide) (fun c4 => ?_) (fun c4 => ?_)
        · have dc4 : (mlne (3 * y6_5).toNatClampNeg).toInt ≠ so.toInt := neC rfl rfl c4
          refine lv_iload hx hb dX10_lastOf_57 (lv_at hl 3 rfl) ?_
          refine lv_istore (lv' := [(4, .int y6_4), (0, .ref (b 39)), (1, .int so), (2, .int ro), (5, .int y6_5)]) hx hb dX10_lastOf_59 hl (by decide) rfl (fun ls hl => ?_)
          obtain ⟨z5, ez5⟩ : ∃ y : Int32, y = y6_5 + 1 := ⟨_, rfl⟩
          have iz5 : z5.toInt = y6_5.toInt + 1 := by rw [ez5]; exact addC rfl rfl (by omega) (by omega)
          refine lv_iinc (v := z5) (lv' := [(5, .int z5), (4, .int y6_4), (0, .ref (b 39)), (1, .int so), (2, .int ro)]) hx hb dX10_lastOf_61 hl (k := 4) rfl (by rw [ez5]; rfl) (by decide) rfl (fun ls hl => ?_)
          refine lv_goto (tgt := 6) hx hb dX10_lastOf_64 (by decide) ?_
          exact ih6 y6_4 z5 _ (by omega) (by omega) (by (first | exact lo_s (y := y6_5) (a := 3 * y6_5) (b := 3 * y6_5 + 1) (c := 3 * y6_5 + 2) i6_2 (by omega) l3a l3b l3c (by first | exact Or.inl ⟨by assumption, by assumption, by first | rfl | assumption⟩ | exact Or.inr ⟨fun q => absurd q.1 (by assumption), rfl⟩ | exact Or.inr ⟨fun q => absurd q.2 (by assumption), rfl⟩) (by omega) | exact lo_0 rfl (by first | rfl | omega))) (by omega) (by omega) (lv_sub hl [2, 3, 4, 1, 0] rfl)
        · have dc4 : (mlne (3 * y6_5).toNatClampNeg).toInt = so.toInt := eqC rfl rfl c4
          refine lv_aload_n hx hb dX10_lastOf_28 rfl (lv_at hl 0 rfl) ?_
          refine va_get (D := (dC, dI)) (ci := 10) (v := .ref (b 30)) (C := RX10) (T := TX10) (N := 39) hx hb hts inX10 hown hK hP 0 rfl rfl 30 (by decide) lf68 (fun _ h9 => h9) rfl dX10_lastOf_29 ?_
          refine lv_iconst (v := 3) hx hb dX10_lastOf_32 (by decide) ?_
          refine lv_iload hx hb dX10_lastOf_33 (lv_at hl 4 rfl) ?_
          refine lv_imul hx hb dX10_lastOf_35 ?_
          have f6 : (3 * y6_5).toInt = (3) * (y6_5.toInt) := mulC (show (3 : Int32).toInt = 3 from rfl) rfl (by omega) (by omega)
          refine lv_iconst (v := 1) hx hb dX10_lastOf_36 (by decide) ?_
          refine lv_iadd hx hb dX10_lastOf_37 ?_
          have f7 : ((3 * y6_5) + 1).toInt = ((3) * (y6_5.toInt)) + (1) := addC f6 (show (1 : Int32).toInt = 1 from rfl) (by omega) (by omega)
          have b8 : vp_in ((3 * y6_5) + 1) 30 := inC f7 (by omega) (by omega)
          refine va_iald hx hb hK hP 18 0 rfl rfl b8 dX10_lastOf_38 ?_
          refine lv_iload_n hx hb dX10_lastOf_39 rfl (lv_at hl 2 rfl) ?_
          refine lv_icmp_ne (tgt := 57) hx hb dX10_lastOf_40 (by decide) (fun c9 => ?_) (fun c9 => ?_)
          · have dc9 : (mlne ((3 * y6_5) + 1).toNatClampNeg).toInt ≠ ro.toInt := neC rfl rfl c9
            refine lv_iload hx hb dX10_lastOf_57 (lv_at hl 3 rfl) ?_
            refine lv_istore (lv' := [(4, .int y6_4), (0, .ref (b 39)), (1, .int so), (2, .int ro), (5, .int y6_5)]) hx hb dX10_lastOf_59 hl (by decide) rfl (fun ls hl => ?_)
            obtain ⟨z10, ez10⟩ : ∃ y : Int32, y = y6_5 + 1 := ⟨_, rfl⟩
            have iz10 : z10.toInt = y6_5.toInt + 1 := by rw [ez10]; exact addC rfl rfl (by omega) (by omega)
            refine lv_iinc (v := z10) (lv' := [(5, .int z10), (4, .int y6_4), (0, .ref (b 39)), (1, .int so), (2, .int ro)]) hx hb dX10_lastOf_61 hl (k := 4) rfl (by rw [ez10]; rfl) (by decide) rfl (fun ls hl => ?_)
            refine lv_goto (tgt := 6) hx hb dX10_lastOf_64 (by decide) ?_
            exact ih6 y6_4 z10 _ (by omega) (by omega) (by (first | exact lo_s (y := y6_5) (a := 3 * y6_5) (b := 3 * y6_5 + 1) (c := 3 * y6_5 + 2) i6_2 (by omega) l3a l3b l3c (by first | exact Or.inl ⟨by assumption, by assumption, by first | rfl | assumption⟩ | exact Or.inr ⟨fun q => absurd q.1 (by assumption), rfl⟩ | exact Or.inr ⟨fun q => absurd q.2 (by assumption), rfl⟩) (by omega) | exact lo_0 rfl (by first | rfl | omega))) (by omega) (by omega) (lv_sub hl [2, 3, 4, 1, 0] rfl)
          · have dc9 : (mlne ((3 * y6_5) + 1).toNatClampNeg).toInt = ro.toInt := eqC rfl rfl c9
            refine lv_aload_n hx hb dX10_lastOf_43 rfl (lv_at hl 0 rfl) ?_
            refine va_get (D := (dC, dI)) (ci := 10) (v := .ref (b 30)) (C := RX10) (T := TX10) (N := 39) hx hb hts inX10 hown hK hP 0 rfl rfl 30 (by decide) lf68 (fun _ h9 => h9) rfl dX10_lastOf_44 ?_
            refine lv_iconst (v := 3) hx hb dX10_lastOf_47 (by decide) ?_
            refine lv_iload hx hb dX10_lastOf_48 (lv_at hl 4 rfl) ?_
            refine lv_imul hx hb dX10_lastOf_50 ?_
            have f11 : (3 * y6_5).toInt = (3) * (y6_5.toInt) := mulC (show (3 : Int32).toInt = 3 from rfl) rfl (by omega) (by omega)
            refine lv_iconst (v := 2) hx hb dX10_lastOf_51 (by decide) ?_
            refine lv_iadd hx hb dX10_lastOf_52 ?_
            have f12 : ((3 * y6_5) + 2).toInt = ((3) * (y6_5.toInt)) + (2) := addC f11 (show (2 : Int32).toInt = 2 from rfl) (by omega) (by omega)
            have b13 : vp_in ((3 * y6_5) + 2) 30 := inC f12 (by omega) (by omega)
            refine va_iald hx hb hK hP 18 0 rfl rfl b13 dX10_lastOf_53 ?_
            refine lv_goto (tgt := 59) hx hb dX10_lastOf_54 (by decide) ?_
            refine lv_topi (fun x14 ex14 => ?_)
            have ix14 : x14.toInt = (mlne ((3 * y6_5) + 2).toNatClampNeg).toInt := by rw [ex14]
            refine lv_istore (lv' := [(4, .int x14), (0, .ref (b 39)), (1, .int so), (2, .int ro), (5, .int y6_5)]) hx hb dX10_lastOf_59 hl (by decide) rfl (fun ls hl => ?_)
            obtain ⟨z15, ez15⟩ : ∃ y : Int32, y = y6_5 + 1 := ⟨_, rfl⟩
            have iz15 : z15.toInt = y6_5.toInt + 1 := by rw [ez15]; exact addC rfl rfl (by omega) (by omega)
            refine lv_iinc (v := z15) (lv' := [(5, .int z15), (4, .int x14), (0, .ref (b 39)), (1, .int so), (2, .int ro)]) hx hb dX10_lastOf_61 hl (k := 4) rfl (by rw [ez15]; rfl) (by decide) rfl (fun ls hl => ?_)
            refine lv_goto (tgt := 6) hx hb dX10_lastOf_64 (by decide) ?_
            exact ih6 x14 z15 _ (by omega) (by omega) (by (first | exact lo_s (y := y6_5) (a := 3 * y6_5) (b := 3 * y6_5 + 1) (c := 3 * y6_5 + 2) i6_2 (by omega) l3a l3b l3c (by first | exact Or.inl ⟨by assumption, by assumption, by first | rfl | assumption⟩ | exact Or.inr ⟨fun q => absurd q.1 (by assumption), rfl⟩ | exact Or.inr ⟨fun q => absurd q.2 (by assumption), rfl⟩) (by omega) | exact lo_0 rfl (by first | rfl | omega))) (by omega) (by omega) (lv_sub hl [2, 3, 4, 1, 0] rfl)
  have kc16 : (0 : Int32).toInt = 0 := rfl
  exact L6 _ wi 0 _ (by omega) (by omega) (by (first | exact lo_s (y := y6_5) (a := 3 * y6_5) (b := 3 * y6_5 + 1) (c := 3 * y6_5 + 2) i6_2 (by omega) l3a l3b l3c (by first | exact Or.inl ⟨by assumption, by assumption, by first | rfl | assumption⟩ | exact Or.inr ⟨fun q => absurd q.1 (by assumption), rfl⟩ | exact Or.inr ⟨fun q => absurd q.2 (by assumption), rfl⟩) (by omega) | exact lo_0 rfl (by first | rfl | omega))) (by omega) (Nat.lt_succ_self _) (lv_sub hl [2, 3, 4, 1, 0] rfl)
set_option maxHeartbeats 4000000 in
set_option maxRecDepth 100000 in
theorem k_X10_due2 (l : Launch) (dC : Nat → ClassId) (dI : Nat → Nat → Nat) (cI cZ cQ : ClassId) (b : Nat → Nat) (mday : Int32) (mdoo : Int32) (mdA : Nat → Int32) (mdB : Nat → Int32) (mfar : Nat → Int32) (mmar : Nat → Int32) (mtel : Int32) (mgai : Int32) (mfal : Nat → Int32) (mtop : Nat → Int32) (mstr : Nat → Int32) (mgho : Nat → Int32) (mfai : Nat → Int32) (mpto : Nat → Int32) (mwal : Nat → Int32) (mahd : Nat → Int32) (mahf : Nat → Int32) (mcho : Nat → Int32) (mbes : Nat → Int32) (mbyt : Int32) (mtxt : Nat → Int32) (mpos : Int32) (mtka : Int32) (mtok : Int64) (mdig : Int32) (mnum : Int32) (mfau : Int32) (mrdm : Int32) (mrea : Nat → Int32) (mlin : Int32) (mlne : Nat → Int32) (mthg : Nat → Int32) (mord : Nat → Int32) (mbor : Nat → Int32) (mbsm : Int32) (mans : Nat → Int32) (mand : Nat → Int32) (manr : Nat → Int32) (mali : Nat → Int32) (r_mday : 0 ≤ mday.toInt ∧ mday.toInt ≤ 400) (r_mdoo : 0 ≤ mdoo.toInt ∧ mdoo.toInt ≤ 14) (r_mdA : rg 14 (0) (7) mdA) (r_mdB : rg 14 (0) (7) mdB) (r_mmar : rg 24 (0) (255) mmar) (r_mgai : 0 ≤ mgai.toInt ∧ mgai.toInt ≤ 100) (r_mfal : rg 11 (0) (30) mfal) (r_mtop : rg 48 (-1) (23) mtop) (r_mstr : rg 48 (0) (100) mstr) (r_mgho : rg 48 (-1) (23) mgho) (r_mfai : rg 48 (0) (100) mfai) (r_mahd : rg 240 (0) (100) mahd) (r_mahf : rg 240 (0) (100) mahf) (r_mcho : rg 5 (-1) (9) mcho) (r_mbyt : 0 ≤ mbyt.toInt ∧ mbyt.toInt ≤ 160) (r_mpos : 0 ≤ mpos.toInt ∧ mpos.toInt ≤ 160) (r_mrdm : 0 ≤ mrdm.toInt ∧ mrdm.toInt ≤ 10) (r_mlin : 0 ≤ mlin.toInt ∧ mlin.toInt ≤ 10) (r_mthg : rg 8 (0) (31) mthg) (r_mord : rg 8 (-1) (8) mord) (r_mans : rg 4 (0) (12) mans) : KR l yX10_due wsX10_due { frames := 1, cells := 0, slots := 0, locals := 25 } (dC, dI) (TY cI cZ cQ) (wMod cI cZ cQ b mday mdoo mdA mdB mfar mmar mtel mgai mfal mtop mstr mgho mfai mpto mwal mahd mahf mcho mbes mbyt mtxt mpos mtka mtok mdig mnum mfau mrdm mrea mlin mlne mthg mord mbor mbsm mans mand manr mali) [.ref (b 39)] (fun r : Int32 => (spDueM mlne mlin mwal mday r)) := by
  refine Met.ofW (cc := cX10_due) (maxL := 5) (ret := (some .int)) (by decide) rfl ?_
  intro p e s m args below meth c s₁ B hml hv
  obtain ⟨rfl, hP, hK, hN⟩ := hv
  have hx := B.exec
  have hb := B.bytes
  have hr := B.returns
  have hts := atoms_spec (ws := wsX10_due) B.pre
  have hown : s.vm.findClass RX10 = some m.cls := findClass_of_methodNamed B.named
  have hlocks := B.notSynchronized
  have lf47 := hts (.fieldLink RX10 47 "PalaceOfRoomsModel" "walkedOn" "[I") (List.mem_cons_of_mem _ (List.mem_append_left _ (List.mem_of_getElem? (i := 0) rfl)))
  have inX10 : ∀ w ∈ wsX100, w ∈ wsX10_due := fun w h => List.mem_cons_of_mem _ (List.mem_append_right _ h)
  have lf125 := hts (.fieldLink RX10 125 "PalaceOfRoomsModel" "day" "I") (List.mem_cons_of_mem _ (List.mem_append_left _ (List.mem_of_getElem? (i := 1) rfl)))
  have hl := lv_entry ([.ref (b 39)]) (n := 5) (Nat.le_of_ble_eq_true rfl)
  rw [lg_entry_eq]
  generalize (lg_sl ([.ref (b 39)]) ++ List.replicate (5 - (lg_sl ([.ref (b 39)])).length) Slot.unset).toArray = ls at hl ⊢
  have hl : lv_has ls 5 [(0, .ref (b 39))] := hl
  refine lv_iconst (v := 0) hx hb dX10_due_0 (by decide) ?_
  refine lv_istore_n (lv' := [(1, .int 0), (0, .ref (b 39))]) hx hb dX10_due_1 rfl hl (by decide) rfl (fun ls hl => ?_)
  refine lv_iconst (v := 0) hx hb dX10_due_2 (by decide) ?_
  refine lv_istore_n (lv' := [(2, .int 0), (1, .int 0), (0, .ref (b 39))]) hx hb dX10_due_3 rfl hl (by decide) rfl (fun ls hl => ?_)
  have L4 : ∀ (nn : Nat) (y4_1 : Int32) (y4_2 : Int32) (ls : Array Slot), (0 ≤ (y4_2.toInt)) → ((y4_2.toInt) ≤ 8) → (y4_1 = dF (fun j => duM (laF mlne 3 (nI j) 0 mlin.toInt.toNat) (mwal j) mday) ((y4_2.toInt)).toNat) → (8 - (y4_2.toInt)).toNat < nn → lv_has ls 5 [(0, .ref (b 39)), (1, .int y4_1), (2, .int y4_2)] → W p l e (headSpec wsX10_due { frames := 1, cells := 0, slots := 0, locals := 25 }).room s m ([.ref (b 39)] : List Value).toArray below meth c s.heap [] 0 0 (MQ below (QR (fun r : Int32 => (spDueM mlne mlin mwal mday r))) ([.ref (b 39)] : List Value).toArray s 0 0 (fun _ => False)) (F0 m 4 ls []) := by
    intro nn
    induction nn with
    | zero =>
      intro y4_1 y4_2 ls i4_0 i4_1 i4_2 hm4
      exact absurd hm4 (Nat.not_lt_zero _)
    | succ nn ih4 =>
      intro y4_1 y4_2 ls i4_0 i4_1 i4_2 hm4 hl
      refine lv_iload_n hx hb dX10_due_4 rfl (lv_at hl 2 rfl) ?_
      refine lv_bipush (v := 8) hx hb dX10_due_5 (by decide) ?_
      refine lv_icmp_ge (tgt := 75) hx hb dX10_due_7 (by decide) (fun c1 => ?_) (fun c1 => ?_)
      · have dc1 : 8 ≤ y4_2.toInt := leC (show (8 : Int32).toInt = 8 from rfl) rfl c1
        refine lv_iload_n hx hb dX10_due_75 rfl (lv_at hl 1 rfl) ?_
        exact W.iret (v := y4_1) hx hb hr (fun tq ht hW => ⟨y4_1, rfl, (show spDueM mlne mlin mwal mday y4_1 from by exact dF_e i4_2 (by omega)), ht⟩) (fun q h => by cases h) dX10_due_76
      · have dc1 : y4_2.toInt < 8 := nleC (show (8 : Int32).toInt = 8 from rfl) rfl c1
        refine lv_aload_n hx hb dX10_due_10 rfl (lv_at hl 0 rfl) ?_
        refine lv_iconst (v := 3) hx hb dX10_due_11 (by decide) ?_
        refine lv_iload_n hx hb dX10_due_12 rfl (lv_at hl 2 rfl) ?_
        refine lv_iconst (v := 0) hx hb dX10_due_13 (by decide) ?_
        refine rdV (As := [.int 3, .int y4_2, .int 0]) (rest := []) ⟨hx, hb, hml, hown, hts⟩ (k_X10_lastOf2 l dC dI cI cZ cQ b mday mdoo mdA mdB mfar mmar mtel mgai mfal mtop mstr mgho mfai mpto mwal mahd mahf mcho mbes mbyt mtxt mpos mtka mtok mdig mnum mfau mrdm mrea mlin mlne mthg mord mbor mbsm mans mand manr mali (3 : Int32) y4_2 (0 : Int32) r_mday r_mdoo r_mdA r_mdB r_mmar r_mgai r_mfal r_mtop r_mstr r_mgho r_mfai r_mahd r_mahf r_mcho r_mbyt r_mpos r_mrdm r_mlin r_mthg r_mord r_mans) (cwV 3 hts gX10_due_X10_lastOf rfl rfl rfl (by decide +kernel) ⟨Nat.le_of_ble_eq_true rfl, Nat.le_of_ble_eq_true rfl⟩) hP hK hN [0, 1, 2, 3, 4, 5, 6, 7, 8, 9, 10, 11, 12, 13, 14, 15, 16, 17, 18, 19, 20, 21, 22, 23, 24, 25] rfl 0 10 rfl rfl rfl hl.1 rfl (Nat.le_of_ble_eq_true rfl) dX10_due_14 ⟨Nat.le_of_ble_eq_true rfl, Nat.le_of_ble_eq_true rfl⟩ (fun r2 h3 => ?_)
        have h3 : (r2 = laF mlne (3 : Int32) y4_2 (0 : Int32) mlin.toInt.toNat) := h3
        have h3_0 := h3
        refine lv_istore_n (lv' := [(3, .int r2), (0, .ref (b 39)), (1, .int y4_1), (2, .int y4_2)]) hx hb dX10_due_17 rfl hl (by decide) rfl (fun ls hl => ?_)
        refine lv_iload_n hx hb dX10_due_18 rfl (lv_at hl 0 rfl) ?_
        refine lv_if_le (tgt := 51) hx hb dX10_due_19 (by decide) (fun c4 => ?_) (fun c4 => ?_)
        · have dc4 : r2.toInt ≤ 0 := leC rfl (show (0 : Int32).toInt = 0 from rfl) c4
          refine lv_iconst (v := 0) hx hb dX10_due_51 (by decide) ?_
          refine lv_istore (lv' := [(4, .int 0), (3, .int r2), (0, .ref (b 39)), (1, .int y4_1), (2, .int y4_2)]) hx hb dX10_due_52 hl (by decide) rfl (fun ls hl => ?_)
          refine lv_iload_n hx hb dX10_due_54 rfl (lv_at hl 3 rfl) ?_
          refine lv_iload hx hb dX10_due_55 (lv_at hl 0 rfl) ?_
          refine lv_if_eq (tgt := 66) hx hb dX10_due_57 (by decide) (fun _ => ?_) (fun c9 => absurd (by decide) c9)
          refine lv_iconst (v := 0) hx hb dX10_due_66 (by decide) ?_
          refine lv_ior hx hb dX10_due_67 ?_
          refine lv_topi (fun x5 ex5 => ?_)
          have ix5 : x5.toInt = (y4_1 ||| 0).toInt := by rw [ex5]
          refine lv_istore_n (lv' := [(1, .int x5), (4, .int 0), (3, .int r2), (0, .ref (b 39)), (2, .int y4_2)]) hx hb dX10_due_68 rfl hl (by decide) rfl (fun ls hl => ?_)
          obtain ⟨z6, ez6⟩ : ∃ y : Int32, y = y4_2 + 1 := ⟨_, rfl⟩
          have iz6 : z6.toInt = y4_2.toInt + 1 := by rw [ez6]; exact addC rfl rfl (by omega) (by omega)
          refine lv_iinc (v := z6) (lv' := [(2, .int z6), (1, .int x5), (4, .int 0), (3, .int r2), (0, .ref (b 39))]) hx hb dX10_due_69 hl (k := 4) rfl (by rw [ez6]; rfl) (by decide) rfl (fun ls hl => ?_)
          refine lv_goto (tgt := 4) hx hb dX10_due_72 (by decide) ?_
          exact ih4 x5 z6 _ (by omega) (by omega) (by (first | exact dF_y (y := y4_2) i4_2 (dm_1 (by assumption) (by omega) (by omega) (by first | exact Or.inl (by assumption) | exact Or.inr (by assumption))) (by assumption) (by omega) (by omega) | exact dF_n (y := y4_2) i4_2 (dm_0 (by assumption) (by omega) (by first | exact Or.inl (by omega) | exact Or.inr ⟨by assumption, by assumption⟩)) (by first | rfl | exact or0 (by assumption)) (by omega) (by omega) | exact dF_0 rfl (by first | rfl | omega))) (by omega) (lv_sub hl [4, 1, 0] rfl)
        · have dc4 : 0 < r2.toInt := nleC rfl (show (0 : Int32).toInt = 0 from rfl) c4
          refine lv_aload_n hx hb dX10_due_22 rfl (lv_at hl 1 rfl) ?_
          refine va_get (D := (dC, dI)) (ci := 10) (v := .ref (b 14)) (C := RX10) (T := TX10) (N := 39) hx hb hts inX10 hown hK hP 0 rfl rfl 14 (by decide) lf47 (fun _ h9 => h9) rfl dX10_due_23 ?_
          refine lv_iload_n hx hb dX10_due_26 rfl (lv_at hl 3 rfl) ?_
          have b7 : vp_in y4_2 8 := inC rfl (by omega) (by omega)
          refine va_iald hx hb hK hP 11 0 rfl rfl b7 dX10_due_27 ?_
          refine lv_iconst (v := (-1)) hx hb dX10_due_28 (by decide) ?_
          refine lv_icmp_eq (tgt := 47) hx hb dX10_due_29 (by decide) (fun c8 => ?_) (fun c8 => ?_)
          · have dc8 : (mwal y4_2.toNatClampNeg).toInt = (-1) := eqC rfl (show ((-1) : Int32).toInt = (-1) from rfl) c8
            refine lv_iconst (v := 1) hx hb dX10_due_47 (by decide) ?_
            refine lv_goto (tgt := 52) hx hb dX10_due_48 (by decide) ?_
            refine lv_istore (lv' := [(4, .int 1), (3, .int r2), (0, .ref (b 39)), (1, .int y4_1), (2, .int y4_2)]) hx hb dX10_due_52 hl (by decide) rfl (fun ls hl => ?_)
            refine lv_iload_n hx hb dX10_due_54 rfl (lv_at hl 3 rfl) ?_
            refine lv_iload hx hb dX10_due_55 (lv_at hl 0 rfl) ?_
            refine lv_if_eq (tgt := 66) hx hb dX10_due_57 (by decide) (fun c9 => absurd c9 (by decide)) (fun _ => ?_)
            refine lv_iconst (v := 1) hx hb dX10_due_60 (by decide) ?_
            refine lv_iload_n hx hb dX10_due_61 rfl (lv_at hl 4 rfl) ?_
            refine lv_ishl hx hb dX10_due_62 ?_
            have f9 : 1 ≤ ((1 : Int32) <<< (y4_2 &&& 31)).toInt ∧ ((1 : Int32) <<< (y4_2 &&& 31)).toInt ≤ 128 := shl1 rfl (by omega) 7 (by omega) (by decide)
            refine lv_goto (tgt := 67) hx hb dX10_due_63 (by decide) ?_
            refine lv_ior hx hb dX10_due_67 ?_
            refine lv_topi (fun x10 ex10 => ?_)
            have ix10 : x10.toInt = (y4_1 ||| ((1 : Int32) <<< (y4_2 &&& 31))).toInt := by rw [ex10]
            refine lv_istore_n (lv' := [(1, .int x10), (4, .int 1), (3, .int r2), (0, .ref (b 39)), (2, .int y4_2)]) hx hb dX10_due_68 rfl hl (by decide) rfl (fun ls hl => ?_)
            obtain ⟨z11, ez11⟩ : ∃ y : Int32, y = y4_2 + 1 := ⟨_, rfl⟩
            have iz11 : z11.toInt = y4_2.toInt + 1 := by rw [ez11]; exact addC rfl rfl (by omega) (by omega)
            refine lv_iinc (v := z11) (lv' := [(2, .int z11), (1, .int x10), (4, .int 1), (3, .int r2), (0, .ref (b 39))]) hx hb dX10_due_69 hl (k := 4) rfl (by rw [ez11]; rfl) (by decide) rfl (fun ls hl => ?_)
            refine lv_goto (tgt := 4) hx hb dX10_due_72 (by decide) ?_
            exact ih4 x10 z11 _ (by omega) (by omega) (by (first | exact dF_y (y := y4_2) i4_2 (dm_1 (by assumption) (by omega) (by omega) (by first | exact Or.inl (by assumption) | exact Or.inr (by assumption))) (by assumption) (by omega) (by omega) | exact dF_n (y := y4_2) i4_2 (dm_0 (by assumption) (by omega) (by first | exact Or.inl (by omega) | exact Or.inr ⟨by assumption, by assumption⟩)) (by first | rfl | exact or0 (by assumption)) (by omega) (by omega) | exact dF_0 rfl (by first | rfl | omega))) (by omega) (lv_sub hl [4, 1, 0] rfl)
          · have dc8 : (mwal y4_2.toNatClampNeg).toInt ≠ (-1) := neC rfl (show ((-1) : Int32).toInt = (-1) from rfl) c8
            refine lv_aload_n hx hb dX10_due_32 rfl (lv_at hl 1 rfl) ?_
            refine va_get (D := (dC, dI)) (ci := 10) (v := .int mday) (C := RX10) (T := TX10) (N := 39) hx hb hts inX10 hown hK hP 0 rfl rfl 0 (by decide) lf125 (fun _ h9 => h9) rfl dX10_due_33 ?_
            refine lv_aload_n hx hb dX10_due_36 rfl (lv_at hl 1 rfl) ?_
            refine va_get (D := (dC, dI)) (ci := 10) (v := .ref (b 14)) (C := RX10) (T := TX10) (N := 39) hx hb hts inX10 hown hK hP 0 rfl rfl 14 (by decide) lf47 (fun _ h9 => h9) rfl dX10_due_37 ?_
            refine lv_iload_n hx hb dX10_due_40 rfl (lv_at hl 3 rfl) ?_
            have b12 : vp_in y4_2 8 := inC rfl (by omega) (by omega)
            refine va_iald hx hb hK hP 11 0 rfl rfl b12 dX10_due_41 ?_
            refine lv_isub hx hb dX10_due_42 ?_
            refine lv_iload_n hx hb dX10_due_43 rfl (lv_at hl 0 rfl) ?_
            refine lv_icmp_lt (tgt := 51) hx hb dX10_due_44 (by decide) (fun c13 => ?_) (fun c13 => ?_)
            · have dc13 : (mday - (mwal y4_2.toNatClampNeg)).toInt < r2.toInt := ltC rfl rfl c13
              refine lv_iconst (v := 0) hx hb dX10_due_51 (by decide) ?_
              refine lv_istore (lv' := [(4, .int 0), (3, .int r2), (0, .ref (b 39)), (1, .int y4_1), (2, .int y4_2)]) hx hb dX10_due_52 hl (by decide) rfl (fun ls hl => ?_)
              refine lv_iload_n hx hb dX10_due_54 rfl (lv_at hl 3 rfl) ?_
              refine lv_iload hx hb dX10_due_55 (lv_at hl 0 rfl) ?_
              refine lv_if_eq (tgt := 66) hx hb dX10_due_57 (by decide) (fun _ => ?_) (fun c9 => absurd (by decide) c9)
              refine lv_iconst (v := 0) hx hb dX10_due_66 (by decide) ?_
              refine lv_ior hx hb dX10_due_67 ?_
              refine lv_topi (fun x14 ex14 => ?_)
              have ix14 : x14.toInt = (y4_1 ||| 0).toInt := by rw [ex14]
              refine lv_istore_n (lv' := [(1, .int x14), (4, .int 0), (3, .int r2), (0, .ref (b 39)), (2, .int y4_2)]) hx hb dX10_due_68 rfl hl (by decide) rfl (fun ls hl => ?_)
              obtain ⟨z15, ez15⟩ : ∃ y : Int32, y = y4_2 + 1 := ⟨_, rfl⟩
              have iz15 : z15.toInt = y4_2.toInt + 1 := by rw [ez15]; exact addC rfl rfl (by omega) (by omega)
              refine lv_iinc (v := z15) (lv' := [(2, .int z15), (1, .int x14), (4, .int 0), (3, .int r2), (0, .ref (b 39))]) hx hb dX10_due_69 hl (k := 4) rfl (by rw [ez15]; rfl) (by decide) rfl (fun ls hl => ?_)
              refine lv_goto (tgt := 4) hx hb dX10_due_72 (by decide) ?_
              exact ih4 x14 z15 _ (by omega) (by omega) (by (first | exact dF_y (y := y4_2) i4_2 (dm_1 (by assumption) (by omega) (by omega) (by first | exact Or.inl (by assumption) | exact Or.inr (by assumption))) (by assumption) (by omega) (by omega) | exact dF_n (y := y4_2) i4_2 (dm_0 (by assumption) (by omega) (by first | exact Or.inl (by omega) | exact Or.inr ⟨by assumption, by assumption⟩)) (by first | rfl | exact or0 (by assumption)) (by omega) (by omega) | exact dF_0 rfl (by first | rfl | omega))) (by omega) (lv_sub hl [4, 1, 0] rfl)
            · have dc13 : r2.toInt ≤ (mday - (mwal y4_2.toNatClampNeg)).toInt := nltC rfl rfl c13
              refine lv_iconst (v := 1) hx hb dX10_due_47 (by decide) ?_
              refine lv_goto (tgt := 52) hx hb dX10_due_48 (by decide) ?_
              refine lv_istore (lv' := [(4, .int 1), (3, .int r2), (0, .ref (b 39)), (1, .int y4_1), (2, .int y4_2)]) hx hb dX10_due_52 hl (by decide) rfl (fun ls hl => ?_)
              refine lv_iload_n hx hb dX10_due_54 rfl (lv_at hl 3 rfl) ?_
              refine lv_iload hx hb dX10_due_55 (lv_at hl 0 rfl) ?_
              refine lv_if_eq (tgt := 66) hx hb dX10_due_57 (by decide) (fun c9 => absurd c9 (by decide)) (fun _ => ?_)
              refine lv_iconst (v := 1) hx hb dX10_due_60 (by decide) ?_
              refine lv_iload_n hx hb dX10_due_61 rfl (lv_at hl 4 rfl) ?_
              refine lv_ishl hx hb dX10_due_62 ?_
              have f16 : 1 ≤ ((1 : Int32) <<< (y4_2 &&& 31)).toInt ∧ ((1 : Int32) <<< (y4_2 &&& 31)).toInt ≤ 128 := shl1 rfl (by omega) 7 (by omega) (by decide)
              refine lv_goto (tgt := 67) hx hb dX10_due_63 (by decide) ?_
              refine lv_ior hx hb dX10_due_67 ?_
              refine lv_topi (fun x17 ex17 => ?_)
              have ix17 : x17.toInt = (y4_1 ||| ((1 : Int32) <<< (y4_2 &&& 31))).toInt := by rw [ex17]
              refine lv_istore_n (lv' := [(1, .int x17), (4, .int 1), (3, .int r2), (0, .ref (b 39)), (2, .int y4_2)]) hx hb dX10_due_68 rfl hl (by decide) rfl (fun ls hl => ?_)
              obtain ⟨z18, ez18⟩ : ∃ y : Int32, y = y4_2 + 1 := ⟨_, rfl⟩
              have iz18 : z18.toInt = y4_2.toInt + 1 := by rw [ez18]; exact addC rfl rfl (by omega) (by omega)
              refine lv_iinc (v := z18) (lv' := [(2, .int z18), (1, .int x17), (4, .int 1), (3, .int r2), (0, .ref (b 39))]) hx hb dX10_due_69 hl (k := 4) rfl (by rw [ez18]; rfl) (by decide) rfl (fun ls hl => ?_)
              refine lv_goto (tgt := 4) hx hb dX10_due_72 (by decide) ?_
              exact ih4 x17 z18 _ (by omega) (by omega) (by (first | exact dF_y (y := y4_2) i4_2 (dm_1 (by assumption) (by omega) (by omega) (by first | exact Or.inl (by assumption) | exact Or.inr (by assumption))) (by assumption) (by omega) (by omega) | exact dF_n (y := y4_2) i4_2 (dm_0 (by assumption) (by omega) (by first | exact Or.inl (by omega) | exact Or.inr ⟨by assumption, by assumption⟩)) (by first | rfl | exact or0 (by assumption)) (by omega) (by omega) | exact dF_0 rfl (by first | rfl | omega))) (by omega) (lv_sub hl [4, 1, 0] rfl)
  have kc19 : (0 : Int32).toInt = 0 := rfl
  exact L4 _ 0 0 _ (by omega) (by omega) (by (first | exact dF_y (y := y4_2) i4_2 (dm_1 (by assumption) (by omega) (by omega) (by first | exact Or.inl (by assumption) | exact Or.inr (by assumption))) (by assumption) (by omega) (by omega) | exact dF_n (y := y4_2) i4_2 (dm_0 (by assumption) (by omega) (by first | exact Or.inl (by omega) | exact Or.inr ⟨by assumption, by assumption⟩)) (by first | rfl | exact or0 (by assumption)) (by omega) (by omega) | exact dF_0 rfl (by first | rfl | omega))) (Nat.lt_succ_self _) (lv_sub hl [2, 1, 0] rfl)
end
section
-- ===== BARS =====
def ptI (pto : Nat → Int32) (day : Int32) : Prop := ∀ j : Nat, j < 48 → pto j = -1 ∨ (0 ≤ (pto j).toInt ∧ (pto j).toInt ≤ day.toInt)
theorem pt_init {pto : Nat → Int32} {day : Int32} (h : ∀ j, j < 48 → pto j = -1) : ptI pto day := fun j hj => .inl (h j hj)
theorem pt_put {top str gho ghs pto str' gho' ghs' pto' : Nat → Int32} {day c : Int32} (h : ptI pto day) (hd : 0 ≤ day.toInt) (q : cvC top str gho ghs pto day c str' gho' ghs' pto') : ptI pto' day := by
  intro j hj
  rw [q.2.1]
  by_cases e : j = c.toNatClampNeg
  · subst e; rw [pk_us]; exact .inr ⟨hd, Int.le_refl _⟩
  · rw [pk_un e]; exact h j hj
theorem pt_days {pto : Nat → Int32} {day day' : Int32} (h : ptI pto day) (hd : day.toInt ≤ day'.toInt) : ptI pto day' := fun j hj => (h j hj).imp id (fun q => ⟨q.1, by omega⟩)
def baR (mo top : Nat → Int32) (c : Int32) : Prop := mo (c.toInt / 6).toNat ≠ -1 ∧ (mo (c.toInt / 6).toNat).toInt ≤ stF top (c.toInt / 6 * 6).toNat 6
theorem ba_y {mo top : Nat → Int32} {c x m r : Int32} (e2 : x.toInt = c.toInt / 6) (e3 : m = mo x.toNatClampNeg) (h : ¬ m = -1) (s : r.toInt = stF top (x.toInt * 6).toNat 6) (l : m.toInt ≤ r.toInt) : baR mo top c := by
  unfold baR
  rw [clC e2] at e3
  rw [e2] at s
  rw [← e3, ← s]; exact ⟨h, l⟩
theorem ba_n1 {mo top : Nat → Int32} {c x m : Int32} (e2 : x.toInt = c.toInt / 6) (e3 : m = mo x.toNatClampNeg) (h : m = -1) : ¬ baR mo top c := by
  rw [clC e2] at e3
  intro q
  exact q.1 (e3.symm.trans h)
theorem ba_n2 {mo top : Nat → Int32} {c x m r : Int32} (e2 : x.toInt = c.toInt / 6) (e3 : m = mo x.toNatClampNeg) (s : r.toInt = stF top (x.toInt * 6).toNat 6) (l : r.toInt < m.toInt) : ¬ baR mo top c := by
  rw [clC e2] at e3
  rw [e2] at s
  intro q
  have := q.2
  rw [← e3, ← s] at this; omega
def baA (pto : Nat → Int32) (ag day c : Int32) : Prop := ¬ ag = -1 ∧ ¬ pto c.toNatClampNeg = -1 ∧ day - pto c.toNatClampNeg < ag
theorem bg_y {pto : Nat → Int32} {ag day c x : Int32} (e : x = pto c.toNatClampNeg) (h1 : ¬ ag = -1) (h2 : ¬ x = -1) (h3 : ¬ ag ≤ day - x) : baA pto ag day c := by
  subst e; exact ⟨h1, h2, Int32.not_le.mp h3⟩
theorem bg_n1 {pto : Nat → Int32} {ag day c : Int32} (h1 : ag = -1) : ¬ baA pto ag day c := fun q => q.1 h1
theorem bg_n2 {pto : Nat → Int32} {ag day c x : Int32} (e : x = pto c.toNatClampNeg) (h2 : x = -1) : ¬ baA pto ag day c := fun q => q.2.1 (e.symm.trans h2)
theorem bg_n3 {pto : Nat → Int32} {ag day c x : Int32} (e : x = pto c.toNatClampNeg) (h3 : ag ≤ day - x) : ¬ baA pto ag day c := by
  subst e; exact fun q => absurd q.2.2 (Int32.not_lt.mpr h3)
def tlP (mar : Nat → Int32) (th ne ap : Int32) : Prop := ¬ ne = -1 ∧ ap.toInt < (bc (mar th.toNatClampNeg &&& mar ne.toNatClampNeg)).toInt
def baP (mar top : Nat → Int32) (ap th c : Int32) : Prop := ¬ ap = -1 ∧ ((0 < c.toInt % 6 ∧ tlP mar th (top (c.toInt - 1).toNat) ap) ∨ (c.toInt % 6 < 5 ∧ tlP mar th (top (c.toInt + 1).toNat) ap))
theorem bp_ix {top : Nat → Int32} {d : Int32} {D : Int} (h : d.toInt = D) : top d.toNatClampNeg = top D.toNat := by rw [clC h]
def spBar (RP AP PP : Prop) (t c r : Int32) : Prop := ((t.toInt < 0 ∨ 23 < t.toInt ∨ c.toInt < 0 ∨ 47 < c.toInt) ∧ r = -2) ∨ ((0 ≤ t.toInt ∧ t.toInt ≤ 23 ∧ 0 ≤ c.toInt ∧ c.toInt ≤ 47) ∧ ∃ a b d : Int, wgt RP 1 a ∧ wgt AP 2 b ∧ wgt PP 4 d ∧ r.toInt = a + b + d)
theorem br3 {L G D : Prop} {q d : Int} {r : Int32} (h : ∃ a b : Int, wgt L 1 a ∧ wgt G 2 b ∧ q = a + b) (h3 : wgt D 4 d) (e : r.toInt = q + d) : ∃ a b d : Int, wgt L 1 a ∧ wgt G 2 b ∧ wgt D 4 d ∧ r.toInt = a + b + d := by
  obtain ⟨a, b, x, y, z⟩ := h; exact ⟨a, b, d, x, y, h3, by omega⟩
theorem spBar_one {RP AP PP RQ AQ PQ : Prop} {t c r r2 : Int32} (hh : (0 ≤ t.toInt ∧ t.toInt ≤ 23 ∧ 0 ≤ c.toInt ∧ c.toInt ≤ 47) → (RP ↔ RQ) ∧ (AP ↔ AQ) ∧ (PP ↔ PQ)) (h1 : spBar RP AP PP t c r) (h2 : spBar RQ AQ PQ t c r2) : r = r2 := by
  rcases h1 with ⟨a, b⟩ | ⟨a, x, y, z, wx, wy, wz, b⟩
  · rcases h2 with ⟨_, d⟩ | ⟨a2, _⟩
    · rw [b, d]
    · exfalso; omega
  · rcases h2 with ⟨a2, _⟩ | ⟨_, x2, y2, z2, vx, vy, vz, d⟩
    · exfalso; omega
    · obtain ⟨i1, i2, i3⟩ := hh a
      rw [wgt_one i1 wx vx, wgt_one i2 wy vy, wgt_one i3 wz vz] at b
      exact Int32.toInt_inj.mp (b.trans d.symm)
-- the model's
def mbR (L mt : Nat → Int32) (ls c : Int32) : Prop := (laF L 0 (nI (c.toInt / 6).toNat) 100 ls.toInt.toNat).toInt ≤ stF mt (c.toInt / 6 * 6).toNat 6
def mbA (L mp : Nat → Int32) (ls day c : Int32) : Prop := ¬ mp c.toNatClampNeg = -1 ∧ day - mp c.toNatClampNeg < laF L 1 0 0 ls.toInt.toNat
def tlM (mar mt : Nat → Int32) (th : Int32) (x : Nat) (ap : Int32) : Prop := ¬ mt x = -1 ∧ ap.toInt < (bc (mar (mt x).toNatClampNeg &&& mar th.toNatClampNeg)).toInt
def mbP (mar mt : Nat → Int32) (ap th c : Int32) : Prop := (0 < c.toInt % 6 ∧ tlM mar mt th (c.toInt - 1).toNat ap) ∨ (c.toInt % 6 < 5 ∧ tlM mar mt th (c.toInt + 1).toNat ap)
theorem st_6 {t : Nat → Int32} {lo : Nat} : ∀ k : Nat, 0 ≤ stF t lo k ∧ stF t lo k ≤ k
  | 0 => ⟨Int.le_refl 0, Int.le_refl 0⟩
  | k + 1 => by
    have := st_6 (t := t) (lo := lo) k
    show 0 ≤ stF t lo k + (if t (lo + k) = -1 then 0 else 1) ∧ stF t lo k + (if t (lo + k) = -1 then 0 else 1) ≤ ((k + 1 : Nat) : Int)
    by_cases c : t (lo + k) = -1
    · rw [if_pos c]; omega
    · rw [if_neg c]; omega
theorem bc_8 : ∀ j, j < 256 → (bc (nI j)).toInt ≤ 8 := by decide +kernel
theorem bc_le {a b : Int32} (h0 : 0 ≤ a.toInt) (h1 : a.toInt ≤ 255) (g0 : 0 ≤ b.toInt) (g1 : b.toInt ≤ 255) : (bc (a &&& b)).toInt ≤ 8 := by
  have r := andR (a := a) (m := b) rfl g0
  have := bc_8 (a &&& b).toInt.toNat (by omega)
  rwa [nI_toNat r.1] at this
theorem spBar_rel {mar mm top str gho ghs pto wal mt ms mg mf mp mw mo we L : Nat → Int32} {day mday ag ap li ls t c r r2 : Int32} (R : crR top str gho ghs pto wal mt ms mg mf mp mw) (em : mar = mm) (ed : day = mday) (Rb : bkR mo we ag ap li L ls) (pt : ptI pto day) (hd : 0 ≤ day.toInt ∧ day.toInt ≤ 400) (hm : rg 24 0 255 mar) (ht : rg 48 (-1) 23 top) (h1 : spBar (baR mo top c) (baA pto ag day c) (baP mar top ap t c) t c r) (h2 : spBar (mbR L mt ls c) (mbA L mp ls mday c) (mbP mm mt (laF L 2 0 100 ls.toInt.toNat) t c) t c r2) : r = r2 := by
  subst em; subst ed
  have B := bk_i Rb
  refine spBar_one (fun a => ⟨?_, ?_, ?_⟩) h1 h2
  · unfold baR mbR
    rw [B.1 (c.toInt / 6).toNat (by omega), st_eq (fun j hj => (R.1 j hj).1) 6 (by omega)]
    have s6 := st_6 (t := mt) (lo := (c.toInt / 6 * 6).toNat) 6
    rcases la_wi (r := L) (so := 0) (ro := nI (c.toInt / 6).toNat) (wi := 100) _ B.2.2.2.2 with ⟨x, y⟩ | ⟨x, y⟩
    · rw [x, y, show ((100 : Int32)).toInt = 100 from rfl]
      exact ⟨fun q => absurd rfl q.1, fun q => by omega⟩
    · rw [x]
      exact ⟨fun q => q.2, fun q => ⟨nn_m1 y.1.1, q⟩⟩
  · have hc : c.toNatClampNeg < 48 := by rw [clC (x := c) rfl]; omega
    unfold baA mbA
    rw [← (R.1 _ hc).2.2.1, B.2.2.1]
    rcases la_wi (r := L) (so := 1) (ro := 0) (wi := 0) _ B.2.2.2.2 with ⟨x, y⟩ | ⟨x, y⟩
    · rw [x, y]
      refine ⟨fun q => absurd rfl q.1, fun q => ?_⟩
      exfalso
      rcases pt _ hc with z | z
      · exact q.1 z
      · have := ltC (subC rfl rfl (by omega) (by omega)) (show ((0 : Int32)).toInt = 0 from rfl) q.2
        omega
    · rw [x]
      exact ⟨fun q => q.2, fun q => ⟨nn_m1 y.1.1, q⟩⟩
  · have key : ∀ x : Nat, x < 48 → ∀ ap2 : Int32, tlP mar t (top x) ap2 ↔ tlM mar mt t x ap2 := by
      intro x hx ap2
      unfold tlP tlM
      rw [← (R.1 x hx).1, Int32.and_comm]
    unfold baP mbP
    rw [B.2.2.2.1]
    rcases la_wi (r := L) (so := 2) (ro := 0) (wi := 100) _ B.2.2.2.2 with ⟨x, y⟩ | ⟨x, y⟩
    · rw [x, y]
      have no : ∀ z : Nat, z < 48 → ¬ tlM mar mt t z 100 := by
        intro z hz q
        have q2 := q.2
        rw [show ((100 : Int32)).toInt = 100 from rfl] at q2
        have tz := ht z hz
        rw [(R.1 z hz).1] at tz
        have q1 : (mt z).toInt ≠ -1 := fun w => q.1 (Int32.toInt_inj.mp w)
        have m1 := hm (mt z).toNatClampNeg (by rw [clC (x := mt z) rfl]; omega)
        have m2 := hm t.toNatClampNeg (by rw [clC (x := t) rfl]; omega)
        have := bc_le m1.1 m1.2 m2.1 m2.2
        omega
      refine ⟨fun q => absurd rfl q.1, fun q => ?_⟩
      exfalso
      rcases q with q | q
      · exact no _ (by omega) q.2
      · exact no _ (by omega) q.2
    · rw [x]
      refine ⟨fun q => ?_, fun q => ⟨nn_m1 y.1.1, ?_⟩⟩
      · rcases q.2 with z | z
        · exact .inl ⟨z.1, (key _ (by omega) _).mp z.2⟩
        · exact .inr ⟨z.1, (key _ (by omega) _).mp z.2⟩
      · rcases q with z | z
        · exact .inl ⟨z.1, (key _ (by omega) _).mpr z.2⟩
        · exact .inr ⟨z.1, (key _ (by omega) _).mpr z.2⟩
theorem tlm_y {mar mt : Nat → Int32} {th ap r : Int32} {x : Nat} (h : ¬ mt x = -1) (e : r = bc (mar (mt x).toNatClampNeg &&& mar th.toNatClampNeg)) (l : ap.toInt < r.toInt) : tlM mar mt th x ap := by subst e; exact ⟨h, l⟩
theorem tlm_n {mar mt : Nat → Int32} {th ap r : Int32} {x : Nat} (e : r = bc (mar (mt x).toNatClampNeg &&& mar th.toNatClampNeg)) (l : r.toInt ≤ ap.toInt) : ¬ tlM mar mt th x ap := by subst e; exact fun q => absurd q.2 (by omega)
theorem nI_div {c d : Int32} (e : d.toInt = c.toInt / 6) (h0 : 0 ≤ c.toInt) : nI (c.toInt / 6).toNat = d := by rw [← e]; exact nI_toNat (by omega)
theorem mr_y {L mt : Nat → Int32} {ls c d r1 r2 : Int32} (e : d.toInt = c.toInt / 6) (h0 : 0 ≤ c.toInt) (s : r1.toInt = stF mt (d.toInt * 6).toNat 6) (l : r2 = laF L 0 d 100 ls.toInt.toNat) (h : r2.toInt ≤ r1.toInt) : mbR L mt ls c := by
  unfold mbR; rw [nI_div e h0, ← l, ← e, ← s]; exact h
theorem mr_n {L mt : Nat → Int32} {ls c d r1 r2 : Int32} (e : d.toInt = c.toInt / 6) (h0 : 0 ≤ c.toInt) (s : r1.toInt = stF mt (d.toInt * 6).toNat 6) (l : r2 = laF L 0 d 100 ls.toInt.toNat) (h : r1.toInt < r2.toInt) : ¬ mbR L mt ls c := by
  unfold mbR; rw [nI_div e h0, ← l, ← e, ← s]; omega
theorem ma_y {L mp : Nat → Int32} {ls day c r : Int32} (h1 : ¬ mp c.toNatClampNeg = -1) (l : r = laF L 1 0 0 ls.toInt.toNat) (h : ¬ r ≤ day - mp c.toNatClampNeg) : mbA L mp ls day c := by subst l; exact ⟨h1, Int32.not_le.mp h⟩
theorem ma_n {L mp : Nat → Int32} {ls day c r : Int32} (l : r = laF L 1 0 0 ls.toInt.toNat) (h : r ≤ day - mp c.toNatClampNeg) : ¬ mbA L mp ls day c := by subst l; exact fun q => absurd q.2 (Int32.not_lt.mpr h)
def mbQ (mar mt : Nat → Int32) (ap th c f : Int32) : Prop := (f = 1 ∧ mbP mar mt ap th c) ∨ (f = 0 ∧ ¬ mbP mar mt ap th c)
theorem mq_y1 {mar mt : Nat → Int32} {ap th c d : Int32} (h : 0 < c.toInt % 6) (e : d.toInt = c.toInt - 1) (t : tlM mar mt th d.toNatClampNeg ap) : mbQ mar mt ap th c 1 := .inl ⟨rfl, .inl ⟨h, by rw [← clC e]; exact t⟩⟩
theorem mq_y2 {mar mt : Nat → Int32} {ap th c d : Int32} (h : c.toInt % 6 < 5) (e : d.toInt = c.toInt + 1) (t : tlM mar mt th d.toNatClampNeg ap) : mbQ mar mt ap th c 1 := .inl ⟨rfl, .inr ⟨h, by rw [← clC e]; exact t⟩⟩
theorem mq_n {mar mt : Nat → Int32} {ap th c : Int32} (h1 : c.toInt % 6 ≤ 0 ∨ ∃ d : Int32, d.toInt = c.toInt - 1 ∧ ¬ tlM mar mt th d.toNatClampNeg ap) (h2 : 5 ≤ c.toInt % 6 ∨ ∃ d : Int32, d.toInt = c.toInt + 1 ∧ ¬ tlM mar mt th d.toNatClampNeg ap) : mbQ mar mt ap th c 0 := by
  refine .inr ⟨rfl, fun q => ?_⟩
  rcases q with ⟨a, b⟩ | ⟨a, b⟩
  · rcases h1 with h1 | ⟨d, e, n⟩
    · omega
    · rw [← clC e] at b; exact n b
  · rcases h2 with h2 | ⟨d, e, n⟩
    · omega
    · rw [← clC e] at b; exact n b
theorem mq_w {mar mt : Nat → Int32} {ap ap2 th c f : Int32} (q : mbQ mar mt ap th c f) (e : ap = ap2) : (¬ f = 0 → wgt (mbP mar mt ap2 th c) 4 4) ∧ (f = 0 → wgt (mbP mar mt ap2 th c) 4 0) := by
  subst e
  rcases q with ⟨a, b⟩ | ⟨a, b⟩
  · exact ⟨fun _ => .inl ⟨b, rfl⟩, fun z => by rw [a] at z; exact absurd z (by decide)⟩
  · exact ⟨fun z => absurd a z, fun _ => .inr ⟨b, rfl⟩⟩
theorem dd_le {d d' n : Int32} (e : d' = d + n) (h0 : 0 ≤ d.toInt) (h1 : 1 ≤ n.toInt) (h2 : d.toInt + n.toInt ≤ 400) : d.toInt ≤ d'.toInt := by
  rw [e, addC rfl rfl (by omega) (by omega)]; omega
set_option maxHeartbeats 4000000 in
set_option maxRecDepth 100000 in
theorem k_X9_tooLike2 (l : Launch) (dC : Nat → ClassId) (dI : Nat → Nat → Nat) (cI cZ cQ : ClassId) (a : Nat → Nat) (rb0 : Nat) (rb1 : Nat) (rb2 : Nat) (db0 : Nat) (db1 : Nat) (db2 : Nat) (mar : Nat → Int32) (mos : Nat → Int32) (wev : Nat → Int32) (aga : Int32) (apa : Int32) (lin : Int32) (th : Int32) (ne : Int32) (r_mar : rg 24 (0) (255) mar) (q0 : 0 ≤ th.toInt) (q1 : th.toInt ≤ 23) (q2 : -1 ≤ ne.toInt) (q3 : ne.toInt ≤ 23) : KR l yX9_tooLike wsX9_tooLike { frames := 2, cells := 0, slots := 0, locals := 42 } (dC, dI) (TY cI cZ cQ) (wsPR cI cZ cQ a rb0 rb1 rb2 db0 db1 db2 mar mos wev aga apa lin) [.ref (a 43), .int th, .int ne] (fun r : Int32 => ((((r = 1) ∧ (tlP mar th ne apa)) ∨ ((r = 0) ∧ (¬ tlP mar th ne apa))))) := by
  refine Met.ofW (cc := cX9_tooLike) (maxL := 3) (ret := (some .boolean)) (by decide) rfl ?_
  intro p e s m args below meth c s₁ B hml hv
  obtain ⟨rfl, hP, hK, hN⟩ := hv
  have hx := B.exec
  have hb := B.bytes
  have hr := B.returns
  have hts := atoms_spec (ws := wsX9_tooLike) B.pre
  have hown : s.vm.findClass RX9 = some m.cls := findClass_of_methodNamed B.named
  have hlocks := B.notSynchronized
  have lf19 := hts (.fieldLink RX9 19 "PalaceOfRooms" "pictures" "LPalaceOfRooms$Pictures;") (List.mem_cons_of_mem _ (List.mem_append_left _ (List.mem_append_left _ (List.mem_append_left _ (List.mem_of_getElem? (i := 0) rfl)))))
  have inX9 : ∀ w ∈ wsX90, w ∈ wsX9_tooLike := fun w h => List.mem_cons_of_mem _ (List.mem_append_left _ (List.mem_append_left _ (List.mem_append_right _ h)))
  have lf76 := hts (.fieldLink RX9 76 "PalaceOfRooms" "rules" "LPalaceOfRooms$RuleBook;") (List.mem_cons_of_mem _ (List.mem_append_left _ (List.mem_append_left _ (List.mem_append_left _ (List.mem_of_getElem? (i := 1) rfl)))))
  have lf297 := hN.use (w := .fieldLinkNest "PalaceOfRooms" 297 "PalaceOfRooms$RuleBook" "apart" "I" "PalaceOfRooms") (List.mem_of_getElem? (i := 28) rfl) ([.ref (a 43), .int th, .int ne] : List Value).toArray
  have inX5 : ∀ w ∈ wsX50, w ∈ wsX9_tooLike := fun w h => List.mem_cons_of_mem _ (List.mem_append_left _ (List.mem_append_right _ h))
  have hl := lv_entry ([.ref (a 43), .int th, .int ne]) (n := 3) (Nat.le_of_ble_eq_true rfl)
  rw [lg_entry_eq]
  generalize (lg_sl ([.ref (a 43), .int th, .int ne]) ++ List.replicate (3 - (lg_sl ([.ref (a 43), .int th, .int ne])).length) Slot.unset).toArray = ls at hl ⊢
  have hl : lv_has ls 3 [(0, .ref (a 43)), (1, .int th), (2, .int ne)] := hl
  refine lv_iload_n hx hb dX9_tooLike_0 rfl (lv_at hl 2 rfl) ?_
  refine lv_iconst (v := (-1)) hx hb dX9_tooLike_1 (by decide) ?_
  refine lv_icmp_eq (tgt := 28) hx hb dX9_tooLike_2 (by decide) (fun c1 => ?_) (fun c1 => ?_)
  · have dc1 : ne.toInt = (-1) := eqC rfl (show ((-1) : Int32).toInt = (-1) from rfl) c1
    refine lv_iconst (v := 0) hx hb dX9_tooLike_28 (by decide) ?_
    exact W.zret (v := 0) hx hb hr (by decide) (fun tq ht hW => ⟨0, rfl, (Or.inr (⟨rfl, (show ¬ tlP mar th ne apa from by (try rw [show (0 : Int32).toInt = 0 from (show (0 : Int32).toInt = 0 from rfl)]); (first | exact ⟨by assumption, by omega⟩ | exact fun q => q.1 (by assumption) | exact fun q => absurd q.2 (by omega)))⟩)), ht⟩) (fun q h => by cases h) dX9_tooLike_29
  · have dc1 : 0 ≤ ne.toInt := ka_lo (by omega) (neC rfl (show ((-1) : Int32).toInt = (-1) from rfl) c1)
    refine lv_aload_n hx hb dX9_tooLike_5 rfl (lv_at hl 0 rfl) ?_
    refine va_get (D := (dC, dI)) (ci := 9) (v := .ref (a 2)) (C := RX9) (T := TX9) (N := 11) hx hb hts inX9 hown hK hP 0 rfl rfl 1 (by decide) lf19 (fun _ h9 => h9) rfl dX9_tooLike_6 ?_
    refine lv_iload_n hx hb dX9_tooLike_9 rfl (lv_at hl 1 rfl) ?_
    refine lv_iload_n hx hb dX9_tooLike_10 rfl (lv_at hl 2 rfl) ?_
    refine rdV (As := [.int th, .int ne]) (rest := []) ⟨hx, hb, hml, hown, hts⟩ (k_X2_shared2 l dC dI cI cZ cQ a mar th ne r_mar (by omega) (by omega) (by omega) (by omega)) (cwV 2 hts gX9_tooLike_X2_shared rfl rfl rfl (by decide +kernel) ⟨Nat.le_of_ble_eq_true rfl, Nat.le_of_ble_eq_true rfl⟩) hP hK hN [1, 2] rfl 1 2 rfl rfl rfl hl.1 rfl (Nat.le_of_ble_eq_true rfl) dX9_tooLike_11 ⟨Nat.le_of_ble_eq_true rfl, Nat.le_of_ble_eq_true rfl⟩ (fun r2 h3 => ?_)
    have h3 : (r2 = bc (mar th.toNatClampNeg &&& mar ne.toNatClampNeg)) ∧ ((bc (mar th.toNatClampNeg &&& mar ne.toNatClampNeg)).toInt = r2.toInt) := h3
    obtain ⟨h3_0, h3_1⟩ := h3
    refine lv_aload_n hx hb dX9_tooLike_14 rfl (lv_at hl 0 rfl) ?_
    refine va_get (D := (dC, dI)) (ci := 9) (v := .ref rb0) (C := RX9) (T := TX9) (N := 11) hx hb hts inX9 hown hK hP 0 rfl rfl 9 (by decide) lf76 (fun _ h9 => h9) rfl dX9_tooLike_15 ?_
    refine va_getN (D := (dC, dI)) (ci := 5) (v := .int apa) (C := RX5) (T := TX5) (N := 5) hx hb hts inX5 hown hK hP 3 rfl rfl 3 (by decide) lf297 (fun _ h9 => h9) rfl dX9_tooLike_18 ?_
    refine lv_icmp_le (tgt := 28) hx hb dX9_tooLike_21 (by decide) (fun c4 => ?_) (fun c4 => ?_)
    · have dc4 : r2.toInt ≤ apa.toInt := leC rfl rfl c4
      refine lv_iconst (v := 0) hx hb dX9_tooLike_28 (by decide) ?_
      exact W.zret (v := 0) hx hb hr (by decide) (fun tq ht hW => ⟨0, rfl, (Or.inr (⟨rfl, (show ¬ tlP mar th ne apa from by (try rw [show (0 : Int32).toInt = 0 from (show (0 : Int32).toInt = 0 from rfl)]); (first | exact ⟨by assumption, by omega⟩ | exact fun q => q.1 (by assumption) | exact fun q => absurd q.2 (by omega)))⟩)), ht⟩) (fun q h => by cases h) dX9_tooLike_29
    · have dc4 : apa.toInt < r2.toInt := nleC rfl rfl c4
      refine lv_iconst (v := 1) hx hb dX9_tooLike_24 (by decide) ?_
      refine lv_goto (tgt := 29) hx hb dX9_tooLike_25 (by decide) ?_
      exact W.zret (v := 1) hx hb hr (by decide) (fun tq ht hW => ⟨1, rfl, (Or.inl (⟨rfl, (show tlP mar th ne apa from by (try rw [show (1 : Int32).toInt = 1 from (show (1 : Int32).toInt = 1 from rfl)]); (first | exact ⟨by assumption, by omega⟩ | exact fun q => q.1 (by assumption) | exact fun q => absurd q.2 (by omega)))⟩)), ht⟩) (fun q h => by cases h) dX9_tooLike_29
set_option maxHeartbeats 4000000 in
set_option maxRecDepth 100000 in
theorem k_X9_barredByRoom2 (l : Launch) (dC : Nat → ClassId) (dI : Nat → Nat → Nat) (cI cZ cQ : ClassId) (a : Nat → Nat) (rb0 : Nat) (rb1 : Nat) (rb2 : Nat) (db0 : Nat) (db1 : Nat) (db2 : Nat) (top : Nat → Int32) (str : Nat → Int32) (gho : Nat → Int32) (ghs : Nat → Int32) (pto : Nat → Int32) (cro : Nat → Int32) (pla : Nat → Int32) (wal : Nat → Int32) (fal : Nat → Int32) (tel : Int32) (gai : Int32) (day : Int32) (mar : Nat → Int32) (mos : Nat → Int32) (wev : Nat → Int32) (aga : Int32) (apa : Int32) (lin : Int32) (co : Int32) (r_top : rg 48 (-1) (23) top) (r_str : rg 48 (0) (100) str) (r_gho : rg 48 (-1) (23) gho) (r_ghs : rg 48 (0) (100) ghs) (r_cro : rg 48 (0) (6) cro) (r_pla : rg 24 (-1) (47) pla) (r_fal : rg 11 (0) (30) fal) (r_gai : 0 ≤ gai.toInt ∧ gai.toInt ≤ 100) (r_day : 0 ≤ day.toInt ∧ day.toInt ≤ 400) (r_mar : rg 24 (0) (255) mar) (q0 : 0 ≤ co.toInt) (q1 : co.toInt ≤ 47) : KR l yX9_barredByRoom wsX9_barredByRoom { frames := 1, cells := 0, slots := 0, locals := 24 } (dC, dI) (TY cI cZ cQ) (wsCR cI cZ cQ a rb0 rb1 rb2 db0 db1 db2 top str gho ghs pto cro pla wal fal tel gai day mar mos wev aga apa lin) [.ref (a 43), .int co] (fun r : Int32 => ((((r = 1) ∧ (baR mos top co)) ∨ ((r = 0) ∧ (¬ baR mos top co))))) := by
  refine Met.ofW (cc := cX9_barredByRoom) (maxL := 4) (ret := (some .boolean)) (by decide) rfl ?_
  intro p e s m args below meth c s₁ B hml hv
  obtain ⟨rfl, hP, hK, hN⟩ := hv
  have hx := B.exec
  have hb := B.bytes
  have hr := B.returns
  have hts := atoms_spec (ws := wsX9_barredByRoom) B.pre
  have hown : s.vm.findClass RX9 = some m.cls := findClass_of_methodNamed B.named
  have hlocks := B.notSynchronized
  have lf76 := hts (.fieldLink RX9 76 "PalaceOfRooms" "rules" "LPalaceOfRooms$RuleBook;") (List.mem_cons_of_mem _ (List.mem_append_left _ (List.mem_append_left _ (List.mem_append_left _ (List.mem_of_getElem? (i := 0) rfl)))))
  have inX9 : ∀ w ∈ wsX90, w ∈ wsX9_barredByRoom := fun w h => List.mem_cons_of_mem _ (List.mem_append_left _ (List.mem_append_left _ (List.mem_append_right _ h)))
  have lf288 := hN.use (w := .fieldLinkNest "PalaceOfRooms" 288 "PalaceOfRooms$RuleBook" "mostIn" "[I" "PalaceOfRooms") (List.mem_of_getElem? (i := 22) rfl) ([.ref (a 43), .int co] : List Value).toArray
  have inX5 : ∀ w ∈ wsX50, w ∈ wsX9_barredByRoom := fun w h => List.mem_cons_of_mem _ (List.mem_append_left _ (List.mem_append_right _ h))
  have lf28 := hts (.fieldLink RX9 28 "PalaceOfRooms" "corners" "LPalaceOfRooms$Corners;") (List.mem_cons_of_mem _ (List.mem_append_left _ (List.mem_append_left _ (List.mem_append_left _ (List.mem_of_getElem? (i := 1) rfl)))))
  have hl := lv_entry ([.ref (a 43), .int co]) (n := 4) (Nat.le_of_ble_eq_true rfl)
  rw [lg_entry_eq]
  generalize (lg_sl ([.ref (a 43), .int co]) ++ List.replicate (4 - (lg_sl ([.ref (a 43), .int co])).length) Slot.unset).toArray = ls at hl ⊢
  have hl : lv_has ls 4 [(0, .ref (a 43)), (1, .int co)] := hl
  refine lv_iload_n hx hb dX9_barredByRoom_0 rfl (lv_at hl 1 rfl) ?_
  refine lv_bipush (v := 6) hx hb dX9_barredByRoom_1 (by decide) ?_
  refine lv_idiv hx hb dX9_barredByRoom_3 (by decide) ?_
  have f1 : (co / 6).toInt = (co.toInt) / (6) := divC rfl (show (6 : Int32).toInt = 6 from rfl) (by omega) (by omega)
  refine lv_topi (fun x2 ex2 => ?_)
  have ix2 : x2.toInt = (co.toInt) / (6) := by rw [ex2]; exact f1
  refine lv_istore_n (lv' := [(2, .int x2), (0, .ref (a 43)), (1, .int co)]) hx hb dX9_barredByRoom_4 rfl hl (by decide) rfl (fun ls hl => ?_)
  refine lv_aload_n hx hb dX9_barredByRoom_5 rfl (lv_at hl 1 rfl) ?_
  refine va_get (D := (dC, dI)) (ci := 9) (v := .ref rb0) (C := RX9) (T := TX9) (N := 11) hx hb hts inX9 hown hK hP 0 rfl rfl 9 (by decide) lf76 (fun _ h9 => h9) rfl dX9_barredByRoom_6 ?_
  refine va_getN (D := (dC, dI)) (ci := 5) (v := .ref rb1) (C := RX5) (T := TX5) (N := 5) hx hb hts inX5 hown hK hP 13 rfl rfl 0 (by decide) lf288 (fun _ h9 => h9) rfl dX9_barredByRoom_9 ?_
  refine lv_iload_n hx hb dX9_barredByRoom_12 rfl (lv_at hl 0 rfl) ?_
  have b3 : vp_in x2 8 := inC rfl (by omega) (by omega)
  refine va_iald hx hb hK hP 14 0 rfl rfl b3 dX9_barredByRoom_13 ?_
  refine lv_topi (fun x4 ex4 => ?_)
  have ix4 : x4.toInt = (mos x2.toNatClampNeg).toInt := by rw [ex4]
  refine lv_istore_n (lv' := [(3, .int x4), (2, .int x2), (0, .ref (a 43)), (1, .int co)]) hx hb dX9_barredByRoom_14 rfl hl (by decide) rfl (fun ls hl => ?_)
  refine lv_iload_n hx hb dX9_barredByRoom_15 rfl (lv_at hl 0 rfl) ?_
  refine lv_iconst (v := (-1)) hx hb dX9_barredByRoom_16 (by decide) ?_
  refine lv_icmp_eq (tgt := 36) hx hb dX9_barredByRoom_17 (by decide) (fun c5 => ?_) (fun c5 => ?_)
  · have dc5 : x4.toInt = (-1) := eqC rfl (show ((-1) : Int32).toInt = (-1) from rfl) c5
    refine lv_iconst (v := 0) hx hb dX9_barredByRoom_36 (by decide) ?_
    exact W.zret (v := 0) hx hb hr (by decide) (fun tq ht hW => ⟨0, rfl, (Or.inr (⟨rfl, (show ¬ baR mos top co from by (try rw [show (0 : Int32).toInt = 0 from (show (0 : Int32).toInt = 0 from rfl)]); (first | exact ba_y (by assumption) (by assumption) (by assumption) (by assumption) (by omega) | exact ba_n1 (by assumption) (by assumption) (by assumption) | exact ba_n2 (by assumption) (by assumption) (by assumption) (by omega)))⟩)), ht⟩) (fun q h => by cases h) dX9_barredByRoom_37
  · have dc5 : x4.toInt ≠ (-1) := neC rfl (show ((-1) : Int32).toInt = (-1) from rfl) c5
    refine lv_aload_n hx hb dX9_barredByRoom_20 rfl (lv_at hl 2 rfl) ?_
    refine va_get (D := (dC, dI)) (ci := 9) (v := .ref (a 4)) (C := RX9) (T := TX9) (N := 11) hx hb hts inX9 hown hK hP 0 rfl rfl 2 (by decide) lf28 (fun _ h9 => h9) rfl dX9_barredByRoom_21 ?_
    refine lv_iload_n hx hb dX9_barredByRoom_24 rfl (lv_at hl 1 rfl) ?_
    refine rdV (As := [.int x2]) (rest := []) ⟨hx, hb, hml, hown, hts⟩ (k_X1_standingIn2 l dC dI cI cZ cQ a top str gho ghs pto cro pla wal fal tel gai day mar x2 r_top r_str r_gho r_ghs r_cro r_pla r_fal r_gai r_day r_mar (by omega) (by omega)) (cwV 1 hts gX9_barredByRoom_X1_standingIn rfl rfl rfl (by decide +kernel) ⟨Nat.le_of_ble_eq_true rfl, Nat.le_of_ble_eq_true rfl⟩) hP hK hN [1, 2, 3, 4, 5, 6, 7, 8, 9, 10, 11, 12] rfl 1 1 rfl rfl rfl hl.1 rfl (Nat.le_of_ble_eq_true rfl) dX9_barredByRoom_25 ⟨Nat.le_of_ble_eq_true rfl, Nat.le_of_ble_eq_true rfl⟩ (fun r6 h7 => ?_)
    have h7 : (0 ≤ r6.toInt) ∧ (r6.toInt ≤ 6) ∧ (r6.toInt = stF top (x2.toInt * 6).toNat 6) := h7
    obtain ⟨h7_0, h7_1, h7_2⟩ := h7
    refine lv_iload_n hx hb dX9_barredByRoom_28 rfl (lv_at hl 0 rfl) ?_
    refine lv_icmp_lt (tgt := 36) hx hb dX9_barredByRoom_29 (by decide) (fun c8 => ?_) (fun c8 => ?_)
    · have dc8 : r6.toInt < x4.toInt := ltC rfl rfl c8
      refine lv_iconst (v := 0) hx hb dX9_barredByRoom_36 (by decide) ?_
      exact W.zret (v := 0) hx hb hr (by decide) (fun tq ht hW => ⟨0, rfl, (Or.inr (⟨rfl, (show ¬ baR mos top co from by (try rw [show (0 : Int32).toInt = 0 from (show (0 : Int32).toInt = 0 from rfl)]); (first | exact ba_y (by assumption) (by assumption) (by assumption) (by assumption) (by omega) | exact ba_n1 (by assumption) (by assumption) (by assumption) | exact ba_n2 (by assumption) (by assumption) (by assumption) (by omega)))⟩)), ht⟩) (fun q h => by cases h) dX9_barredByRoom_37
    · have dc8 : x4.toInt ≤ r6.toInt := nltC rfl rfl c8
      refine lv_iconst (v := 1) hx hb dX9_barredByRoom_32 (by decide) ?_
      refine lv_goto (tgt := 37) hx hb dX9_barredByRoom_33 (by decide) ?_
      exact W.zret (v := 1) hx hb hr (by decide) (fun tq ht hW => ⟨1, rfl, (Or.inl (⟨rfl, (show baR mos top co from by (try rw [show (1 : Int32).toInt = 1 from (show (1 : Int32).toInt = 1 from rfl)]); (first | exact ba_y (by assumption) (by assumption) (by assumption) (by assumption) (by omega) | exact ba_n1 (by assumption) (by assumption) (by assumption) | exact ba_n2 (by assumption) (by assumption) (by assumption) (by omega)))⟩)), ht⟩) (fun q h => by cases h) dX9_barredByRoom_37
set_option maxHeartbeats 4000000 in
set_option maxRecDepth 100000 in
theorem k_X9_barredByAgain2 (l : Launch) (dC : Nat → ClassId) (dI : Nat → Nat → Nat) (cI cZ cQ : ClassId) (a : Nat → Nat) (rb0 : Nat) (rb1 : Nat) (rb2 : Nat) (db0 : Nat) (db1 : Nat) (db2 : Nat) (top : Nat → Int32) (str : Nat → Int32) (gho : Nat → Int32) (ghs : Nat → Int32) (pto : Nat → Int32) (cro : Nat → Int32) (pla : Nat → Int32) (wal : Nat → Int32) (fal : Nat → Int32) (tel : Int32) (gai : Int32) (day : Int32) (mar : Nat → Int32) (mos : Nat → Int32) (wev : Nat → Int32) (aga : Int32) (apa : Int32) (lin : Int32) (co : Int32) (r_top : rg 48 (-1) (23) top) (r_str : rg 48 (0) (100) str) (r_gho : rg 48 (-1) (23) gho) (r_ghs : rg 48 (0) (100) ghs) (r_cro : rg 48 (0) (6) cro) (r_pla : rg 24 (-1) (47) pla) (r_fal : rg 11 (0) (30) fal) (r_gai : 0 ≤ gai.toInt ∧ gai.toInt ≤ 100) (r_day : 0 ≤ day.toInt ∧ day.toInt ≤ 400) (r_mar : rg 24 (0) (255) mar) (q0 : 0 ≤ co.toInt) (q1 : co.toInt ≤ 47) : KR l yX9_barredByAgain wsX9_barredByAgain { frames := 0, cells := 0, slots := 0, locals := 0 } (dC, dI) (TY cI cZ cQ) (wsCR cI cZ cQ a rb0 rb1 rb2 db0 db1 db2 top str gho ghs pto cro pla wal fal tel gai day mar mos wev aga apa lin) [.ref (a 43), .int co] (fun r : Int32 => ((((r = 1) ∧ (baA pto aga day co)) ∨ ((r = 0) ∧ (¬ baA pto aga day co))))) := by
  refine Met.ofW (cc := cX9_barredByAgain) (maxL := 3) (ret := (some .boolean)) (by decide) rfl ?_
  intro p e s m args below meth c s₁ B hml hv
  obtain ⟨rfl, hP, hK, hN⟩ := hv
  have hx := B.exec
  have hb := B.bytes
  have hr := B.returns
  have hts := atoms_spec (ws := wsX9_barredByAgain) B.pre
  have hown : s.vm.findClass RX9 = some m.cls := findClass_of_methodNamed B.named
  have hlocks := B.notSynchronized
  have lf28 := hts (.fieldLink RX9 28 "PalaceOfRooms" "corners" "LPalaceOfRooms$Corners;") (List.mem_cons_of_mem _ (List.mem_append_left _ (List.mem_append_left _ (List.mem_append_left _ (List.mem_of_getElem? (i := 0) rfl)))))
  have inX9 : ∀ w ∈ wsX90, w ∈ wsX9_barredByAgain := fun w h => List.mem_cons_of_mem _ (List.mem_append_left _ (List.mem_append_left _ (List.mem_append_right _ h)))
  have lf150 := hN.use (w := .fieldLinkNest "PalaceOfRooms" 150 "PalaceOfRooms$Corners" "putOn" "[I" "PalaceOfRooms") (List.mem_of_getElem? (i := 7) rfl) ([.ref (a 43), .int co] : List Value).toArray
  have inX1 : ∀ w ∈ wsX10, w ∈ wsX9_barredByAgain := fun w h => List.mem_cons_of_mem _ (List.mem_append_left _ (List.mem_append_right _ h))
  have lf76 := hts (.fieldLink RX9 76 "PalaceOfRooms" "rules" "LPalaceOfRooms$RuleBook;") (List.mem_cons_of_mem _ (List.mem_append_left _ (List.mem_append_left _ (List.mem_append_left _ (List.mem_of_getElem? (i := 1) rfl)))))
  have lf294 := hN.use (w := .fieldLinkNest "PalaceOfRooms" 294 "PalaceOfRooms$RuleBook" "again" "I" "PalaceOfRooms") (List.mem_of_getElem? (i := 26) rfl) ([.ref (a 43), .int co] : List Value).toArray
  have inX5 : ∀ w ∈ wsX50, w ∈ wsX9_barredByAgain := fun w h => List.mem_cons_of_mem _ (List.mem_append_right _ h)
  have lf153 := hN.use (w := .fieldLinkNest "PalaceOfRooms" 153 "PalaceOfRooms$Corners" "day" "I" "PalaceOfRooms") (List.mem_of_getElem? (i := 13) rfl) ([.ref (a 43), .int co] : List Value).toArray
  have hl := lv_entry ([.ref (a 43), .int co]) (n := 3) (Nat.le_of_ble_eq_true rfl)
  rw [lg_entry_eq]
  generalize (lg_sl ([.ref (a 43), .int co]) ++ List.replicate (3 - (lg_sl ([.ref (a 43), .int co])).length) Slot.unset).toArray = ls at hl ⊢
  have hl : lv_has ls 3 [(0, .ref (a 43)), (1, .int co)] := hl
  refine lv_aload_n hx hb dX9_barredByAgain_0 rfl (lv_at hl 0 rfl) ?_
  refine va_get (D := (dC, dI)) (ci := 9) (v := .ref (a 4)) (C := RX9) (T := TX9) (N := 11) hx hb hts inX9 hown hK hP 0 rfl rfl 2 (by decide) lf28 (fun _ h9 => h9) rfl dX9_barredByAgain_1 ?_
  refine va_getN (D := (dC, dI)) (ci := 1) (v := .ref (a 9)) (C := RX1) (T := TX1) (N := 13) hx hb hts inX1 hown hK hP 1 rfl rfl 5 (by decide) lf150 (fun _ h9 => h9) rfl dX9_barredByAgain_4 ?_
  refine lv_iload_n hx hb dX9_barredByAgain_7 rfl (lv_at hl 1 rfl) ?_
  have b1 : vp_in co 48 := inC rfl (by omega) (by omega)
  refine va_iald hx hb hK hP 6 0 rfl rfl b1 dX9_barredByAgain_8 ?_
  refine lv_topi (fun x2 ex2 => ?_)
  have ix2 : x2.toInt = (pto co.toNatClampNeg).toInt := by rw [ex2]
  refine lv_istore_n (lv' := [(2, .int x2), (0, .ref (a 43)), (1, .int co)]) hx hb dX9_barredByAgain_9 rfl hl (by decide) rfl (fun ls hl => ?_)
  refine lv_aload_n hx hb dX9_barredByAgain_10 rfl (lv_at hl 1 rfl) ?_
  refine va_get (D := (dC, dI)) (ci := 9) (v := .ref rb0) (C := RX9) (T := TX9) (N := 11) hx hb hts inX9 hown hK hP 0 rfl rfl 9 (by decide) lf76 (fun _ h9 => h9) rfl dX9_barredByAgain_11 ?_
  refine va_getN (D := (dC, dI)) (ci := 5) (v := .int aga) (C := RX5) (T := TX5) (N := 5) hx hb hts inX5 hown hK hP 13 rfl rfl 2 (by decide) lf294 (fun _ h9 => h9) rfl dX9_barredByAgain_14 ?_
  refine lv_iconst (v := (-1)) hx hb dX9_barredByAgain_17 (by decide) ?_
  refine lv_icmp_eq (tgt := 49) hx hb dX9_barredByAgain_18 (by decide) (fun c3 => ?_) (fun c3 => ?_)
  · have dc3 : aga.toInt = (-1) := eqC rfl (show ((-1) : Int32).toInt = (-1) from rfl) c3
    refine lv_iconst (v := 0) hx hb dX9_barredByAgain_49 (by decide) ?_
    exact W.zret (v := 0) hx hb hr (by decide) (fun tq ht hW => ⟨0, rfl, (Or.inr (⟨rfl, (show ¬ baA pto aga day co from by (try rw [show (0 : Int32).toInt = 0 from (show (0 : Int32).toInt = 0 from rfl)]); (first | exact bg_y (by assumption) (by assumption) (by assumption) (by assumption) | exact bg_n1 (by assumption) | exact bg_n2 (by assumption) (by assumption) | exact bg_n3 (by assumption) (by assumption)))⟩)), ht⟩) (fun q h => by cases h) dX9_barredByAgain_50
  · have dc3 : aga.toInt ≠ (-1) := neC rfl (show ((-1) : Int32).toInt = (-1) from rfl) c3
    refine lv_iload_n hx hb dX9_barredByAgain_21 rfl (lv_at hl 0 rfl) ?_
    refine lv_iconst (v := (-1)) hx hb dX9_barredByAgain_22 (by decide) ?_
    refine lv_icmp_eq (tgt := 49) hx hb dX9_barredByAgain_23 (by decide) (fun c4 => ?_) (fun c4 => ?_)
    · have dc4 : x2.toInt = (-1) := eqC rfl (show ((-1) : Int32).toInt = (-1) from rfl) c4
      refine lv_iconst (v := 0) hx hb dX9_barredByAgain_49 (by decide) ?_
      exact W.zret (v := 0) hx hb hr (by decide) (fun tq ht hW => ⟨0, rfl, (Or.inr (⟨rfl, (show ¬ baA pto aga day co from by (try rw [show (0 : Int32).toInt = 0 from (show (0 : Int32).toInt = 0 from rfl)]); (first | exact bg_y (by assumption) (by assumption) (by assumption) (by assumption) | exact bg_n1 (by assumption) | exact bg_n2 (by assumption) (by assumption) | exact bg_n3 (by assumption) (by assumption)))⟩)), ht⟩) (fun q h => by cases h) dX9_barredByAgain_50
    · have dc4 : x2.toInt ≠ (-1) := neC rfl (show ((-1) : Int32).toInt = (-1) from rfl) c4
      refine lv_aload_n hx hb dX9_barredByAgain_26 rfl (lv_at hl 1 rfl) ?_
      refine va_get (D := (dC, dI)) (ci := 9) (v := .ref (a 4)) (C := RX9) (T := TX9) (N := 11) hx hb hts inX9 hown hK hP 0 rfl rfl 2 (by decide) lf28 (fun _ h9 => h9) rfl dX9_barredByAgain_27 ?_
      refine va_getN (D := (dC, dI)) (ci := 1) (v := .int day) (C := RX1) (T := TX1) (N := 13) hx hb hts inX1 hown hK hP 1 rfl rfl 12 (by decide) lf153 (fun _ h9 => h9) rfl dX9_barredByAgain_30 ?_
      refine lv_iload_n hx hb dX9_barredByAgain_33 rfl (lv_at hl 0 rfl) ?_
      refine lv_isub hx hb dX9_barredByAgain_34 ?_
      refine lv_aload_n hx hb dX9_barredByAgain_35 rfl (lv_at hl 1 rfl) ?_
      refine va_get (D := (dC, dI)) (ci := 9) (v := .ref rb0) (C := RX9) (T := TX9) (N := 11) hx hb hts inX9 hown hK hP 0 rfl rfl 9 (by decide) lf76 (fun _ h9 => h9) rfl dX9_barredByAgain_36 ?_
      refine va_getN (D := (dC, dI)) (ci := 5) (v := .int aga) (C := RX5) (T := TX5) (N := 5) hx hb hts inX5 hown hK hP 13 rfl rfl 2 (by decide) lf294 (fun _ h9 => h9) rfl dX9_barredByAgain_39 ?_
      refine lv_icmp_ge (tgt := 49) hx hb dX9_barredByAgain_42 (by decide) (fun c5 => ?_) (fun c5 => ?_)
      · have dc5 : aga.toInt ≤ (day - x2).toInt := leC rfl rfl c5
        refine lv_iconst (v := 0) hx hb dX9_barredByAgain_49 (by decide) ?_
        exact W.zret (v := 0) hx hb hr (by decide) (fun tq ht hW => ⟨0, rfl, (Or.inr (⟨rfl, (show ¬ baA pto aga day co from by (try rw [show (0 : Int32).toInt = 0 from (show (0 : Int32).toInt = 0 from rfl)]); (first | exact bg_y (by assumption) (by assumption) (by assumption) (by assumption) | exact bg_n1 (by assumption) | exact bg_n2 (by assumption) (by assumption) | exact bg_n3 (by assumption) (by assumption)))⟩)), ht⟩) (fun q h => by cases h) dX9_barredByAgain_50
      · have dc5 : (day - x2).toInt < aga.toInt := nleC rfl rfl c5
        refine lv_iconst (v := 1) hx hb dX9_barredByAgain_45 (by decide) ?_
        refine lv_goto (tgt := 50) hx hb dX9_barredByAgain_46 (by decide) ?_
        exact W.zret (v := 1) hx hb hr (by decide) (fun tq ht hW => ⟨1, rfl, (Or.inl (⟨rfl, (show baA pto aga day co from by (try rw [show (1 : Int32).toInt = 1 from (show (1 : Int32).toInt = 1 from rfl)]); (first | exact bg_y (by assumption) (by assumption) (by assumption) (by assumption) | exact bg_n1 (by assumption) | exact bg_n2 (by assumption) (by assumption) | exact bg_n3 (by assumption) (by assumption)))⟩)), ht⟩) (fun q h => by cases h) dX9_barredByAgain_50
set_option maxHeartbeats 4000000 in
set_option maxRecDepth 100000 in
theorem k_X9_barredByApart2 (l : Launch) (dC : Nat → ClassId) (dI : Nat → Nat → Nat) (cI cZ cQ : ClassId) (a : Nat → Nat) (rb0 : Nat) (rb1 : Nat) (rb2 : Nat) (db0 : Nat) (db1 : Nat) (db2 : Nat) (top : Nat → Int32) (str : Nat → Int32) (gho : Nat → Int32) (ghs : Nat → Int32) (pto : Nat → Int32) (cro : Nat → Int32) (pla : Nat → Int32) (wal : Nat → Int32) (fal : Nat → Int32) (tel : Int32) (gai : Int32) (day : Int32) (mar : Nat → Int32) (mos : Nat → Int32) (wev : Nat → Int32) (aga : Int32) (apa : Int32) (lin : Int32) (th : Int32) (co : Int32) (r_top : rg 48 (-1) (23) top) (r_str : rg 48 (0) (100) str) (r_gho : rg 48 (-1) (23) gho) (r_ghs : rg 48 (0) (100) ghs) (r_cro : rg 48 (0) (6) cro) (r_pla : rg 24 (-1) (47) pla) (r_fal : rg 11 (0) (30) fal) (r_gai : 0 ≤ gai.toInt ∧ gai.toInt ≤ 100) (r_day : 0 ≤ day.toInt ∧ day.toInt ≤ 400) (r_mar : rg 24 (0) (255) mar) (q0 : 0 ≤ th.toInt) (q1 : th.toInt ≤ 23) (q2 : 0 ≤ co.toInt) (q3 : co.toInt ≤ 47) : KR l yX9_barredByApart wsX9_barredByApart { frames := 3, cells := 0, slots := 0, locals := 64 } (dC, dI) (TY cI cZ cQ) (wsCR cI cZ cQ a rb0 rb1 rb2 db0 db1 db2 top str gho ghs pto cro pla wal fal tel gai day mar mos wev aga apa lin) [.ref (a 43), .int th, .int co] (fun r : Int32 => ((((r = 1) ∧ (baP mar top apa th co)) ∨ ((r = 0) ∧ (¬ baP mar top apa th co))))) := by
  refine Met.ofW (cc := cX9_barredByApart) (maxL := 4) (ret := (some .boolean)) (by decide) rfl ?_
  intro p e s m args below meth c s₁ B hml hv
  obtain ⟨rfl, hP, hK, hN⟩ := hv
  have hx := B.exec
  have hb := B.bytes
  have hr := B.returns
  have hts := atoms_spec (ws := wsX9_barredByApart) B.pre
  have hown : s.vm.findClass RX9 = some m.cls := findClass_of_methodNamed B.named
  have hlocks := B.notSynchronized
  have lf76 := hts (.fieldLink RX9 76 "PalaceOfRooms" "rules" "LPalaceOfRooms$RuleBook;") (List.mem_cons_of_mem _ (List.mem_append_left _ (List.mem_append_left _ (List.mem_append_left _ (List.mem_append_left _ (List.mem_of_getElem? (i := 0) rfl))))))
  have inX9 : ∀ w ∈ wsX90, w ∈ wsX9_barredByApart := fun w h => List.mem_cons_of_mem _ (List.mem_append_left _ (List.mem_append_left _ (List.mem_append_left _ (List.mem_append_right _ h))))
  have lf297 := hN.use (w := .fieldLinkNest "PalaceOfRooms" 297 "PalaceOfRooms$RuleBook" "apart" "I" "PalaceOfRooms") (List.mem_of_getElem? (i := 28) rfl) ([.ref (a 43), .int th, .int co] : List Value).toArray
  have inX5 : ∀ w ∈ wsX50, w ∈ wsX9_barredByApart := fun w h => List.mem_cons_of_mem _ (List.mem_append_left _ (List.mem_append_left _ (List.mem_append_right _ h)))
  have lf28 := hts (.fieldLink RX9 28 "PalaceOfRooms" "corners" "LPalaceOfRooms$Corners;") (List.mem_cons_of_mem _ (List.mem_append_left _ (List.mem_append_left _ (List.mem_append_left _ (List.mem_append_left _ (List.mem_of_getElem? (i := 1) rfl))))))
  have lf131 := hN.use (w := .fieldLinkNest "PalaceOfRooms" 131 "PalaceOfRooms$Corners" "top" "[I" "PalaceOfRooms") (List.mem_of_getElem? (i := 2) rfl) ([.ref (a 43), .int th, .int co] : List Value).toArray
  have inX1 : ∀ w ∈ wsX10, w ∈ wsX9_barredByApart := fun w h => List.mem_cons_of_mem _ (List.mem_append_left _ (List.mem_append_right _ h))
  have hl := lv_entry ([.ref (a 43), .int th, .int co]) (n := 4) (Nat.le_of_ble_eq_true rfl)
  rw [lg_entry_eq]
  generalize (lg_sl ([.ref (a 43), .int th, .int co]) ++ List.replicate (4 - (lg_sl ([.ref (a 43), .int th, .int co])).length) Slot.unset).toArray = ls at hl ⊢
  have hl : lv_has ls 4 [(0, .ref (a 43)), (1, .int th), (2, .int co)] := hl
  refine lv_aload_n hx hb dX9_barredByApart_0 rfl (lv_at hl 0 rfl) ?_
  refine va_get (D := (dC, dI)) (ci := 9) (v := .ref rb0) (C := RX9) (T := TX9) (N := 11) hx hb hts inX9 hown hK hP 0 rfl rfl 9 (by decide) lf76 (fun _ h9 => h9) rfl dX9_barredByApart_1 ?_
  refine va_getN (D := (dC, dI)) (ci := 5) (v := .int apa) (C := RX5) (T := TX5) (N := 5) hx hb hts inX5 hown hK hP 13 rfl rfl 3 (by decide) lf297 (fun _ h9 => h9) rfl dX9_barredByApart_4 ?_
  refine lv_iconst (v := (-1)) hx hb dX9_barredByApart_7 (by decide) ?_
  refine lv_icmp_ne (tgt := 13) hx hb dX9_barredByApart_8 (by decide) (fun c1 => ?_) (fun c1 => ?_)
  · have dc1 : apa.toInt ≠ (-1) := neC rfl (show ((-1) : Int32).toInt = (-1) from rfl) c1
    refine lv_iload_n hx hb dX9_barredByApart_13 rfl (lv_at hl 2 rfl) ?_
    refine lv_bipush (v := 6) hx hb dX9_barredByApart_14 (by decide) ?_
    refine lv_irem hx hb dX9_barredByApart_16 (by decide) ?_
    have f2 : (co - co / 6 * 6).toInt = (co.toInt) % (6) := remC rfl (show (6 : Int32).toInt = 6 from rfl) (by omega) (by omega)
    refine lv_topi (fun x3 ex3 => ?_)
    have ix3 : x3.toInt = (co.toInt) % (6) := by rw [ex3]; exact f2
    refine lv_istore_n (lv' := [(3, .int x3), (0, .ref (a 43)), (1, .int th), (2, .int co)]) hx hb dX9_barredByApart_17 rfl hl (by decide) rfl (fun ls hl => ?_)
    refine lv_iload_n hx hb dX9_barredByApart_18 rfl (lv_at hl 0 rfl) ?_
    refine lv_if_le (tgt := 41) hx hb dX9_barredByApart_19 (by decide) (fun c4 => ?_) (fun c4 => ?_)
    · have dc4 : x3.toInt ≤ 0 := leC rfl (show (0 : Int32).toInt = 0 from rfl) c4
      refine lv_iload_n hx hb dX9_barredByApart_41 rfl (lv_at hl 0 rfl) ?_
      refine lv_iconst (v := 5) hx hb dX9_barredByApart_42 (by decide) ?_
      refine lv_icmp_ge (tgt := 69) hx hb dX9_barredByApart_43 (by decide) (fun c5 => ?_) (fun c5 => ?_)
      · have dc5 : 5 ≤ x3.toInt := leC (show (5 : Int32).toInt = 5 from rfl) rfl c5
        exfalso
        omega
      · have dc5 : x3.toInt < 5 := nleC (show (5 : Int32).toInt = 5 from rfl) rfl c5
        refine lv_aload_n hx hb dX9_barredByApart_46 rfl (lv_at hl 1 rfl) ?_
        refine lv_iload_n hx hb dX9_barredByApart_47 rfl (lv_at hl 2 rfl) ?_
        refine lv_aload_n hx hb dX9_barredByApart_48 rfl (lv_at hl 1 rfl) ?_
        refine va_get (D := (dC, dI)) (ci := 9) (v := .ref (a 4)) (C := RX9) (T := TX9) (N := 11) hx hb hts inX9 hown hK hP 0 rfl rfl 2 (by decide) lf28 (fun _ h9 => h9) rfl dX9_barredByApart_49 ?_
        refine va_getN (D := (dC, dI)) (ci := 1) (v := .ref (a 5)) (C := RX1) (T := TX1) (N := 13) hx hb hts inX1 hown hK hP 1 rfl rfl 1 (by decide) lf131 (fun _ h9 => h9) rfl dX9_barredByApart_52 ?_
        refine lv_iload_n hx hb dX9_barredByApart_55 rfl (lv_at hl 3 rfl) ?_
        refine lv_iconst (v := 1) hx hb dX9_barredByApart_56 (by decide) ?_
        refine lv_iadd hx hb dX9_barredByApart_57 ?_
        have f6 : (co + 1).toInt = (co.toInt) + (1) := addC rfl (show (1 : Int32).toInt = 1 from rfl) (by omega) (by omega)
        have b7 : vp_in (co + 1) 48 := inC f6 (by omega) (by omega)
        refine va_iald hx hb hK hP 2 0 rfl rfl b7 dX9_barredByApart_58 ?_
        have g8 : -1 ≤ (top (co + 1).toNatClampNeg).toInt ∧ (top (co + 1).toNatClampNeg).toInt ≤ 23 := rg_at r_top b7
        refine rdV (As := [.int th, .int (top (co + 1).toNatClampNeg)]) (rest := []) ⟨hx, hb, hml, hown, hts⟩ (k_X9_tooLike2 l dC dI cI cZ cQ a rb0 rb1 rb2 db0 db1 db2 mar mos wev aga apa lin th (top (co + 1).toNatClampNeg) r_mar (by omega) (by omega) (by omega) (by omega)) (cwV 2 hts gX9_barredByApart_X9_tooLike rfl rfl rfl (by decide +kernel) ⟨Nat.le_of_ble_eq_true rfl, Nat.le_of_ble_eq_true rfl⟩) hP hK hN [0, 11, 12, 13, 14, 15] rfl 0 9 rfl rfl rfl hl.1 rfl (Nat.le_of_ble_eq_true rfl) dX9_barredByApart_59 ⟨Nat.le_of_ble_eq_true rfl, Nat.le_of_ble_eq_true rfl⟩ (fun r9 h10 => ?_)
        have h10 : ((((r9 = 1) ∧ (tlP mar th (top (co + 1).toNatClampNeg) apa)) ∨ ((r9 = 0) ∧ (¬ tlP mar th (top (co + 1).toNatClampNeg) apa)))) := h10
        rcases h10 with (⟨rfl, h10_a0⟩ | ⟨rfl, h10_a0⟩)
        · refine lv_if_eq (tgt := 69) hx hb dX9_barredByApart_62 (by decide) (fun c9 => absurd c9 (by decide)) (fun _ => ?_)
          refine lv_iconst (v := 1) hx hb dX9_barredByApart_65 (by decide) ?_
          refine lv_goto (tgt := 70) hx hb dX9_barredByApart_66 (by decide) ?_
          exact W.zret (v := 1) hx hb hr (by decide) (fun tq ht hW => ⟨1, rfl, (Or.inl (⟨rfl, (show baP mar top apa th co from by (try rw [show (1 : Int32).toInt = 1 from (show (1 : Int32).toInt = 1 from rfl)]); (first | exact fun q => q.1 (by assumption) | exact ⟨by assumption, Or.inl ⟨by omega, by rw [← bp_ix (top := top) (d := co - 1) (by assumption)]; assumption⟩⟩ | exact ⟨by assumption, Or.inr ⟨by omega, by rw [← bp_ix (top := top) (d := co + 1) (by assumption)]; assumption⟩⟩ | (intro q; rcases q.2 with z | z <;> first | (exfalso; have := z.1; omega) | (have w := z.2; rw [← bp_ix (top := top) (d := co - 1) (by assumption)] at w; exact absurd w (by assumption)) | (have w := z.2; rw [← bp_ix (top := top) (d := co + 1) (by assumption)] at w; exact absurd w (by assumption)))))⟩)), ht⟩) (fun q h => by cases h) dX9_barredByApart_70
        · refine lv_if_eq (tgt := 69) hx hb dX9_barredByApart_62 (by decide) (fun _ => ?_) (fun c9 => absurd (by decide) c9)
          refine lv_iconst (v := 0) hx hb dX9_barredByApart_69 (by decide) ?_
          exact W.zret (v := 0) hx hb hr (by decide) (fun tq ht hW => ⟨0, rfl, (Or.inr (⟨rfl, (show ¬ baP mar top apa th co from by (try rw [show (0 : Int32).toInt = 0 from (show (0 : Int32).toInt = 0 from rfl)]); (first | exact fun q => q.1 (by assumption) | exact ⟨by assumption, Or.inl ⟨by omega, by rw [← bp_ix (top := top) (d := co - 1) (by assumption)]; assumption⟩⟩ | exact ⟨by assumption, Or.inr ⟨by omega, by rw [← bp_ix (top := top) (d := co + 1) (by assumption)]; assumption⟩⟩ | (intro q; rcases q.2 with z | z <;> first | (exfalso; have := z.1; omega) | (have w := z.2; rw [← bp_ix (top := top) (d := co - 1) (by assumption)] at w; exact absurd w (by assumption)) | (have w := z.2; rw [← bp_ix (top := top) (d := co + 1) (by assumption)] at w; exact absurd w (by assumption)))))⟩)), ht⟩) (fun q h => by cases h) dX9_barredByApart_70
    · have dc4 : 0 < x3.toInt := nleC rfl (show (0 : Int32).toInt = 0 from rfl) c4
      refine lv_aload_n hx hb dX9_barredByApart_22 rfl (lv_at hl 1 rfl) ?_
      refine lv_iload_n hx hb dX9_barredByApart_23 rfl (lv_at hl 2 rfl) ?_
      refine lv_aload_n hx hb dX9_barredByApart_24 rfl (lv_at hl 1 rfl) ?_
      refine va_get (D := (dC, dI)) (ci := 9) (v := .ref (a 4)) (C := RX9) (T := TX9) (N := 11) hx hb hts inX9 hown hK hP 0 rfl rfl 2 (by decide) lf28 (fun _ h9 => h9) rfl dX9_barredByApart_25 ?_
      refine va_getN (D := (dC, dI)) (ci := 1) (v := .ref (a 5)) (C := RX1) (T := TX1) (N := 13) hx hb hts inX1 hown hK hP 1 rfl rfl 1 (by decide) lf131 (fun _ h9 => h9) rfl dX9_barredByApart_28 ?_
      refine lv_iload_n hx hb dX9_barredByApart_31 rfl (lv_at hl 3 rfl) ?_
      refine lv_iconst (v := 1) hx hb dX9_barredByApart_32 (by decide) ?_
      refine lv_isub hx hb dX9_barredByApart_33 ?_
      have f11 : (co - 1).toInt = (co.toInt) - (1) := subC rfl (show (1 : Int32).toInt = 1 from rfl) (by omega) (by omega)
      have b12 : vp_in (co - 1) 48 := inC f11 (by omega) (by omega)
      refine va_iald hx hb hK hP 2 0 rfl rfl b12 dX9_barredByApart_34 ?_
      have g13 : -1 ≤ (top (co - 1).toNatClampNeg).toInt ∧ (top (co - 1).toNatClampNeg).toInt ≤ 23 := rg_at r_top b12
      refine rdV (As := [.int th, .int (top (co - 1).toNatClampNeg)]) (rest := []) ⟨hx, hb, hml, hown, hts⟩ (k_X9_tooLike2 l dC dI cI cZ cQ a rb0 rb1 rb2 db0 db1 db2 mar mos wev aga apa lin th (top (co - 1).toNatClampNeg) r_mar (by omega) (by omega) (by omega) (by omega)) (cwV 2 hts gX9_barredByApart_X9_tooLike rfl rfl rfl (by decide +kernel) ⟨Nat.le_of_ble_eq_true rfl, Nat.le_of_ble_eq_true rfl⟩) hP hK hN [0, 11, 12, 13, 14, 15] rfl 0 9 rfl rfl rfl hl.1 rfl (Nat.le_of_ble_eq_true rfl) dX9_barredByApart_35 ⟨Nat.le_of_ble_eq_true rfl, Nat.le_of_ble_eq_true rfl⟩ (fun r14 h15 => ?_)
      have h15 : ((((r14 = 1) ∧ (tlP mar th (top (co - 1).toNatClampNeg) apa)) ∨ ((r14 = 0) ∧ (¬ tlP mar th (top (co - 1).toNatClampNeg) apa)))) := h15
      rcases h15 with (⟨rfl, h15_a0⟩ | ⟨rfl, h15_a0⟩)
      · refine lv_if_ne (tgt := 65) hx hb dX9_barredByApart_38 (by decide) (fun _ => ?_) (fun c9 => absurd c9 (by decide))
        refine lv_iconst (v := 1) hx hb dX9_barredByApart_65 (by decide) ?_
        refine lv_goto (tgt := 70) hx hb dX9_barredByApart_66 (by decide) ?_
        exact W.zret (v := 1) hx hb hr (by decide) (fun tq ht hW => ⟨1, rfl, (Or.inl (⟨rfl, (show baP mar top apa th co from by (try rw [show (1 : Int32).toInt = 1 from (show (1 : Int32).toInt = 1 from rfl)]); (first | exact fun q => q.1 (by assumption) | exact ⟨by assumption, Or.inl ⟨by omega, by rw [← bp_ix (top := top) (d := co - 1) (by assumption)]; assumption⟩⟩ | exact ⟨by assumption, Or.inr ⟨by omega, by rw [← bp_ix (top := top) (d := co + 1) (by assumption)]; assumption⟩⟩ | (intro q; rcases q.2 with z | z <;> first | (exfalso; have := z.1; omega) | (have w := z.2; rw [← bp_ix (top := top) (d := co - 1) (by assumption)] at w; exact absurd w (by assumption)) | (have w := z.2; rw [← bp_ix (top := top) (d := co + 1) (by assumption)] at w; exact absurd w (by assumption)))))⟩)), ht⟩) (fun q h => by cases h) dX9_barredByApart_70
      · refine lv_if_ne (tgt := 65) hx hb dX9_barredByApart_38 (by decide) (fun c9 => absurd (by decide) c9) (fun _ => ?_)
        refine lv_iload_n hx hb dX9_barredByApart_41 rfl (lv_at hl 0 rfl) ?_
        refine lv_iconst (v := 5) hx hb dX9_barredByApart_42 (by decide) ?_
        refine lv_icmp_ge (tgt := 69) hx hb dX9_barredByApart_43 (by decide) (fun c16 => ?_) (fun c16 => ?_)
        · have dc16 : 5 ≤ x3.toInt := leC (show (5 : Int32).toInt = 5 from rfl) rfl c16
          refine lv_iconst (v := 0) hx hb dX9_barredByApart_69 (by decide) ?_
          exact W.zret (v := 0) hx hb hr (by decide) (fun tq ht hW => ⟨0, rfl, (Or.inr (⟨rfl, (show ¬ baP mar top apa th co from by (try rw [show (0 : Int32).toInt = 0 from (show (0 : Int32).toInt = 0 from rfl)]); (first | exact fun q => q.1 (by assumption) | exact ⟨by assumption, Or.inl ⟨by omega, by rw [← bp_ix (top := top) (d := co - 1) (by assumption)]; assumption⟩⟩ | exact ⟨by assumption, Or.inr ⟨by omega, by rw [← bp_ix (top := top) (d := co + 1) (by assumption)]; assumption⟩⟩ | (intro q; rcases q.2 with z | z <;> first | (exfalso; have := z.1; omega) | (have w := z.2; rw [← bp_ix (top := top) (d := co - 1) (by assumption)] at w; exact absurd w (by assumption)) | (have w := z.2; rw [← bp_ix (top := top) (d := co + 1) (by assumption)] at w; exact absurd w (by assumption)))))⟩)), ht⟩) (fun q h => by cases h) dX9_barredByApart_70
        · have dc16 : x3.toInt < 5 := nleC (show (5 : Int32).toInt = 5 from rfl) rfl c16
          refine lv_aload_n hx hb dX9_barredByApart_46 rfl (lv_at hl 1 rfl) ?_
          refine lv_iload_n hx hb dX9_barredByApart_47 rfl (lv_at hl 2 rfl) ?_
          refine lv_aload_n hx hb dX9_barredByApart_48 rfl (lv_at hl 1 rfl) ?_
          refine va_get (D := (dC, dI)) (ci := 9) (v := .ref (a 4)) (C := RX9) (T := TX9) (N := 11) hx hb hts inX9 hown hK hP 0 rfl rfl 2 (by decide) lf28 (fun _ h9 => h9) rfl dX9_barredByApart_49 ?_
          refine va_getN (D := (dC, dI)) (ci := 1) (v := .ref (a 5)) (C := RX1) (T := TX1) (N := 13) hx hb hts inX1 hown hK hP 1 rfl rfl 1 (by decide) lf131 (fun _ h9 => h9) rfl dX9_barredByApart_52 ?_
          refine lv_iload_n hx hb dX9_barredByApart_55 rfl (lv_at hl 3 rfl) ?_
          refine lv_iconst (v := 1) hx hb dX9_barredByApart_56 (by decide) ?_
          refine lv_iadd hx hb dX9_barredByApart_57 ?_
          have f17 : (co + 1).toInt = (co.toInt) + (1) := addC rfl (show (1 : Int32).toInt = 1 from rfl) (by omega) (by omega)
          have b18 : vp_in (co + 1) 48 := inC f17 (by omega) (by omega)
          refine va_iald hx hb hK hP 2 0 rfl rfl b18 dX9_barredByApart_58 ?_
          have g19 : -1 ≤ (top (co + 1).toNatClampNeg).toInt ∧ (top (co + 1).toNatClampNeg).toInt ≤ 23 := rg_at r_top b18
          refine rdV (As := [.int th, .int (top (co + 1).toNatClampNeg)]) (rest := []) ⟨hx, hb, hml, hown, hts⟩ (k_X9_tooLike2 l dC dI cI cZ cQ a rb0 rb1 rb2 db0 db1 db2 mar mos wev aga apa lin th (top (co + 1).toNatClampNeg) r_mar (by omega) (by omega) (by omega) (by omega)) (cwV 2 hts gX9_barredByApart_X9_tooLike rfl rfl rfl (by decide +kernel) ⟨Nat.le_of_ble_eq_true rfl, Nat.le_of_ble_eq_true rfl⟩) hP hK hN [0, 11, 12, 13, 14, 15] rfl 0 9 rfl rfl rfl hl.1 rfl (Nat.le_of_ble_eq_true rfl) dX9_barredByApart_59 ⟨Nat.le_of_ble_eq_true rfl, Nat.le_of_ble_eq_true rfl⟩ (fun r20 h21 => ?_)
          have h21 : ((((r20 = 1) ∧ (tlP mar th (top (co + 1).toNatClampNeg) apa)) ∨ ((r20 = 0) ∧ (¬ tlP mar th (top (co + 1).toNatClampNeg) apa)))) := h21
          rcases h21 with (⟨rfl, h21_a0⟩ | ⟨rfl, h21_a0⟩)
          · refine lv_if_eq (tgt := 69) hx hb dX9_barredByApart_62 (by decide) (fun c9 => absurd c9 (by decide)) (fun _ => ?_)
            refine lv_iconst (v := 1) hx hb dX9_barredByApart_65 (by decide) ?_
            refine lv_goto (tgt := 70) hx hb dX9_barredByApart_66 (by decide) ?_
            exact W.zret (v := 1) hx hb hr (by decide) (fun tq ht hW => ⟨1, rfl, (Or.inl (⟨rfl, (show baP mar top apa th co from by (try rw [show (1 : Int32).toInt = 1 from (show (1 : Int32).toInt = 1 from rfl)]); (first | exact fun q => q.1 (by assumption) | exact ⟨by assumption, Or.inl ⟨by omega, by rw [← bp_ix (top := top) (d := co - 1) (by assumption)]; assumption⟩⟩ | exact ⟨by assumption, Or.inr ⟨by omega, by rw [← bp_ix (top := top) (d := co + 1) (by assumption)]; assumption⟩⟩ | (intro q; rcases q.2 with z | z <;> first | (exfalso; have := z.1; omega) | (have w := z.2; rw [← bp_ix (top := top) (d := co - 1) (by assumption)] at w; exact absurd w (by assumption)) | (have w := z.2; rw [← bp_ix (top := top) (d := co + 1) (by assumption)] at w; exact absurd w (by assumption)))))⟩)), ht⟩) (fun q h => by cases h) dX9_barredByApart_70
          · refine lv_if_eq (tgt := 69) hx hb dX9_barredByApart_62 (by decide) (fun _ => ?_) (fun c9 => absurd (by decide) c9)
            refine lv_iconst (v := 0) hx hb dX9_barredByApart_69 (by decide) ?_
            exact W.zret (v := 0) hx hb hr (by decide) (fun tq ht hW => ⟨0, rfl, (Or.inr (⟨rfl, (show ¬ baP mar top apa th co from by (try rw [show (0 : Int32).toInt = 0 from (show (0 : Int32).toInt = 0 from rfl)]); (first | exact fun q => q.1 (by assumption) | exact ⟨by assumption, Or.inl ⟨by omega, by rw [← bp_ix (top := top) (d := co - 1) (by assumption)]; assumption⟩⟩ | exact ⟨by assumption, Or.inr ⟨by omega, by rw [← bp_ix (top := top) (d := co + 1) (by assumption)]; assumption⟩⟩ | (intro q; rcases q.2 with z | z <;> first | (exfalso; have := z.1; omega) | (have w := z.2; rw [← bp_ix (top := top) (d := co - 1) (by assumption)] at w; exact absurd w (by assumption)) | (have w := z.2; rw [← bp_ix (top := top) (d := co + 1) (by assumption)] at w; exact absurd w (by assumption)))))⟩)), ht⟩) (fun q h => by cases h) dX9_barredByApart_70
  · have dc1 : apa.toInt = (-1) := eqC rfl (show ((-1) : Int32).toInt = (-1) from rfl) c1
    refine lv_iconst (v := 0) hx hb dX9_barredByApart_11 (by decide) ?_
    exact W.zret (v := 0) hx hb hr (by decide) (fun tq ht hW => ⟨0, rfl, (Or.inr (⟨rfl, (show ¬ baP mar top apa th co from by (try rw [show (0 : Int32).toInt = 0 from (show (0 : Int32).toInt = 0 from rfl)]); (first | exact fun q => q.1 (by assumption) | exact ⟨by assumption, Or.inl ⟨by omega, by rw [← bp_ix (top := top) (d := co - 1) (by assumption)]; assumption⟩⟩ | exact ⟨by assumption, Or.inr ⟨by omega, by rw [← bp_ix (top := top) (d := co + 1) (by assumption)]; assumption⟩⟩ | (intro q; rcases q.2 with z | z <;> first | (exfalso; have := z.1; omega) | (have w := z.2; rw [← bp_ix (top := top) (d := co - 1) (by assumption)] at w; exact absurd w (by assumption)) | (have w := z.2; rw [← bp_ix (top := top) (d := co + 1) (by assumption)] at w; exact absurd w (by assumption)))))⟩)), ht⟩) (fun q h => by cases h) dX9_barredByApart_12
set_option maxHeartbeats 4000000 in
set_option maxRecDepth 100000 in
theorem k_X9_bars2 (l : Launch) (dC : Nat → ClassId) (dI : Nat → Nat → Nat) (cI cZ cQ : ClassId) (a : Nat → Nat) (rb0 : Nat) (rb1 : Nat) (rb2 : Nat) (db0 : Nat) (db1 : Nat) (db2 : Nat) (top : Nat → Int32) (str : Nat → Int32) (gho : Nat → Int32) (ghs : Nat → Int32) (pto : Nat → Int32) (cro : Nat → Int32) (pla : Nat → Int32) (wal : Nat → Int32) (fal : Nat → Int32) (tel : Int32) (gai : Int32) (day : Int32) (mar : Nat → Int32) (mos : Nat → Int32) (wev : Nat → Int32) (aga : Int32) (apa : Int32) (lin : Int32) (th : Int32) (co : Int32) (r_top : rg 48 (-1) (23) top) (r_str : rg 48 (0) (100) str) (r_gho : rg 48 (-1) (23) gho) (r_ghs : rg 48 (0) (100) ghs) (r_cro : rg 48 (0) (6) cro) (r_pla : rg 24 (-1) (47) pla) (r_fal : rg 11 (0) (30) fal) (r_gai : 0 ≤ gai.toInt ∧ gai.toInt ≤ 100) (r_day : 0 ≤ day.toInt ∧ day.toInt ≤ 400) (r_mar : rg 24 (0) (255) mar) : KR l yX9_bars wsX9_bars { frames := 4, cells := 0, slots := 0, locals := 87 } (dC, dI) (TY cI cZ cQ) (wsCR cI cZ cQ a rb0 rb1 rb2 db0 db1 db2 top str gho ghs pto cro pla wal fal tel gai day mar mos wev aga apa lin) [.ref (a 43), .int th, .int co] (fun r : Int32 => (spBar (baR mos top co) (baA pto aga day co) (baP mar top apa th co) th co r)) := by
  refine Met.ofW (cc := cX9_bars) (maxL := 4) (ret := (some .int)) (by decide) rfl ?_
  intro p e s m args below meth c s₁ B hml hv
  obtain ⟨rfl, hP, hK, hN⟩ := hv
  have hx := B.exec
  have hb := B.bytes
  have hr := B.returns
  have hts := atoms_spec (ws := wsX9_bars) B.pre
  have hown : s.vm.findClass RX9 = some m.cls := findClass_of_methodNamed B.named
  have hlocks := B.notSynchronized
  have hl := lv_entry ([.ref (a 43), .int th, .int co]) (n := 4) (Nat.le_of_ble_eq_true rfl)
  rw [lg_entry_eq]
  generalize (lg_sl ([.ref (a 43), .int th, .int co]) ++ List.replicate (4 - (lg_sl ([.ref (a 43), .int th, .int co])).length) Slot.unset).toArray = ls at hl ⊢
  have hl : lv_has ls 4 [(0, .ref (a 43)), (1, .int th), (2, .int co)] := hl
  refine lv_iload_n hx hb dX9_bars_0 rfl (lv_at hl 1 rfl) ?_
  refine rdS (As := [.int th]) (rest := []) ⟨hx, hb, hml, hown, hts⟩ (k_X9_isThing l dC dI cI cZ cQ th) (va_cwS 1 hts gX9_bars_X9_isThing rfl rfl rfl (by decide +kernel) ⟨Nat.le_of_ble_eq_true rfl, Nat.le_of_ble_eq_true rfl⟩) hP hK hN [] rfl rfl hl.1 rfl (Nat.le_of_ble_eq_true rfl) dX9_bars_1 ⟨Nat.le_of_ble_eq_true rfl, Nat.le_of_ble_eq_true rfl⟩ (fun r1 h2 => ?_)
  have h2 : ((((r1 = 1) ∧ (0 ≤ th.toInt) ∧ (th.toInt ≤ 23)) ∨ ((r1 = 0) ∧ (th.toInt < 0 ∨ 23 < th.toInt)))) := h2
  rcases h2 with (⟨rfl, h2_a0, h2_a1⟩ | ⟨rfl, h2_a0⟩)
  · refine lv_if_eq (tgt := 14) hx hb dX9_bars_4 (by decide) (fun c9 => absurd c9 (by decide)) (fun _ => ?_)
    refine lv_iload_n hx hb dX9_bars_7 rfl (lv_at hl 2 rfl) ?_
    refine rdS (As := [.int co]) (rest := []) ⟨hx, hb, hml, hown, hts⟩ (k_X9_isCorner l dC dI cI cZ cQ co) (va_cwS 1 hts gX9_bars_X9_isCorner rfl rfl rfl (by decide +kernel) ⟨Nat.le_of_ble_eq_true rfl, Nat.le_of_ble_eq_true rfl⟩) hP hK hN [] rfl rfl hl.1 rfl (Nat.le_of_ble_eq_true rfl) dX9_bars_8 ⟨Nat.le_of_ble_eq_true rfl, Nat.le_of_ble_eq_true rfl⟩ (fun r3 h4 => ?_)
    have h4 : ((((r3 = 1) ∧ (0 ≤ co.toInt) ∧ (co.toInt ≤ 47)) ∨ ((r3 = 0) ∧ (co.toInt < 0 ∨ 47 < co.toInt)))) := h4
    rcases h4 with (⟨rfl, h4_a0, h4_a1⟩ | ⟨rfl, h4_a0⟩)
    · refine lv_if_ne (tgt := 17) hx hb dX9_bars_11 (by decide) (fun _ => ?_) (fun c9 => absurd c9 (by decide))
      refine lv_iconst (v := 0) hx hb dX9_bars_17 (by decide) ?_
      refine lv_istore_n (lv' := [(3, .int 0), (0, .ref (a 43)), (1, .int th), (2, .int co)]) hx hb dX9_bars_18 rfl hl (by decide) rfl (fun ls hl => ?_)
      have L30 : ∀ (y30_3 : Int32) (ls : Array Slot), (0 ≤ (y30_3.toInt)) → ((y30_3.toInt) ≤ 1) → (wgt (baR mos top co) 1 (y30_3.toInt)) → lv_has ls 4 [(0, .ref (a 43)), (1, .int th), (2, .int co), (3, .int y30_3)] → W p l e (headSpec wsX9_bars { frames := 4, cells := 0, slots := 0, locals := 87 }).room s m ([.ref (a 43), .int th, .int co] : List Value).toArray below meth c s.heap [] 0 0 (MQ below (QR (fun r : Int32 => (spBar (baR mos top co) (baA pto aga day co) (baP mar top apa th co) th co r))) ([.ref (a 43), .int th, .int co] : List Value).toArray s 0 0 (fun _ => False)) (F0 m 30 ls []) := by
        intro y30_3 ls i30_0 i30_1 i30_2 hl
        have L41 : ∀ (y41_3 : Int32) (ls : Array Slot), (0 ≤ (y41_3.toInt)) → ((y41_3.toInt) ≤ 3) → (∃ a b : Int, wgt (baR mos top co) 1 a ∧ wgt (baA pto aga day co) 2 b ∧ (y41_3.toInt) = a + b) → lv_has ls 4 [(0, .ref (a 43)), (1, .int th), (2, .int co), (3, .int y41_3)] → W p l e (headSpec wsX9_bars { frames := 4, cells := 0, slots := 0, locals := 87 }).room s m ([.ref (a 43), .int th, .int co] : List Value).toArray below meth c s.heap [] 0 0 (MQ below (QR (fun r : Int32 => (spBar (baR mos top co) (baA pto aga day co) (baP mar top apa th co) th co r))) ([.ref (a 43), .int th, .int co] : List Value).toArray s 0 0 (fun _ => False)) (F0 m 41 ls []) := by
          intro y41_3 ls i41_0 i41_1 i41_2 hl
          refine lv_aload_n hx hb dX9_bars_41 rfl (lv_at hl 0 rfl) ?_
          refine lv_iload_n hx hb dX9_bars_42 rfl (lv_at hl 1 rfl) ?_
          refine lv_iload_n hx hb dX9_bars_43 rfl (lv_at hl 2 rfl) ?_
          refine rdV (As := [.int th, .int co]) (rest := []) ⟨hx, hb, hml, hown, hts⟩ (k_X9_barredByApart2 l dC dI cI cZ cQ a rb0 rb1 rb2 db0 db1 db2 top str gho ghs pto cro pla wal fal tel gai day mar mos wev aga apa lin th co r_top r_str r_gho r_ghs r_cro r_pla r_fal r_gai r_day r_mar (by omega) (by omega) (by omega) (by omega)) (cwV 2 hts gX9_bars_X9_barredByApart rfl rfl rfl (by decide +kernel) ⟨Nat.le_of_ble_eq_true rfl, Nat.le_of_ble_eq_true rfl⟩) hP hK hN [0, 1, 2, 3, 4, 5, 6, 7, 8, 9, 10, 11, 12, 13, 14, 15] rfl 0 9 rfl rfl rfl hl.1 rfl (Nat.le_of_ble_eq_true rfl) dX9_bars_44 ⟨Nat.le_of_ble_eq_true rfl, Nat.le_of_ble_eq_true rfl⟩ (fun r5 h6 => ?_)
          have h6 : ((((r5 = 1) ∧ (baP mar top apa th co)) ∨ ((r5 = 0) ∧ (¬ baP mar top apa th co)))) := h6
          rcases h6 with (⟨rfl, h6_a0⟩ | ⟨rfl, h6_a0⟩)
          · refine lv_if_eq (tgt := 53) hx hb dX9_bars_47 (by decide) (fun c9 => absurd c9 (by decide)) (fun _ => ?_)
            obtain ⟨z7, ez7⟩ : ∃ y : Int32, y = y41_3 + 4 := ⟨_, rfl⟩
            have iz7 : z7.toInt = y41_3.toInt + 4 := by rw [ez7]; exact addC rfl rfl (by omega) (by omega)
            refine lv_iinc (v := z7) (lv' := [(3, .int z7), (0, .ref (a 43)), (1, .int th), (2, .int co)]) hx hb dX9_bars_50 hl (k := 3) rfl (by rw [ez7]; rfl) (by decide) rfl (fun ls hl => ?_)
            refine lv_iload_n hx hb dX9_bars_53 rfl (lv_at hl 0 rfl) ?_
            exact W.iret (v := z7) hx hb hr (fun tq ht hW => ⟨z7, rfl, (show spBar (baR mos top co) (baA pto aga day co) (baP mar top apa th co) th co z7 from by (first | exact Or.inl ⟨by omega, rfl⟩ | exact Or.inr ⟨by omega, br3 i41_2 (Or.inl ⟨by assumption, rfl⟩) (by omega)⟩ | exact Or.inr ⟨by omega, br3 i41_2 (Or.inr ⟨by assumption, rfl⟩) (by omega)⟩)), ht⟩) (fun q h => by cases h) dX9_bars_54
          · refine lv_if_eq (tgt := 53) hx hb dX9_bars_47 (by decide) (fun _ => ?_) (fun c9 => absurd (by decide) c9)
            refine lv_iload_n hx hb dX9_bars_53 rfl (lv_at hl 3 rfl) ?_
            exact W.iret (v := y41_3) hx hb hr (fun tq ht hW => ⟨y41_3, rfl, (show spBar (baR mos top co) (baA pto aga day co) (baP mar top apa th co) th co y41_3 from by (first | exact Or.inl ⟨by omega, rfl⟩ | exact Or.inr ⟨by omega, br3 i41_2 (Or.inl ⟨by assumption, rfl⟩) (by omega)⟩ | exact Or.inr ⟨by omega, br3 i41_2 (Or.inr ⟨by assumption, rfl⟩) (by omega)⟩)), ht⟩) (fun q h => by cases h) dX9_bars_54
        refine lv_aload_n hx hb dX9_bars_30 rfl (lv_at hl 0 rfl) ?_
        refine lv_iload_n hx hb dX9_bars_31 rfl (lv_at hl 2 rfl) ?_
        refine rdV (As := [.int co]) (rest := []) ⟨hx, hb, hml, hown, hts⟩ (k_X9_barredByAgain2 l dC dI cI cZ cQ a rb0 rb1 rb2 db0 db1 db2 top str gho ghs pto cro pla wal fal tel gai day mar mos wev aga apa lin co r_top r_str r_gho r_ghs r_cro r_pla r_fal r_gai r_day r_mar (by omega) (by omega)) (cwV 1 hts gX9_bars_X9_barredByAgain rfl rfl rfl (by decide +kernel) ⟨Nat.le_of_ble_eq_true rfl, Nat.le_of_ble_eq_true rfl⟩) hP hK hN [0, 1, 2, 3, 4, 5, 6, 7, 8, 9, 10, 11, 12, 13, 14, 15] rfl 0 9 rfl rfl rfl hl.1 rfl (Nat.le_of_ble_eq_true rfl) dX9_bars_32 ⟨Nat.le_of_ble_eq_true rfl, Nat.le_of_ble_eq_true rfl⟩ (fun r8 h9 => ?_)
        have h9 : ((((r8 = 1) ∧ (baA pto aga day co)) ∨ ((r8 = 0) ∧ (¬ baA pto aga day co)))) := h9
        rcases h9 with (⟨rfl, h9_a0⟩ | ⟨rfl, h9_a0⟩)
        · refine lv_if_eq (tgt := 41) hx hb dX9_bars_35 (by decide) (fun c9 => absurd c9 (by decide)) (fun _ => ?_)
          obtain ⟨z10, ez10⟩ : ∃ y : Int32, y = y30_3 + 2 := ⟨_, rfl⟩
          have iz10 : z10.toInt = y30_3.toInt + 2 := by rw [ez10]; exact addC rfl rfl (by omega) (by omega)
          refine lv_iinc (v := z10) (lv' := [(3, .int z10), (0, .ref (a 43)), (1, .int th), (2, .int co)]) hx hb dX9_bars_38 hl (k := 3) rfl (by rw [ez10]; rfl) (by decide) rfl (fun ls hl => ?_)
          exact L41 z10 _ (by omega) (by omega) (by (first | exact cau2 i30_2 (Or.inl ⟨by assumption, rfl⟩) (by omega) | exact cau2 i30_2 (Or.inr ⟨by assumption, rfl⟩) (by omega))) (lv_sub hl [1, 2, 3, 0] rfl)
        · refine lv_if_eq (tgt := 41) hx hb dX9_bars_35 (by decide) (fun _ => ?_) (fun c9 => absurd (by decide) c9)
          exact L41 y30_3 _ (by omega) (by omega) (by (first | exact cau2 i30_2 (Or.inl ⟨by assumption, rfl⟩) (by omega) | exact cau2 i30_2 (Or.inr ⟨by assumption, rfl⟩) (by omega))) (lv_sub hl [0, 1, 2, 3] rfl)
      refine lv_aload_n hx hb dX9_bars_19 rfl (lv_at hl 1 rfl) ?_
      refine lv_iload_n hx hb dX9_bars_20 rfl (lv_at hl 3 rfl) ?_
      refine rdV (As := [.int co]) (rest := []) ⟨hx, hb, hml, hown, hts⟩ (k_X9_barredByRoom2 l dC dI cI cZ cQ a rb0 rb1 rb2 db0 db1 db2 top str gho ghs pto cro pla wal fal tel gai day mar mos wev aga apa lin co r_top r_str r_gho r_ghs r_cro r_pla r_fal r_gai r_day r_mar (by omega) (by omega)) (cwV 1 hts gX9_bars_X9_barredByRoom rfl rfl rfl (by decide +kernel) ⟨Nat.le_of_ble_eq_true rfl, Nat.le_of_ble_eq_true rfl⟩) hP hK hN [0, 1, 2, 3, 4, 5, 6, 7, 8, 9, 10, 11, 12, 13, 14, 15] rfl 0 9 rfl rfl rfl hl.1 rfl (Nat.le_of_ble_eq_true rfl) dX9_bars_21 ⟨Nat.le_of_ble_eq_true rfl, Nat.le_of_ble_eq_true rfl⟩ (fun r11 h12 => ?_)
      have h12 : ((((r11 = 1) ∧ (baR mos top co)) ∨ ((r11 = 0) ∧ (¬ baR mos top co)))) := h12
      rcases h12 with (⟨rfl, h12_a0⟩ | ⟨rfl, h12_a0⟩)
      · refine lv_if_eq (tgt := 30) hx hb dX9_bars_24 (by decide) (fun c9 => absurd c9 (by decide)) (fun _ => ?_)
        obtain ⟨z13, ez13⟩ : ∃ y : Int32, y = 0 + 1 := ⟨_, rfl⟩
        have iz13 : z13.toInt = 0 + 1 := by rw [ez13]; exact addC (show (0 : Int32).toInt = 0 from rfl) rfl (by omega) (by omega)
        refine lv_iinc (v := z13) (lv' := [(3, .int z13), (0, .ref (a 43)), (1, .int th), (2, .int co)]) hx hb dX9_bars_27 hl (k := 0) rfl (by rw [ez13]; rfl) (by decide) rfl (fun ls hl => ?_)
        exact L30 z13 _ (by omega) (by omega) (by (first | exact Or.inl ⟨by assumption, by first | rfl | omega⟩ | exact Or.inr ⟨by assumption, by first | rfl | omega⟩)) (lv_sub hl [1, 2, 3, 0] rfl)
      · refine lv_if_eq (tgt := 30) hx hb dX9_bars_24 (by decide) (fun _ => ?_) (fun c9 => absurd (by decide) c9)
        have kc14 : (0 : Int32).toInt = 0 := rfl
        exact L30 0 _ (by omega) (by omega) (by (first | exact Or.inl ⟨by assumption, by first | rfl | omega⟩ | exact Or.inr ⟨by assumption, by first | rfl | omega⟩)) (lv_sub hl [1, 2, 3, 0] rfl)
    · refine lv_if_ne (tgt := 17) hx hb dX9_bars_11 (by decide) (fun c9 => absurd (by decide) c9) (fun _ => ?_)
      refine lv_bipush (v := (-2)) hx hb dX9_bars_14 (by decide) ?_
      exact W.iret (v := (-2)) hx hb hr (fun tq ht hW => ⟨(-2), rfl, (show spBar (baR mos top co) (baA pto aga day co) (baP mar top apa th co) th co ((-2) : Int32) from by (try rw [show ((-2) : Int32).toInt = (-2) from (show ((-2) : Int32).toInt = (-2) from rfl)]); (first | exact Or.inl ⟨by omega, rfl⟩ | exact Or.inr ⟨by omega, br3 i41_2 (Or.inl ⟨by assumption, rfl⟩) (by omega)⟩ | exact Or.inr ⟨by omega, br3 i41_2 (Or.inr ⟨by assumption, rfl⟩) (by omega)⟩)), ht⟩) (fun q h => by cases h) dX9_bars_16
  · refine lv_if_eq (tgt := 14) hx hb dX9_bars_4 (by decide) (fun _ => ?_) (fun c9 => absurd (by decide) c9)
    refine lv_bipush (v := (-2)) hx hb dX9_bars_14 (by decide) ?_
    exact W.iret (v := (-2)) hx hb hr (fun tq ht hW => ⟨(-2), rfl, (show spBar (baR mos top co) (baA pto aga day co) (baP mar top apa th co) th co ((-2) : Int32) from by (try rw [show ((-2) : Int32).toInt = (-2) from (show ((-2) : Int32).toInt = (-2) from rfl)]); (first | exact Or.inl ⟨by omega, rfl⟩ | exact Or.inr ⟨by omega, br3 i41_2 (Or.inl ⟨by assumption, rfl⟩) (by omega)⟩ | exact Or.inr ⟨by omega, br3 i41_2 (Or.inr ⟨by assumption, rfl⟩) (by omega)⟩)), ht⟩) (fun q h => by cases h) dX9_bars_16
set_option maxHeartbeats 4000000 in
set_option maxRecDepth 100000 in
theorem k_X10_isTooLike2 (l : Launch) (dC : Nat → ClassId) (dI : Nat → Nat → Nat) (cI cZ cQ : ClassId) (b : Nat → Nat) (mday : Int32) (mdoo : Int32) (mdA : Nat → Int32) (mdB : Nat → Int32) (mfar : Nat → Int32) (mmar : Nat → Int32) (mtel : Int32) (mgai : Int32) (mfal : Nat → Int32) (mtop : Nat → Int32) (mstr : Nat → Int32) (mgho : Nat → Int32) (mfai : Nat → Int32) (mpto : Nat → Int32) (mwal : Nat → Int32) (mahd : Nat → Int32) (mahf : Nat → Int32) (mcho : Nat → Int32) (mbes : Nat → Int32) (mbyt : Int32) (mtxt : Nat → Int32) (mpos : Int32) (mtka : Int32) (mtok : Int64) (mdig : Int32) (mnum : Int32) (mfau : Int32) (mrdm : Int32) (mrea : Nat → Int32) (mlin : Int32) (mlne : Nat → Int32) (mthg : Nat → Int32) (mord : Nat → Int32) (mbor : Nat → Int32) (mbsm : Int32) (mans : Nat → Int32) (mand : Nat → Int32) (manr : Nat → Int32) (mali : Nat → Int32) (t : Int32) (co : Int32) (ap : Int32) (r_mday : 0 ≤ mday.toInt ∧ mday.toInt ≤ 400) (r_mdoo : 0 ≤ mdoo.toInt ∧ mdoo.toInt ≤ 14) (r_mdA : rg 14 (0) (7) mdA) (r_mdB : rg 14 (0) (7) mdB) (r_mmar : rg 24 (0) (255) mmar) (r_mgai : 0 ≤ mgai.toInt ∧ mgai.toInt ≤ 100) (r_mfal : rg 11 (0) (30) mfal) (r_mtop : rg 48 (-1) (23) mtop) (r_mstr : rg 48 (0) (100) mstr) (r_mgho : rg 48 (-1) (23) mgho) (r_mfai : rg 48 (0) (100) mfai) (r_mahd : rg 240 (0) (100) mahd) (r_mahf : rg 240 (0) (100) mahf) (r_mcho : rg 5 (-1) (9) mcho) (r_mbyt : 0 ≤ mbyt.toInt ∧ mbyt.toInt ≤ 160) (r_mpos : 0 ≤ mpos.toInt ∧ mpos.toInt ≤ 160) (r_mrdm : 0 ≤ mrdm.toInt ∧ mrdm.toInt ≤ 10) (r_mlin : 0 ≤ mlin.toInt ∧ mlin.toInt ≤ 10) (r_mthg : rg 8 (0) (31) mthg) (r_mord : rg 8 (-1) (8) mord) (r_mans : rg 4 (0) (12) mans) (q0 : 0 ≤ t.toInt) (q1 : t.toInt ≤ 23) (q2 : 0 ≤ co.toInt) (q3 : co.toInt ≤ 47) : KR l yX10_isTooLike wsX10_isTooLike { frames := 1, cells := 0, slots := 0, locals := 25 } (dC, dI) (TY cI cZ cQ) (wMod cI cZ cQ b mday mdoo mdA mdB mfar mmar mtel mgai mfal mtop mstr mgho mfai mpto mwal mahd mahf mcho mbes mbyt mtxt mpos mtka mtok mdig mnum mfau mrdm mrea mlin mlne mthg mord mbor mbsm mans mand manr mali) [.ref (b 39), .int t, .int co, .int ap] (fun r : Int32 => ((((r = 1) ∧ (tlM mmar mtop t co.toNatClampNeg ap)) ∨ ((r = 0) ∧ (¬ tlM mmar mtop t co.toNatClampNeg ap))))) := by
  refine Met.ofW (cc := cX10_isTooLike) (maxL := 4) (ret := (some .boolean)) (by decide) rfl ?_
  intro p e s m args below meth c s₁ B hml hv
  obtain ⟨rfl, hP, hK, hN⟩ := hv
  have hx := B.exec
  have hb := B.bytes
  have hr := B.returns
  have hts := atoms_spec (ws := wsX10_isTooLike) B.pre
  have hown : s.vm.findClass RX10 = some m.cls := findClass_of_methodNamed B.named
  have hlocks := B.notSynchronized
  have lf32 := hts (.fieldLink RX10 32 "PalaceOfRoomsModel" "top" "[I") (List.mem_cons_of_mem _ (List.mem_append_left _ (List.mem_of_getElem? (i := 0) rfl)))
  have inX10 : ∀ w ∈ wsX100, w ∈ wsX10_isTooLike := fun w h => List.mem_cons_of_mem _ (List.mem_append_right _ h)
  have hl := lv_entry ([.ref (b 39), .int t, .int co, .int ap]) (n := 4) (Nat.le_of_ble_eq_true rfl)
  rw [lg_entry_eq]
  generalize (lg_sl ([.ref (b 39), .int t, .int co, .int ap]) ++ List.replicate (4 - (lg_sl ([.ref (b 39), .int t, .int co, .int ap])).length) Slot.unset).toArray = ls at hl ⊢
  have hl : lv_has ls 4 [(0, .ref (b 39)), (1, .int t), (2, .int co), (3, .int ap)] := hl
  refine lv_aload_n hx hb dX10_isTooLike_0 rfl (lv_at hl 0 rfl) ?_
  refine va_get (D := (dC, dI)) (ci := 10) (v := .ref (b 9)) (C := RX10) (T := TX10) (N := 39) hx hb hts inX10 hown hK hP 0 rfl rfl 9 (by decide) lf32 (fun _ h9 => h9) rfl dX10_isTooLike_1 ?_
  refine lv_iload_n hx hb dX10_isTooLike_4 rfl (lv_at hl 2 rfl) ?_
  have b1 : vp_in co 48 := inC rfl (by omega) (by omega)
  refine va_iald hx hb hK hP 6 0 rfl rfl b1 dX10_isTooLike_5 ?_
  have g2 : -1 ≤ (mtop co.toNatClampNeg).toInt ∧ (mtop co.toNatClampNeg).toInt ≤ 23 := rg_at r_mtop b1
  refine lv_iconst (v := (-1)) hx hb dX10_isTooLike_6 (by decide) ?_
  refine lv_icmp_eq (tgt := 29) hx hb dX10_isTooLike_7 (by decide) (fun c3 => ?_) (fun c3 => ?_)
  · have dc3 : (mtop co.toNatClampNeg).toInt = (-1) := eqC rfl (show ((-1) : Int32).toInt = (-1) from rfl) c3
    refine lv_iconst (v := 0) hx hb dX10_isTooLike_29 (by decide) ?_
    exact W.zret (v := 0) hx hb hr (by decide) (fun tq ht hW => ⟨0, rfl, (Or.inr (⟨rfl, (show ¬ tlM mmar mtop t co.toNatClampNeg ap from by (try rw [show (0 : Int32).toInt = 0 from (show (0 : Int32).toInt = 0 from rfl)]); (first | exact tlm_y (by assumption) (by assumption) (by omega) | exact fun q => q.1 (by assumption) | exact tlm_n (by assumption) (by omega)))⟩)), ht⟩) (fun q h => by cases h) dX10_isTooLike_30
  · have dc3 : 0 ≤ (mtop co.toNatClampNeg).toInt := ka_lo (by omega) (neC rfl (show ((-1) : Int32).toInt = (-1) from rfl) c3)
    refine lv_aload_n hx hb dX10_isTooLike_10 rfl (lv_at hl 0 rfl) ?_
    refine lv_aload_n hx hb dX10_isTooLike_11 rfl (lv_at hl 0 rfl) ?_
    refine va_get (D := (dC, dI)) (ci := 10) (v := .ref (b 9)) (C := RX10) (T := TX10) (N := 39) hx hb hts inX10 hown hK hP 0 rfl rfl 9 (by decide) lf32 (fun _ h9 => h9) rfl dX10_isTooLike_12 ?_
    refine lv_iload_n hx hb dX10_isTooLike_15 rfl (lv_at hl 2 rfl) ?_
    have b4 : vp_in co 48 := inC rfl (by omega) (by omega)
    refine va_iald hx hb hK hP 6 0 rfl rfl b4 dX10_isTooLike_16 ?_
    have g5 : -1 ≤ (mtop co.toNatClampNeg).toInt ∧ (mtop co.toNatClampNeg).toInt ≤ 23 := rg_at r_mtop b4
    refine lv_iload_n hx hb dX10_isTooLike_17 rfl (lv_at hl 1 rfl) ?_
    refine rdV (As := [.int (mtop co.toNatClampNeg), .int t]) (rest := []) ⟨hx, hb, hml, hown, hts⟩ (k_X10_likeness l dC dI cI cZ cQ b mday mdoo mdA mdB mfar mmar mtel mgai mfal mtop mstr mgho mfai mpto mwal mahd mahf mcho mbes mbyt mtxt mpos mtka mtok mdig mnum mfau mrdm mrea mlin mlne mthg mord mbor mbsm mans mand manr mali (mtop co.toNatClampNeg) t r_mday r_mdoo r_mdA r_mdB r_mmar r_mgai r_mfal r_mtop r_mstr r_mgho r_mfai r_mahd r_mahf r_mcho r_mbyt r_mpos r_mrdm r_mlin r_mthg r_mord r_mans (by omega) (by omega) (by omega) (by omega)) (cwV 2 hts gX10_isTooLike_X10_likeness rfl rfl rfl (by decide +kernel) ⟨Nat.le_of_ble_eq_true rfl, Nat.le_of_ble_eq_true rfl⟩) hP hK hN [0, 1, 2, 3, 4, 5, 6, 7, 8, 9, 10, 11, 12, 13, 14, 15, 16, 17, 18, 19, 20, 21, 22, 23, 24, 25] rfl 0 10 rfl rfl rfl hl.1 rfl (Nat.le_of_ble_eq_true rfl) dX10_isTooLike_18 ⟨Nat.le_of_ble_eq_true rfl, Nat.le_of_ble_eq_true rfl⟩ (fun r6 h7 => ?_)
    have h7 : (r6 = bc (mmar (mtop co.toNatClampNeg).toNatClampNeg &&& mmar t.toNatClampNeg)) := h7
    have h7_0 := h7
    refine lv_iload_n hx hb dX10_isTooLike_21 rfl (lv_at hl 3 rfl) ?_
    refine lv_icmp_le (tgt := 29) hx hb dX10_isTooLike_22 (by decide) (fun c8 => ?_) (fun c8 => ?_)
    · have dc8 : r6.toInt ≤ ap.toInt := leC rfl rfl c8
      refine lv_iconst (v := 0) hx hb dX10_isTooLike_29 (by decide) ?_
      exact W.zret (v := 0) hx hb hr (by decide) (fun tq ht hW => ⟨0, rfl, (Or.inr (⟨rfl, (show ¬ tlM mmar mtop t co.toNatClampNeg ap from by (try rw [show (0 : Int32).toInt = 0 from (show (0 : Int32).toInt = 0 from rfl)]); (first | exact tlm_y (by assumption) (by assumption) (by omega) | exact fun q => q.1 (by assumption) | exact tlm_n (by assumption) (by omega)))⟩)), ht⟩) (fun q h => by cases h) dX10_isTooLike_30
    · have dc8 : ap.toInt < r6.toInt := nleC rfl rfl c8
      refine lv_iconst (v := 1) hx hb dX10_isTooLike_25 (by decide) ?_
      refine lv_goto (tgt := 30) hx hb dX10_isTooLike_26 (by decide) ?_
      exact W.zret (v := 1) hx hb hr (by decide) (fun tq ht hW => ⟨1, rfl, (Or.inl (⟨rfl, (show tlM mmar mtop t co.toNatClampNeg ap from by (try rw [show (1 : Int32).toInt = 1 from (show (1 : Int32).toInt = 1 from rfl)]); (first | exact tlm_y (by assumption) (by assumption) (by omega) | exact fun q => q.1 (by assumption) | exact tlm_n (by assumption) (by omega)))⟩)), ht⟩) (fun q h => by cases h) dX10_isTooLike_30
set_option maxHeartbeats 4000000 in
set_option maxRecDepth 100000 in
theorem k_X10_bars2 (l : Launch) (dC : Nat → ClassId) (dI : Nat → Nat → Nat) (cI cZ cQ : ClassId) (b : Nat → Nat) (mday : Int32) (mdoo : Int32) (mdA : Nat → Int32) (mdB : Nat → Int32) (mfar : Nat → Int32) (mmar : Nat → Int32) (mtel : Int32) (mgai : Int32) (mfal : Nat → Int32) (mtop : Nat → Int32) (mstr : Nat → Int32) (mgho : Nat → Int32) (mfai : Nat → Int32) (mpto : Nat → Int32) (mwal : Nat → Int32) (mahd : Nat → Int32) (mahf : Nat → Int32) (mcho : Nat → Int32) (mbes : Nat → Int32) (mbyt : Int32) (mtxt : Nat → Int32) (mpos : Int32) (mtka : Int32) (mtok : Int64) (mdig : Int32) (mnum : Int32) (mfau : Int32) (mrdm : Int32) (mrea : Nat → Int32) (mlin : Int32) (mlne : Nat → Int32) (mthg : Nat → Int32) (mord : Nat → Int32) (mbor : Nat → Int32) (mbsm : Int32) (mans : Nat → Int32) (mand : Nat → Int32) (manr : Nat → Int32) (mali : Nat → Int32) (t : Int32) (co : Int32) (r_mday : 0 ≤ mday.toInt ∧ mday.toInt ≤ 400) (r_mdoo : 0 ≤ mdoo.toInt ∧ mdoo.toInt ≤ 14) (r_mdA : rg 14 (0) (7) mdA) (r_mdB : rg 14 (0) (7) mdB) (r_mmar : rg 24 (0) (255) mmar) (r_mgai : 0 ≤ mgai.toInt ∧ mgai.toInt ≤ 100) (r_mfal : rg 11 (0) (30) mfal) (r_mtop : rg 48 (-1) (23) mtop) (r_mstr : rg 48 (0) (100) mstr) (r_mgho : rg 48 (-1) (23) mgho) (r_mfai : rg 48 (0) (100) mfai) (r_mahd : rg 240 (0) (100) mahd) (r_mahf : rg 240 (0) (100) mahf) (r_mcho : rg 5 (-1) (9) mcho) (r_mbyt : 0 ≤ mbyt.toInt ∧ mbyt.toInt ≤ 160) (r_mpos : 0 ≤ mpos.toInt ∧ mpos.toInt ≤ 160) (r_mrdm : 0 ≤ mrdm.toInt ∧ mrdm.toInt ≤ 10) (r_mlin : 0 ≤ mlin.toInt ∧ mlin.toInt ≤ 10) (r_mthg : rg 8 (0) (31) mthg) (r_mord : rg 8 (-1) (8) mord) (r_mans : rg 4 (0) (12) mans) : KR l yX10_bars wsX10_bars { frames := 2, cells := 0, slots := 0, locals := 48 } (dC, dI) (TY cI cZ cQ) (wMod cI cZ cQ b mday mdoo mdA mdB mfar mmar mtel mgai mfal mtop mstr mgho mfai mpto mwal mahd mahf mcho mbes mbyt mtxt mpos mtka mtok mdig mnum mfau mrdm mrea mlin mlne mthg mord mbor mbsm mans mand manr mali) [.ref (b 39), .int t, .int co] (fun r : Int32 => (spBar (mbR mlne mtop mlin co) (mbA mlne mpto mlin mday co) (mbP mmar mtop (laF mlne 2 0 100 mlin.toInt.toNat) t co) t co r)) := by
  refine Met.ofW (cc := cX10_bars) (maxL := 6) (ret := (some .int)) (by decide) rfl ?_
  intro p e s m args below meth c s₁ B hml hv
  obtain ⟨rfl, hP, hK, hN⟩ := hv
  have hx := B.exec
  have hb := B.bytes
  have hr := B.returns
  have hts := atoms_spec (ws := wsX10_bars) B.pre
  have hown : s.vm.findClass RX10 = some m.cls := findClass_of_methodNamed B.named
  have hlocks := B.notSynchronized
  have lf44 := hts (.fieldLink RX10 44 "PalaceOfRoomsModel" "putOn" "[I") (List.mem_cons_of_mem _ (List.mem_append_left _ (List.mem_append_left _ (List.mem_of_getElem? (i := 0) rfl))))
  have inX10 : ∀ w ∈ wsX100, w ∈ wsX10_bars := fun w h => List.mem_cons_of_mem _ (List.mem_append_right _ h)
  have lf125 := hts (.fieldLink RX10 125 "PalaceOfRoomsModel" "day" "I") (List.mem_cons_of_mem _ (List.mem_append_left _ (List.mem_append_left _ (List.mem_of_getElem? (i := 1) rfl))))
  have hl := lv_entry ([.ref (b 39), .int t, .int co]) (n := 6) (Nat.le_of_ble_eq_true rfl)
  rw [lg_entry_eq]
  generalize (lg_sl ([.ref (b 39), .int t, .int co]) ++ List.replicate (6 - (lg_sl ([.ref (b 39), .int t, .int co])).length) Slot.unset).toArray = ls at hl ⊢
  have hl : lv_has ls 6 [(0, .ref (b 39)), (1, .int t), (2, .int co)] := hl
  refine lv_iload_n hx hb dX10_bars_0 rfl (lv_at hl 1 rfl) ?_
  refine rdS (As := [.int t]) (rest := []) ⟨hx, hb, hml, hown, hts⟩ (k_X10_isThing l dC dI cI cZ cQ t) (va_cwS 1 hts gX10_bars_X10_isThing rfl rfl rfl (by decide +kernel) ⟨Nat.le_of_ble_eq_true rfl, Nat.le_of_ble_eq_true rfl⟩) hP hK hN [] rfl rfl hl.1 rfl (Nat.le_of_ble_eq_true rfl) dX10_bars_1 ⟨Nat.le_of_ble_eq_true rfl, Nat.le_of_ble_eq_true rfl⟩ (fun r1 h2 => ?_)
  have h2 : ((((r1 = 1) ∧ (0 ≤ t.toInt) ∧ (t.toInt ≤ 23)) ∨ ((r1 = 0) ∧ (t.toInt < 0 ∨ 23 < t.toInt)))) := h2
  rcases h2 with (⟨rfl, h2_a0, h2_a1⟩ | ⟨rfl, h2_a0⟩)
  · refine lv_if_eq (tgt := 14) hx hb dX10_bars_4 (by decide) (fun c9 => absurd c9 (by decide)) (fun _ => ?_)
    refine lv_iload_n hx hb dX10_bars_7 rfl (lv_at hl 2 rfl) ?_
    refine rdS (As := [.int co]) (rest := []) ⟨hx, hb, hml, hown, hts⟩ (k_X10_isCorner l dC dI cI cZ cQ co) (va_cwS 1 hts gX10_bars_X10_isCorner rfl rfl rfl (by decide +kernel) ⟨Nat.le_of_ble_eq_true rfl, Nat.le_of_ble_eq_true rfl⟩) hP hK hN [] rfl rfl hl.1 rfl (Nat.le_of_ble_eq_true rfl) dX10_bars_8 ⟨Nat.le_of_ble_eq_true rfl, Nat.le_of_ble_eq_true rfl⟩ (fun r3 h4 => ?_)
    have h4 : ((((r3 = 1) ∧ (0 ≤ co.toInt) ∧ (co.toInt ≤ 47)) ∨ ((r3 = 0) ∧ (co.toInt < 0 ∨ 47 < co.toInt)))) := h4
    rcases h4 with (⟨rfl, h4_a0, h4_a1⟩ | ⟨rfl, h4_a0⟩)
    · refine lv_if_ne (tgt := 17) hx hb dX10_bars_11 (by decide) (fun _ => ?_) (fun c9 => absurd c9 (by decide))
      have L45 : ∀ (y45_3 : Int32) (ls : Array Slot), (0 ≤ (y45_3.toInt)) → ((y45_3.toInt) ≤ 1) → (wgt (mbR mlne mtop mlin co) 1 (y45_3.toInt)) → lv_has ls 6 [(0, .ref (b 39)), (1, .int t), (2, .int co), (3, .int y45_3)] → W p l e (headSpec wsX10_bars { frames := 2, cells := 0, slots := 0, locals := 48 }).room s m ([.ref (b 39), .int t, .int co] : List Value).toArray below meth c s.heap [] 0 0 (MQ below (QR (fun r : Int32 => (spBar (mbR mlne mtop mlin co) (mbA mlne mpto mlin mday co) (mbP mmar mtop (laF mlne 2 0 100 mlin.toInt.toNat) t co) t co r))) ([.ref (b 39), .int t, .int co] : List Value).toArray s 0 0 (fun _ => False)) (F0 m 45 ls []) := by
        intro y45_3 ls i45_0 i45_1 i45_2 hl
        have L94 : ∀ (y94_3 : Int32) (y94_4 : Int32) (ls : Array Slot), (0 ≤ (y94_3.toInt)) → ((y94_3.toInt) ≤ 3) → (∃ a b : Int, wgt (mbR mlne mtop mlin co) 1 a ∧ wgt (mbA mlne mpto mlin mday co) 2 b ∧ (y94_3.toInt) = a + b) → (y94_4 = laF mlne 2 0 100 mlin.toInt.toNat) → lv_has ls 6 [(0, .ref (b 39)), (1, .int t), (2, .int co), (3, .int y94_3), (4, .int y94_4)] → W p l e (headSpec wsX10_bars { frames := 2, cells := 0, slots := 0, locals := 48 }).room s m ([.ref (b 39), .int t, .int co] : List Value).toArray below meth c s.heap [] 0 0 (MQ below (QR (fun r : Int32 => (spBar (mbR mlne mtop mlin co) (mbA mlne mpto mlin mday co) (mbP mmar mtop (laF mlne 2 0 100 mlin.toInt.toNat) t co) t co r))) ([.ref (b 39), .int t, .int co] : List Value).toArray s 0 0 (fun _ => False)) (F0 m 94 ls []) := by
          intro y94_3 y94_4 ls i94_0 i94_1 i94_2 i94_3 hl
          have L142 : ∀ (y142_5 : Int32) (ls : Array Slot), (mbQ mmar mtop y94_4 t co y142_5) → lv_has ls 6 [(3, .int y94_3), (5, .int y142_5)] → W p l e (headSpec wsX10_bars { frames := 2, cells := 0, slots := 0, locals := 48 }).room s m ([.ref (b 39), .int t, .int co] : List Value).toArray below meth c s.heap [] 0 0 (MQ below (QR (fun r : Int32 => (spBar (mbR mlne mtop mlin co) (mbA mlne mpto mlin mday co) (mbP mmar mtop (laF mlne 2 0 100 mlin.toInt.toNat) t co) t co r))) ([.ref (b 39), .int t, .int co] : List Value).toArray s 0 0 (fun _ => False)) (F0 m 142 ls []) := by
            intro y142_5 ls i142_0 hl
            refine lv_iload_n hx hb dX10_bars_142 rfl (lv_at hl 0 rfl) ?_
            refine lv_iload hx hb dX10_bars_143 (lv_at hl 1 rfl) ?_
            refine lv_if_eq (tgt := 152) hx hb dX10_bars_145 (by decide) (fun c5 => ?_) (fun c5 => ?_)
            · have dc5 : y142_5.toInt = 0 := eqC rfl (show (0 : Int32).toInt = 0 from rfl) c5
              refine lv_iconst (v := 0) hx hb dX10_bars_152 (by decide) ?_
              refine lv_iadd hx hb dX10_bars_153 ?_
              have f6 : (y94_3 + 0).toInt = (y94_3.toInt) + (0) := addC rfl (show (0 : Int32).toInt = 0 from rfl) (by omega) (by omega)
              exact W.iret (v := y94_3 + 0) hx hb hr (fun tq ht hW => ⟨y94_3 + 0, rfl, (show spBar (mbR mlne mtop mlin co) (mbA mlne mpto mlin mday co) (mbP mmar mtop (laF mlne 2 0 100 mlin.toInt.toNat) t co) t co (y94_3 + 0) from by (try rw [show (y94_3 + 0).toInt = (y94_3.toInt) + (0) from f6]); (first | exact Or.inl ⟨by omega, rfl⟩ | exact Or.inr ⟨by omega, br3 i94_2 ((mq_w i142_0 i94_3).1 (by assumption)) (by omega)⟩ | exact Or.inr ⟨by omega, br3 i94_2 ((mq_w i142_0 i94_3).2 (by assumption)) (by omega)⟩)), ht⟩) (fun q h => by cases h) dX10_bars_154
            · have dc5 : y142_5.toInt ≠ 0 := neC rfl (show (0 : Int32).toInt = 0 from rfl) c5
              refine lv_iconst (v := 4) hx hb dX10_bars_148 (by decide) ?_
              refine lv_goto (tgt := 153) hx hb dX10_bars_149 (by decide) ?_
              refine lv_iadd hx hb dX10_bars_153 ?_
              have f7 : (y94_3 + 4).toInt = (y94_3.toInt) + (4) := addC rfl (show (4 : Int32).toInt = 4 from rfl) (by omega) (by omega)
              exact W.iret (v := y94_3 + 4) hx hb hr (fun tq ht hW => ⟨y94_3 + 4, rfl, (show spBar (mbR mlne mtop mlin co) (mbA mlne mpto mlin mday co) (mbP mmar mtop (laF mlne 2 0 100 mlin.toInt.toNat) t co) t co (y94_3 + 4) from by (try rw [show (y94_3 + 4).toInt = (y94_3.toInt) + (4) from f7]); (first | exact Or.inl ⟨by omega, rfl⟩ | exact Or.inr ⟨by omega, br3 i94_2 ((mq_w i142_0 i94_3).1 (by assumption)) (by omega)⟩ | exact Or.inr ⟨by omega, br3 i94_2 ((mq_w i142_0 i94_3).2 (by assumption)) (by omega)⟩)), ht⟩) (fun q h => by cases h) dX10_bars_154
          refine lv_iload_n hx hb dX10_bars_94 rfl (lv_at hl 2 rfl) ?_
          refine lv_bipush (v := 6) hx hb dX10_bars_95 (by decide) ?_
          refine lv_irem hx hb dX10_bars_97 (by decide) ?_
          have f8 : (co - co / 6 * 6).toInt = (co.toInt) % (6) := remC rfl (show (6 : Int32).toInt = 6 from rfl) (by omega) (by omega)
          refine lv_if_le (tgt := 114) hx hb dX10_bars_98 (by decide) (fun c9 => ?_) (fun c9 => ?_)
          · have dc9 : (co.toInt) % (6) ≤ 0 := leC f8 (show (0 : Int32).toInt = 0 from rfl) c9
            refine lv_iload_n hx hb dX10_bars_114 rfl (lv_at hl 2 rfl) ?_
            refine lv_bipush (v := 6) hx hb dX10_bars_115 (by decide) ?_
            refine lv_irem hx hb dX10_bars_117 (by decide) ?_
            have f10 : (co - co / 6 * 6).toInt = (co.toInt) % (6) := remC rfl (show (6 : Int32).toInt = 6 from rfl) (by omega) (by omega)
            refine lv_iconst (v := 5) hx hb dX10_bars_118 (by decide) ?_
            refine lv_icmp_ge (tgt := 139) hx hb dX10_bars_119 (by decide) (fun c11 => ?_) (fun c11 => ?_)
            · have dc11 : 5 ≤ (co.toInt) % (6) := leC (show (5 : Int32).toInt = 5 from rfl) f10 c11
              refine lv_iconst (v := 0) hx hb dX10_bars_139 (by decide) ?_
              refine lv_istore (lv' := [(5, .int 0), (0, .ref (b 39)), (1, .int t), (2, .int co), (3, .int y94_3), (4, .int y94_4)]) hx hb dX10_bars_140 hl (by decide) rfl (fun ls hl => ?_)
              have kc12 : (0 : Int32).toInt = 0 := rfl
              exact L142 0 _ (by (first | exact mq_y1 (by omega) (by assumption) (by assumption) | exact mq_y2 (by omega) (by assumption) (by assumption) | exact mq_n (by first | exact Or.inl (by omega) | exact Or.inr ⟨_, by assumption, by assumption⟩) (by first | exact Or.inl (by omega) | exact Or.inr ⟨_, by assumption, by assumption⟩))) (lv_sub hl [4, 0] rfl)
            · have dc11 : (co.toInt) % (6) < 5 := nleC (show (5 : Int32).toInt = 5 from rfl) f10 c11
              refine lv_aload_n hx hb dX10_bars_122 rfl (lv_at hl 0 rfl) ?_
              refine lv_iload_n hx hb dX10_bars_123 rfl (lv_at hl 1 rfl) ?_
              refine lv_iload_n hx hb dX10_bars_124 rfl (lv_at hl 2 rfl) ?_
              refine lv_iconst (v := 1) hx hb dX10_bars_125 (by decide) ?_
              refine lv_iadd hx hb dX10_bars_126 ?_
              have f13 : (co + 1).toInt = (co.toInt) + (1) := addC rfl (show (1 : Int32).toInt = 1 from rfl) (by omega) (by omega)
              refine lv_iload hx hb dX10_bars_127 (lv_at hl 4 rfl) ?_
              refine rdV (As := [.int t, .int (co + 1), .int y94_4]) (rest := []) ⟨hx, hb, hml, hown, hts⟩ (k_X10_isTooLike2 l dC dI cI cZ cQ b mday mdoo mdA mdB mfar mmar mtel mgai mfal mtop mstr mgho mfai mpto mwal mahd mahf mcho mbes mbyt mtxt mpos mtka mtok mdig mnum mfau mrdm mrea mlin mlne mthg mord mbor mbsm mans mand manr mali t (co + 1) y94_4 r_mday r_mdoo r_mdA r_mdB r_mmar r_mgai r_mfal r_mtop r_mstr r_mgho r_mfai r_mahd r_mahf r_mcho r_mbyt r_mpos r_mrdm r_mlin r_mthg r_mord r_mans (by omega) (by omega) (by omega) (by omega)) (cwV 3 hts gX10_bars_X10_isTooLike rfl rfl rfl (by decide +kernel) ⟨Nat.le_of_ble_eq_true rfl, Nat.le_of_ble_eq_true rfl⟩) hP hK hN [0, 1, 2, 3, 4, 5, 6, 7, 8, 9, 10, 11, 12, 13, 14, 15, 16, 17, 18, 19, 20, 21, 22, 23, 24, 25] rfl 0 10 rfl rfl rfl hl.1 rfl (Nat.le_of_ble_eq_true rfl) dX10_bars_129 ⟨Nat.le_of_ble_eq_true rfl, Nat.le_of_ble_eq_true rfl⟩ (fun r14 h15 => ?_)
              have h15 : ((((r14 = 1) ∧ (tlM mmar mtop t (co + 1).toNatClampNeg y94_4)) ∨ ((r14 = 0) ∧ (¬ tlM mmar mtop t (co + 1).toNatClampNeg y94_4)))) := h15
              rcases h15 with (⟨rfl, h15_a0⟩ | ⟨rfl, h15_a0⟩)
              · refine lv_if_eq (tgt := 139) hx hb dX10_bars_132 (by decide) (fun c9 => absurd c9 (by decide)) (fun _ => ?_)
                refine lv_iconst (v := 1) hx hb dX10_bars_135 (by decide) ?_
                refine lv_goto (tgt := 140) hx hb dX10_bars_136 (by decide) ?_
                refine lv_istore (lv' := [(5, .int 1), (0, .ref (b 39)), (1, .int t), (2, .int co), (3, .int y94_3), (4, .int y94_4)]) hx hb dX10_bars_140 hl (by decide) rfl (fun ls hl => ?_)
                have kc16 : (1 : Int32).toInt = 1 := rfl
                exact L142 1 _ (by (first | exact mq_y1 (by omega) (by assumption) (by assumption) | exact mq_y2 (by omega) (by assumption) (by assumption) | exact mq_n (by first | exact Or.inl (by omega) | exact Or.inr ⟨_, by assumption, by assumption⟩) (by first | exact Or.inl (by omega) | exact Or.inr ⟨_, by assumption, by assumption⟩))) (lv_sub hl [4, 0] rfl)
              · refine lv_if_eq (tgt := 139) hx hb dX10_bars_132 (by decide) (fun _ => ?_) (fun c9 => absurd (by decide) c9)
                refine lv_iconst (v := 0) hx hb dX10_bars_139 (by decide) ?_
                refine lv_istore (lv' := [(5, .int 0), (0, .ref (b 39)), (1, .int t), (2, .int co), (3, .int y94_3), (4, .int y94_4)]) hx hb dX10_bars_140 hl (by decide) rfl (fun ls hl => ?_)
                have kc17 : (0 : Int32).toInt = 0 := rfl
                exact L142 0 _ (by (first | exact mq_y1 (by omega) (by assumption) (by assumption) | exact mq_y2 (by omega) (by assumption) (by assumption) | exact mq_n (by first | exact Or.inl (by omega) | exact Or.inr ⟨_, by assumption, by assumption⟩) (by first | exact Or.inl (by omega) | exact Or.inr ⟨_, by assumption, by assumption⟩))) (lv_sub hl [4, 0] rfl)
          · have dc9 : 0 < (co.toInt) % (6) := nleC f8 (show (0 : Int32).toInt = 0 from rfl) c9
            refine lv_aload_n hx hb dX10_bars_101 rfl (lv_at hl 0 rfl) ?_
            refine lv_iload_n hx hb dX10_bars_102 rfl (lv_at hl 1 rfl) ?_
            refine lv_iload_n hx hb dX10_bars_103 rfl (lv_at hl 2 rfl) ?_
            refine lv_iconst (v := 1) hx hb dX10_bars_104 (by decide) ?_
            refine lv_isub hx hb dX10_bars_105 ?_
            have f18 : (co - 1).toInt = (co.toInt) - (1) := subC rfl (show (1 : Int32).toInt = 1 from rfl) (by omega) (by omega)
            refine lv_iload hx hb dX10_bars_106 (lv_at hl 4 rfl) ?_
            refine rdV (As := [.int t, .int (co - 1), .int y94_4]) (rest := []) ⟨hx, hb, hml, hown, hts⟩ (k_X10_isTooLike2 l dC dI cI cZ cQ b mday mdoo mdA mdB mfar mmar mtel mgai mfal mtop mstr mgho mfai mpto mwal mahd mahf mcho mbes mbyt mtxt mpos mtka mtok mdig mnum mfau mrdm mrea mlin mlne mthg mord mbor mbsm mans mand manr mali t (co - 1) y94_4 r_mday r_mdoo r_mdA r_mdB r_mmar r_mgai r_mfal r_mtop r_mstr r_mgho r_mfai r_mahd r_mahf r_mcho r_mbyt r_mpos r_mrdm r_mlin r_mthg r_mord r_mans (by omega) (by omega) (by omega) (by omega)) (cwV 3 hts gX10_bars_X10_isTooLike rfl rfl rfl (by decide +kernel) ⟨Nat.le_of_ble_eq_true rfl, Nat.le_of_ble_eq_true rfl⟩) hP hK hN [0, 1, 2, 3, 4, 5, 6, 7, 8, 9, 10, 11, 12, 13, 14, 15, 16, 17, 18, 19, 20, 21, 22, 23, 24, 25] rfl 0 10 rfl rfl rfl hl.1 rfl (Nat.le_of_ble_eq_true rfl) dX10_bars_108 ⟨Nat.le_of_ble_eq_true rfl, Nat.le_of_ble_eq_true rfl⟩ (fun r19 h20 => ?_)
            have h20 : ((((r19 = 1) ∧ (tlM mmar mtop t (co - 1).toNatClampNeg y94_4)) ∨ ((r19 = 0) ∧ (¬ tlM mmar mtop t (co - 1).toNatClampNeg y94_4)))) := h20
            rcases h20 with (⟨rfl, h20_a0⟩ | ⟨rfl, h20_a0⟩)
            · refine lv_if_ne (tgt := 135) hx hb dX10_bars_111 (by decide) (fun _ => ?_) (fun c9 => absurd c9 (by decide))
              refine lv_iconst (v := 1) hx hb dX10_bars_135 (by decide) ?_
              refine lv_goto (tgt := 140) hx hb dX10_bars_136 (by decide) ?_
              refine lv_istore (lv' := [(5, .int 1), (0, .ref (b 39)), (1, .int t), (2, .int co), (3, .int y94_3), (4, .int y94_4)]) hx hb dX10_bars_140 hl (by decide) rfl (fun ls hl => ?_)
              have kc21 : (1 : Int32).toInt = 1 := rfl
              exact L142 1 _ (by (first | exact mq_y1 (by omega) (by assumption) (by assumption) | exact mq_y2 (by omega) (by assumption) (by assumption) | exact mq_n (by first | exact Or.inl (by omega) | exact Or.inr ⟨_, by assumption, by assumption⟩) (by first | exact Or.inl (by omega) | exact Or.inr ⟨_, by assumption, by assumption⟩))) (lv_sub hl [4, 0] rfl)
            · refine lv_if_ne (tgt := 135) hx hb dX10_bars_111 (by decide) (fun c9 => absurd (by decide) c9) (fun _ => ?_)
              refine lv_iload_n hx hb dX10_bars_114 rfl (lv_at hl 2 rfl) ?_
              refine lv_bipush (v := 6) hx hb dX10_bars_115 (by decide) ?_
              refine lv_irem hx hb dX10_bars_117 (by decide) ?_
              have f22 : (co - co / 6 * 6).toInt = (co.toInt) % (6) := remC rfl (show (6 : Int32).toInt = 6 from rfl) (by omega) (by omega)
              refine lv_iconst (v := 5) hx hb dX10_bars_118 (by decide) ?_
              refine lv_icmp_ge (tgt := 139) hx hb dX10_bars_119 (by decide) (fun c23 => ?_) (fun c23 => ?_)
              · have dc23 : 5 ≤ (co.toInt) % (6) := leC (show (5 : Int32).toInt = 5 from rfl) f22 c23
                refine lv_iconst (v := 0) hx hb dX10_bars_139 (by decide) ?_
                refine lv_istore (lv' := [(5, .int 0), (0, .ref (b 39)), (1, .int t), (2, .int co), (3, .int y94_3), (4, .int y94_4)]) hx hb dX10_bars_140 hl (by decide) rfl (fun ls hl => ?_)
                have kc24 : (0 : Int32).toInt = 0 := rfl
                exact L142 0 _ (by (first | exact mq_y1 (by omega) (by assumption) (by assumption) | exact mq_y2 (by omega) (by assumption) (by assumption) | exact mq_n (by first | exact Or.inl (by omega) | exact Or.inr ⟨_, by assumption, by assumption⟩) (by first | exact Or.inl (by omega) | exact Or.inr ⟨_, by assumption, by assumption⟩))) (lv_sub hl [4, 0] rfl)
              · have dc23 : (co.toInt) % (6) < 5 := nleC (show (5 : Int32).toInt = 5 from rfl) f22 c23
                refine lv_aload_n hx hb dX10_bars_122 rfl (lv_at hl 0 rfl) ?_
                refine lv_iload_n hx hb dX10_bars_123 rfl (lv_at hl 1 rfl) ?_
                refine lv_iload_n hx hb dX10_bars_124 rfl (lv_at hl 2 rfl) ?_
                refine lv_iconst (v := 1) hx hb dX10_bars_125 (by decide) ?_
                refine lv_iadd hx hb dX10_bars_126 ?_
                have f25 : (co + 1).toInt = (co.toInt) + (1) := addC rfl (show (1 : Int32).toInt = 1 from rfl) (by omega) (by omega)
                refine lv_iload hx hb dX10_bars_127 (lv_at hl 4 rfl) ?_
                refine rdV (As := [.int t, .int (co + 1), .int y94_4]) (rest := []) ⟨hx, hb, hml, hown, hts⟩ (k_X10_isTooLike2 l dC dI cI cZ cQ b mday mdoo mdA mdB mfar mmar mtel mgai mfal mtop mstr mgho mfai mpto mwal mahd mahf mcho mbes mbyt mtxt mpos mtka mtok mdig mnum mfau mrdm mrea mlin mlne mthg mord mbor mbsm mans mand manr mali t (co + 1) y94_4 r_mday r_mdoo r_mdA r_mdB r_mmar r_mgai r_mfal r_mtop r_mstr r_mgho r_mfai r_mahd r_mahf r_mcho r_mbyt r_mpos r_mrdm r_mlin r_mthg r_mord r_mans (by omega) (by omega) (by omega) (by omega)) (cwV 3 hts gX10_bars_X10_isTooLike rfl rfl rfl (by decide +kernel) ⟨Nat.le_of_ble_eq_true rfl, Nat.le_of_ble_eq_true rfl⟩) hP hK hN [0, 1, 2, 3, 4, 5, 6, 7, 8, 9, 10, 11, 12, 13, 14, 15, 16, 17, 18, 19, 20, 21, 22, 23, 24, 25] rfl 0 10 rfl rfl rfl hl.1 rfl (Nat.le_of_ble_eq_true rfl) dX10_bars_129 ⟨Nat.le_of_ble_eq_true rfl, Nat.le_of_ble_eq_true rfl⟩ (fun r26 h27 => ?_)
                have h27 : ((((r26 = 1) ∧ (tlM mmar mtop t (co + 1).toNatClampNeg y94_4)) ∨ ((r26 = 0) ∧ (¬ tlM mmar mtop t (co + 1).toNatClampNeg y94_4)))) := h27
                rcases h27 with (⟨rfl, h27_a0⟩ | ⟨rfl, h27_a0⟩)
                · refine lv_if_eq (tgt := 139) hx hb dX10_bars_132 (by decide) (fun c9 => absurd c9 (by decide)) (fun _ => ?_)
                  refine lv_iconst (v := 1) hx hb dX10_bars_135 (by decide) ?_
                  refine lv_goto (tgt := 140) hx hb dX10_bars_136 (by decide) ?_
                  refine lv_istore (lv' := [(5, .int 1), (0, .ref (b 39)), (1, .int t), (2, .int co), (3, .int y94_3), (4, .int y94_4)]) hx hb dX10_bars_140 hl (by decide) rfl (fun ls hl => ?_)
                  have kc28 : (1 : Int32).toInt = 1 := rfl
                  exact L142 1 _ (by (first | exact mq_y1 (by omega) (by assumption) (by assumption) | exact mq_y2 (by omega) (by assumption) (by assumption) | exact mq_n (by first | exact Or.inl (by omega) | exact Or.inr ⟨_, by assumption, by assumption⟩) (by first | exact Or.inl (by omega) | exact Or.inr ⟨_, by assumption, by assumption⟩))) (lv_sub hl [4, 0] rfl)
                · refine lv_if_eq (tgt := 139) hx hb dX10_bars_132 (by decide) (fun _ => ?_) (fun c9 => absurd (by decide) c9)
                  refine lv_iconst (v := 0) hx hb dX10_bars_139 (by decide) ?_
                  refine lv_istore (lv' := [(5, .int 0), (0, .ref (b 39)), (1, .int t), (2, .int co), (3, .int y94_3), (4, .int y94_4)]) hx hb dX10_bars_140 hl (by decide) rfl (fun ls hl => ?_)
                  have kc29 : (0 : Int32).toInt = 0 := rfl
                  exact L142 0 _ (by (first | exact mq_y1 (by omega) (by assumption) (by assumption) | exact mq_y2 (by omega) (by assumption) (by assumption) | exact mq_n (by first | exact Or.inl (by omega) | exact Or.inr ⟨_, by assumption, by assumption⟩) (by first | exact Or.inl (by omega) | exact Or.inr ⟨_, by assumption, by assumption⟩))) (lv_sub hl [4, 0] rfl)
        refine lv_aload_n hx hb dX10_bars_45 rfl (lv_at hl 0 rfl) ?_
        refine lv_iconst (v := 2) hx hb dX10_bars_46 (by decide) ?_
        refine lv_iconst (v := 0) hx hb dX10_bars_47 (by decide) ?_
        refine lv_bipush (v := 100) hx hb dX10_bars_48 (by decide) ?_
        refine rdV (As := [.int 2, .int 0, .int 100]) (rest := []) ⟨hx, hb, hml, hown, hts⟩ (k_X10_lastOf2 l dC dI cI cZ cQ b mday mdoo mdA mdB mfar mmar mtel mgai mfal mtop mstr mgho mfai mpto mwal mahd mahf mcho mbes mbyt mtxt mpos mtka mtok mdig mnum mfau mrdm mrea mlin mlne mthg mord mbor mbsm mans mand manr mali (2 : Int32) (0 : Int32) (100 : Int32) r_mday r_mdoo r_mdA r_mdB r_mmar r_mgai r_mfal r_mtop r_mstr r_mgho r_mfai r_mahd r_mahf r_mcho r_mbyt r_mpos r_mrdm r_mlin r_mthg r_mord r_mans) (cwV 3 hts gX10_bars_X10_lastOf rfl rfl rfl (by decide +kernel) ⟨Nat.le_of_ble_eq_true rfl, Nat.le_of_ble_eq_true rfl⟩) hP hK hN [0, 1, 2, 3, 4, 5, 6, 7, 8, 9, 10, 11, 12, 13, 14, 15, 16, 17, 18, 19, 20, 21, 22, 23, 24, 25] rfl 0 10 rfl rfl rfl hl.1 rfl (Nat.le_of_ble_eq_true rfl) dX10_bars_50 ⟨Nat.le_of_ble_eq_true rfl, Nat.le_of_ble_eq_true rfl⟩ (fun r30 h31 => ?_)
        have h31 : (r30 = laF mlne (2 : Int32) (0 : Int32) (100 : Int32) mlin.toInt.toNat) := h31
        have h31_0 := h31
        refine lv_istore (lv' := [(4, .int r30), (0, .ref (b 39)), (1, .int t), (2, .int co), (3, .int y45_3)]) hx hb dX10_bars_53 hl (by decide) rfl (fun ls hl => ?_)
        refine lv_iload_n hx hb dX10_bars_55 rfl (lv_at hl 4 rfl) ?_
        refine lv_aload_n hx hb dX10_bars_56 rfl (lv_at hl 1 rfl) ?_
        refine va_get (D := (dC, dI)) (ci := 10) (v := .ref (b 13)) (C := RX10) (T := TX10) (N := 39) hx hb hts inX10 hown hK hP 0 rfl rfl 13 (by decide) lf44 (fun _ h9 => h9) rfl dX10_bars_57 ?_
        refine lv_iload_n hx hb dX10_bars_60 rfl (lv_at hl 3 rfl) ?_
        have b32 : vp_in co 48 := inC rfl (by omega) (by omega)
        refine va_iald hx hb hK hP 10 0 rfl rfl b32 dX10_bars_61 ?_
        refine lv_iconst (v := (-1)) hx hb dX10_bars_62 (by decide) ?_
        refine lv_icmp_eq (tgt := 91) hx hb dX10_bars_63 (by decide) (fun c33 => ?_) (fun c33 => ?_)
        · have dc33 : (mpto co.toNatClampNeg).toInt = (-1) := eqC rfl (show ((-1) : Int32).toInt = (-1) from rfl) c33
          refine lv_iconst (v := 0) hx hb dX10_bars_91 (by decide) ?_
          refine lv_iadd hx hb dX10_bars_92 ?_
          have f34 : (y45_3 + 0).toInt = (y45_3.toInt) + (0) := addC rfl (show (0 : Int32).toInt = 0 from rfl) (by omega) (by omega)
          refine lv_topi (fun x35 ex35 => ?_)
          have ix35 : x35.toInt = (y45_3.toInt) + (0) := by rw [ex35]; exact f34
          refine lv_istore_n (lv' := [(3, .int x35), (4, .int r30), (0, .ref (b 39)), (1, .int t), (2, .int co)]) hx hb dX10_bars_93 rfl hl (by decide) rfl (fun ls hl => ?_)
          exact L94 x35 r30 _ (by omega) (by omega) (by (first | exact cau2 i45_2 (Or.inl ⟨ma_y (by assumption) (by assumption) (by assumption), rfl⟩) (by omega) | exact cau2 i45_2 (Or.inr ⟨fun q => q.1 (by assumption), rfl⟩) (by omega) | exact cau2 i45_2 (Or.inr ⟨ma_n (by assumption) (by assumption), rfl⟩) (by omega))) (by assumption) (lv_sub hl [2, 3, 4, 0, 1] rfl)
        · have dc33 : (mpto co.toNatClampNeg).toInt ≠ (-1) := neC rfl (show ((-1) : Int32).toInt = (-1) from rfl) c33
          refine lv_aload_n hx hb dX10_bars_66 rfl (lv_at hl 1 rfl) ?_
          refine va_get (D := (dC, dI)) (ci := 10) (v := .int mday) (C := RX10) (T := TX10) (N := 39) hx hb hts inX10 hown hK hP 0 rfl rfl 0 (by decide) lf125 (fun _ h9 => h9) rfl dX10_bars_67 ?_
          refine lv_aload_n hx hb dX10_bars_70 rfl (lv_at hl 1 rfl) ?_
          refine va_get (D := (dC, dI)) (ci := 10) (v := .ref (b 13)) (C := RX10) (T := TX10) (N := 39) hx hb hts inX10 hown hK hP 0 rfl rfl 13 (by decide) lf44 (fun _ h9 => h9) rfl dX10_bars_71 ?_
          refine lv_iload_n hx hb dX10_bars_74 rfl (lv_at hl 3 rfl) ?_
          have b36 : vp_in co 48 := inC rfl (by omega) (by omega)
          refine va_iald hx hb hK hP 10 0 rfl rfl b36 dX10_bars_75 ?_
          refine lv_isub hx hb dX10_bars_76 ?_
          refine lv_aload_n hx hb dX10_bars_77 rfl (lv_at hl 1 rfl) ?_
          refine lv_iconst (v := 1) hx hb dX10_bars_78 (by decide) ?_
          refine lv_iconst (v := 0) hx hb dX10_bars_79 (by decide) ?_
          refine lv_iconst (v := 0) hx hb dX10_bars_80 (by decide) ?_
          refine rdV (As := [.int 1, .int 0, .int 0]) (rest := [.int (mday - (mpto co.toNatClampNeg)), .int y45_3]) ⟨hx, hb, hml, hown, hts⟩ (k_X10_lastOf2 l dC dI cI cZ cQ b mday mdoo mdA mdB mfar mmar mtel mgai mfal mtop mstr mgho mfai mpto mwal mahd mahf mcho mbes mbyt mtxt mpos mtka mtok mdig mnum mfau mrdm mrea mlin mlne mthg mord mbor mbsm mans mand manr mali (1 : Int32) (0 : Int32) (0 : Int32) r_mday r_mdoo r_mdA r_mdB r_mmar r_mgai r_mfal r_mtop r_mstr r_mgho r_mfai r_mahd r_mahf r_mcho r_mbyt r_mpos r_mrdm r_mlin r_mthg r_mord r_mans) (cwV 3 hts gX10_bars_X10_lastOf rfl rfl rfl (by decide +kernel) ⟨Nat.le_of_ble_eq_true rfl, Nat.le_of_ble_eq_true rfl⟩) hP hK hN [0, 1, 2, 3, 4, 5, 6, 7, 8, 9, 10, 11, 12, 13, 14, 15, 16, 17, 18, 19, 20, 21, 22, 23, 24, 25] rfl 0 10 rfl rfl rfl hl.1 rfl (Nat.le_of_ble_eq_true rfl) dX10_bars_81 ⟨Nat.le_of_ble_eq_true rfl, Nat.le_of_ble_eq_true rfl⟩ (fun r37 h38 => ?_)
          have h38 : (r37 = laF mlne (1 : Int32) (0 : Int32) (0 : Int32) mlin.toInt.toNat) := h38
          have h38_0 := h38
          refine lv_icmp_ge (tgt := 91) hx hb dX10_bars_84 (by decide) (fun c39 => ?_) (fun c39 => ?_)
          · have dc39 : r37.toInt ≤ (mday - (mpto co.toNatClampNeg)).toInt := leC rfl rfl c39
            refine lv_iconst (v := 0) hx hb dX10_bars_91 (by decide) ?_
            refine lv_iadd hx hb dX10_bars_92 ?_
            have f40 : (y45_3 + 0).toInt = (y45_3.toInt) + (0) := addC rfl (show (0 : Int32).toInt = 0 from rfl) (by omega) (by omega)
            refine lv_topi (fun x41 ex41 => ?_)
            have ix41 : x41.toInt = (y45_3.toInt) + (0) := by rw [ex41]; exact f40
            refine lv_istore_n (lv' := [(3, .int x41), (4, .int r30), (0, .ref (b 39)), (1, .int t), (2, .int co)]) hx hb dX10_bars_93 rfl hl (by decide) rfl (fun ls hl => ?_)
            exact L94 x41 r30 _ (by omega) (by omega) (by (first | exact cau2 i45_2 (Or.inl ⟨ma_y (by assumption) (by assumption) (by assumption), rfl⟩) (by omega) | exact cau2 i45_2 (Or.inr ⟨fun q => q.1 (by assumption), rfl⟩) (by omega) | exact cau2 i45_2 (Or.inr ⟨ma_n (by assumption) (by assumption), rfl⟩) (by omega))) (by assumption) (lv_sub hl [2, 3, 4, 0, 1] rfl)
          · have dc39 : (mday - (mpto co.toNatClampNeg)).toInt < r37.toInt := nleC rfl rfl c39
            refine lv_iconst (v := 2) hx hb dX10_bars_87 (by decide) ?_
            refine lv_goto (tgt := 92) hx hb dX10_bars_88 (by decide) ?_
            refine lv_iadd hx hb dX10_bars_92 ?_
            have f42 : (y45_3 + 2).toInt = (y45_3.toInt) + (2) := addC rfl (show (2 : Int32).toInt = 2 from rfl) (by omega) (by omega)
            refine lv_topi (fun x43 ex43 => ?_)
            have ix43 : x43.toInt = (y45_3.toInt) + (2) := by rw [ex43]; exact f42
            refine lv_istore_n (lv' := [(3, .int x43), (4, .int r30), (0, .ref (b 39)), (1, .int t), (2, .int co)]) hx hb dX10_bars_93 rfl hl (by decide) rfl (fun ls hl => ?_)
            exact L94 x43 r30 _ (by omega) (by omega) (by (first | exact cau2 i45_2 (Or.inl ⟨ma_y (by assumption) (by assumption) (by assumption), rfl⟩) (by omega) | exact cau2 i45_2 (Or.inr ⟨fun q => q.1 (by assumption), rfl⟩) (by omega) | exact cau2 i45_2 (Or.inr ⟨ma_n (by assumption) (by assumption), rfl⟩) (by omega))) (by assumption) (lv_sub hl [2, 3, 4, 0, 1] rfl)
      refine lv_aload_n hx hb dX10_bars_17 rfl (lv_at hl 0 rfl) ?_
      refine lv_iload_n hx hb dX10_bars_18 rfl (lv_at hl 2 rfl) ?_
      refine lv_bipush (v := 6) hx hb dX10_bars_19 (by decide) ?_
      refine lv_idiv hx hb dX10_bars_21 (by decide) ?_
      have f44 : (co / 6).toInt = (co.toInt) / (6) := divC rfl (show (6 : Int32).toInt = 6 from rfl) (by omega) (by omega)
      refine rdV (As := [.int (co / 6)]) (rest := []) ⟨hx, hb, hml, hown, hts⟩ (k_X10_standIn2 l dC dI cI cZ cQ b mday mdoo mdA mdB mfar mmar mtel mgai mfal mtop mstr mgho mfai mpto mwal mahd mahf mcho mbes mbyt mtxt mpos mtka mtok mdig mnum mfau mrdm mrea mlin mlne mthg mord mbor mbsm mans mand manr mali (co / 6) r_mday r_mdoo r_mdA r_mdB r_mmar r_mgai r_mfal r_mtop r_mstr r_mgho r_mfai r_mahd r_mahf r_mcho r_mbyt r_mpos r_mrdm r_mlin r_mthg r_mord r_mans (by omega) (by omega)) (cwV 1 hts gX10_bars_X10_standIn rfl rfl rfl (by decide +kernel) ⟨Nat.le_of_ble_eq_true rfl, Nat.le_of_ble_eq_true rfl⟩) hP hK hN [0, 1, 2, 3, 4, 5, 6, 7, 8, 9, 10, 11, 12, 13, 14, 15, 16, 17, 18, 19, 20, 21, 22, 23, 24, 25] rfl 0 10 rfl rfl rfl hl.1 rfl (Nat.le_of_ble_eq_true rfl) dX10_bars_22 ⟨Nat.le_of_ble_eq_true rfl, Nat.le_of_ble_eq_true rfl⟩ (fun r45 h46 => ?_)
      have h46 : (0 ≤ r45.toInt) ∧ (r45.toInt ≤ 6) ∧ (r45.toInt = stF mtop ((co / 6).toInt * 6).toNat 6) := h46
      obtain ⟨h46_0, h46_1, h46_2⟩ := h46
      refine lv_aload_n hx hb dX10_bars_25 rfl (lv_at hl 0 rfl) ?_
      refine lv_iconst (v := 0) hx hb dX10_bars_26 (by decide) ?_
      refine lv_iload_n hx hb dX10_bars_27 rfl (lv_at hl 2 rfl) ?_
      refine lv_bipush (v := 6) hx hb dX10_bars_28 (by decide) ?_
      refine lv_idiv hx hb dX10_bars_30 (by decide) ?_
      have f47 : (co / 6).toInt = (co.toInt) / (6) := divC rfl (show (6 : Int32).toInt = 6 from rfl) (by omega) (by omega)
      refine lv_bipush (v := 100) hx hb dX10_bars_31 (by decide) ?_
      refine rdV (As := [.int 0, .int (co / 6), .int 100]) (rest := [.int r45]) ⟨hx, hb, hml, hown, hts⟩ (k_X10_lastOf2 l dC dI cI cZ cQ b mday mdoo mdA mdB mfar mmar mtel mgai mfal mtop mstr mgho mfai mpto mwal mahd mahf mcho mbes mbyt mtxt mpos mtka mtok mdig mnum mfau mrdm mrea mlin mlne mthg mord mbor mbsm mans mand manr mali (0 : Int32) (co / 6) (100 : Int32) r_mday r_mdoo r_mdA r_mdB r_mmar r_mgai r_mfal r_mtop r_mstr r_mgho r_mfai r_mahd r_mahf r_mcho r_mbyt r_mpos r_mrdm r_mlin r_mthg r_mord r_mans) (cwV 3 hts gX10_bars_X10_lastOf rfl rfl rfl (by decide +kernel) ⟨Nat.le_of_ble_eq_true rfl, Nat.le_of_ble_eq_true rfl⟩) hP hK hN [0, 1, 2, 3, 4, 5, 6, 7, 8, 9, 10, 11, 12, 13, 14, 15, 16, 17, 18, 19, 20, 21, 22, 23, 24, 25] rfl 0 10 rfl rfl rfl hl.1 rfl (Nat.le_of_ble_eq_true rfl) dX10_bars_33 ⟨Nat.le_of_ble_eq_true rfl, Nat.le_of_ble_eq_true rfl⟩ (fun r48 h49 => ?_)
      have h49 : (r48 = laF mlne (0 : Int32) (co / 6) (100 : Int32) mlin.toInt.toNat) := h49
      have h49_0 := h49
      refine lv_icmp_lt (tgt := 43) hx hb dX10_bars_36 (by decide) (fun c50 => ?_) (fun c50 => ?_)
      · have dc50 : r45.toInt < r48.toInt := ltC rfl rfl c50
        refine lv_iconst (v := 0) hx hb dX10_bars_43 (by decide) ?_
        refine lv_istore_n (lv' := [(3, .int 0), (0, .ref (b 39)), (1, .int t), (2, .int co)]) hx hb dX10_bars_44 rfl hl (by decide) rfl (fun ls hl => ?_)
        have kc51 : (0 : Int32).toInt = 0 := rfl
        exact L45 0 _ (by omega) (by omega) (by (first | exact Or.inl ⟨mr_y (by assumption) (by omega) (by assumption) (by assumption) (by omega), rfl⟩ | exact Or.inr ⟨mr_n (by assumption) (by omega) (by assumption) (by assumption) (by omega), rfl⟩)) (lv_sub hl [1, 2, 3, 0] rfl)
      · have dc50 : r48.toInt ≤ r45.toInt := nltC rfl rfl c50
        refine lv_iconst (v := 1) hx hb dX10_bars_39 (by decide) ?_
        refine lv_goto (tgt := 44) hx hb dX10_bars_40 (by decide) ?_
        refine lv_istore_n (lv' := [(3, .int 1), (0, .ref (b 39)), (1, .int t), (2, .int co)]) hx hb dX10_bars_44 rfl hl (by decide) rfl (fun ls hl => ?_)
        have kc52 : (1 : Int32).toInt = 1 := rfl
        exact L45 1 _ (by omega) (by omega) (by (first | exact Or.inl ⟨mr_y (by assumption) (by omega) (by assumption) (by assumption) (by omega), rfl⟩ | exact Or.inr ⟨mr_n (by assumption) (by omega) (by assumption) (by assumption) (by omega), rfl⟩)) (lv_sub hl [1, 2, 3, 0] rfl)
    · refine lv_if_ne (tgt := 17) hx hb dX10_bars_11 (by decide) (fun c9 => absurd (by decide) c9) (fun _ => ?_)
      refine lv_bipush (v := (-2)) hx hb dX10_bars_14 (by decide) ?_
      exact W.iret (v := (-2)) hx hb hr (fun tq ht hW => ⟨(-2), rfl, (show spBar (mbR mlne mtop mlin co) (mbA mlne mpto mlin mday co) (mbP mmar mtop (laF mlne 2 0 100 mlin.toInt.toNat) t co) t co ((-2) : Int32) from by (try rw [show ((-2) : Int32).toInt = (-2) from (show ((-2) : Int32).toInt = (-2) from rfl)]); (first | exact Or.inl ⟨by omega, rfl⟩ | exact Or.inr ⟨by omega, br3 i94_2 ((mq_w i142_0 i94_3).1 (by assumption)) (by omega)⟩ | exact Or.inr ⟨by omega, br3 i94_2 ((mq_w i142_0 i94_3).2 (by assumption)) (by omega)⟩)), ht⟩) (fun q h => by cases h) dX10_bars_16
  · refine lv_if_eq (tgt := 14) hx hb dX10_bars_4 (by decide) (fun _ => ?_) (fun c9 => absurd (by decide) c9)
    refine lv_bipush (v := (-2)) hx hb dX10_bars_14 (by decide) ?_
    exact W.iret (v := (-2)) hx hb hr (fun tq ht hW => ⟨(-2), rfl, (show spBar (mbR mlne mtop mlin co) (mbA mlne mpto mlin mday co) (mbP mmar mtop (laF mlne 2 0 100 mlin.toInt.toNat) t co) t co ((-2) : Int32) from by (try rw [show ((-2) : Int32).toInt = (-2) from (show ((-2) : Int32).toInt = (-2) from rfl)]); (first | exact Or.inl ⟨by omega, rfl⟩ | exact Or.inr ⟨by omega, br3 i94_2 ((mq_w i142_0 i94_3).1 (by assumption)) (by omega)⟩ | exact Or.inr ⟨by omega, br3 i94_2 ((mq_w i142_0 i94_3).2 (by assumption)) (by omega)⟩)), ht⟩) (fun q h => by cases h) dX10_bars_16
set_option maxHeartbeats 4000000 in
set_option maxRecDepth 100000 in
theorem k_X9_put4 (l : Launch) (dC : Nat → ClassId) (dI : Nat → Nat → Nat) (cI cZ cQ : ClassId) (a : Nat → Nat) (rb0 : Nat) (rb1 : Nat) (rb2 : Nat) (db0 : Nat) (db1 : Nat) (db2 : Nat) (top : Nat → Int32) (str : Nat → Int32) (gho : Nat → Int32) (ghs : Nat → Int32) (pto : Nat → Int32) (cro : Nat → Int32) (pla : Nat → Int32) (wal : Nat → Int32) (fal : Nat → Int32) (tel : Int32) (gai : Int32) (day : Int32) (mar : Nat → Int32) (sz : Nat) (t : Int32) (co : Int32) (r_top : rg 48 (-1) (23) top) (r_str : rg 48 (0) (100) str) (r_gho : rg 48 (-1) (23) gho) (r_ghs : rg 48 (0) (100) ghs) (r_cro : rg 48 (0) (6) cro) (r_pla : rg 24 (-1) (47) pla) (r_fal : rg 11 (0) (30) fal) (r_gai : 0 ≤ gai.toInt ∧ gai.toInt ≤ 100) (r_day : 0 ≤ day.toInt ∧ day.toInt ≤ 400) (r_mar : rg 24 (0) (255) mar) (q0 : plOK top pla) (q1 : crI top gho ghs) (q2 : ptI pto day) : KW l yX9_put wsX9_put { frames := 2, cells := 0, slots := 0, locals := 42 } (dC, dI) (TY cI cZ cQ) (wsC cI cZ cQ a rb0 rb1 rb2 db0 db1 db2 top str gho ghs pto cro pla wal fal tel gai day mar) [.ref (a 43), .int t, .int co] sz 0 0 (fun (r : Int32) (u : US) => (spPutC top str gho ghs pto day t co r (u.1 0) (u.1 1) (u.1 2) (u.1 3) (u.1 4)) ∧ (plOK (u.1 0) (u.1 5)) ∧ (crI (u.1 0) (u.1 2) (u.1 3)) ∧ (ptI (u.1 4) day) ∧ (rg 48 (-1) (23) (u.1 0)) ∧ (rg 48 (0) (100) (u.1 1)) ∧ (rg 48 (-1) (23) (u.1 2)) ∧ (rg 48 (0) (100) (u.1 3)) ∧ (rg 24 (-1) (47) (u.1 5))) (fun u : US => (wsC cI cZ cQ a rb0 rb1 rb2 db0 db1 db2 (u.1 0) (u.1 1) (u.1 2) (u.1 3) (u.1 4) cro (u.1 5) wal fal tel gai day mar)) := by
  refine Met.ofW (cc := cX9_put) (maxL := 4) (ret := (some .int)) (by decide) rfl ?_
  intro p e s m args below meth c s₁ B hml hv
  obtain ⟨rfl, hsz, hP, hK, hD0, hN⟩ := hv
  have hx := B.exec
  have hb := B.bytes
  have hr := B.returns
  have hts := atoms_spec (ws := wsX9_put) B.pre
  have hown : s.vm.findClass RX9 = some m.cls := findClass_of_methodNamed B.named
  have hlocks := B.notSynchronized
  have lf28 := hts (.fieldLink RX9 28 "PalaceOfRooms" "corners" "LPalaceOfRooms$Corners;") (List.mem_cons_of_mem _ (List.mem_append_left _ (List.mem_append_left _ (List.mem_of_getElem? (i := 0) rfl))))
  have inX9 : ∀ w ∈ wsX90, w ∈ wsX9_put := fun w h => List.mem_cons_of_mem _ (List.mem_append_left _ (List.mem_append_right _ h))
  have lf128 := hN.use (w := .fieldLinkNest "PalaceOfRooms" 128 "PalaceOfRooms$Corners" "placeOf" "[I" "PalaceOfRooms") (List.mem_of_getElem? (i := 8) rfl) ([.ref (a 43), .int t, .int co] : List Value).toArray
  have inX1 : ∀ w ∈ wsX10, w ∈ wsX9_put := fun w h => List.mem_cons_of_mem _ (List.mem_append_right _ h)
  have lf131 := hN.use (w := .fieldLinkNest "PalaceOfRooms" 131 "PalaceOfRooms$Corners" "top" "[I" "PalaceOfRooms") (List.mem_of_getElem? (i := 2) rfl) ([.ref (a 43), .int t, .int co] : List Value).toArray
  subst hsz
  have hD := hD0.self (sz := s.heap.size)
  generalize hAe : va_A (wsC cI cZ cQ a rb0 rb1 rb2 db0 db1 db2 top str gho ghs pto cro pla wal fal tel gai day mar) s.heap.size = A at hD ⊢
  have hA : ∀ q : Nat, s.heap.size ≤ q → A q := fun q h => by rw [← hAe]; exact Or.inr h
  have hS : va_S A s.heap s.heap [] := va_S.rf
  have hl := lv_entry ([.ref (a 43), .int t, .int co]) (n := 4) (Nat.le_of_ble_eq_true rfl)
  rw [lg_entry_eq]
  generalize (lg_sl ([.ref (a 43), .int t, .int co]) ++ List.replicate (4 - (lg_sl ([.ref (a 43), .int t, .int co])).length) Slot.unset).toArray = ls at hl ⊢
  have hl : lv_has ls 4 [(0, .ref (a 43)), (1, .int t), (2, .int co)] := hl
  refine lv_iload_n hx hb dX9_put_0 rfl (lv_at hl 1 rfl) ?_
  refine rdS (As := [.int t]) (rest := []) ⟨hx, hb, hml, hown, hts⟩ (k_X9_isThing l dC dI cI cZ cQ t) (va_cwS 1 hts gX9_put_X9_isThing rfl rfl rfl (by decide +kernel) ⟨Nat.le_of_ble_eq_true rfl, Nat.le_of_ble_eq_true rfl⟩) hP hK hN [] rfl rfl hl.1 rfl (Nat.le_of_ble_eq_true rfl) dX9_put_1 ⟨Nat.le_of_ble_eq_true rfl, Nat.le_of_ble_eq_true rfl⟩ (fun r1 h2 => ?_)
  have h2 : ((((r1 = 1) ∧ (0 ≤ t.toInt) ∧ (t.toInt ≤ 23)) ∨ ((r1 = 0) ∧ (t.toInt < 0 ∨ 23 < t.toInt)))) := h2
  rcases h2 with (⟨rfl, h2_a0, h2_a1⟩ | ⟨rfl, h2_a0⟩)
  · refine lv_if_eq (tgt := 14) hx hb dX9_put_4 (by decide) (fun c9 => absurd c9 (by decide)) (fun _ => ?_)
    refine lv_iload_n hx hb dX9_put_7 rfl (lv_at hl 2 rfl) ?_
    refine rdS (As := [.int co]) (rest := []) ⟨hx, hb, hml, hown, hts⟩ (k_X9_isCorner l dC dI cI cZ cQ co) (va_cwS 1 hts gX9_put_X9_isCorner rfl rfl rfl (by decide +kernel) ⟨Nat.le_of_ble_eq_true rfl, Nat.le_of_ble_eq_true rfl⟩) hP hK hN [] rfl rfl hl.1 rfl (Nat.le_of_ble_eq_true rfl) dX9_put_8 ⟨Nat.le_of_ble_eq_true rfl, Nat.le_of_ble_eq_true rfl⟩ (fun r3 h4 => ?_)
    have h4 : ((((r3 = 1) ∧ (0 ≤ co.toInt) ∧ (co.toInt ≤ 47)) ∨ ((r3 = 0) ∧ (co.toInt < 0 ∨ 47 < co.toInt)))) := h4
    rcases h4 with (⟨rfl, h4_a0, h4_a1⟩ | ⟨rfl, h4_a0⟩)
    · refine lv_if_ne (tgt := 17) hx hb dX9_put_11 (by decide) (fun _ => ?_) (fun c9 => absurd c9 (by decide))
      refine lv_aload_n hx hb dX9_put_17 rfl (lv_at hl 0 rfl) ?_
      refine va_get (D := (dC, dI)) (ci := 9) (v := .ref (a 4)) (C := RX9) (T := TX9) (N := 11) hx hb hts inX9 hown hK hP 0 rfl rfl 2 (by decide) lf28 (fun _ h9 => h9) rfl dX9_put_18 ?_
      refine va_getN (D := (dC, dI)) (ci := 1) (v := .ref (a 11)) (C := RX1) (T := TX1) (N := 13) hx hb hts inX1 hown hK hP 1 rfl rfl 7 (by decide) lf128 (fun _ h9 => h9) rfl dX9_put_21 ?_
      refine lv_iload_n hx hb dX9_put_24 rfl (lv_at hl 1 rfl) ?_
      have b5 : vp_in t 24 := inC rfl (by omega) (by omega)
      refine va_iald hx hb hK hP 8 0 rfl rfl b5 dX9_put_25 ?_
      have g6 : -1 ≤ (pla t.toNatClampNeg).toInt ∧ (pla t.toNatClampNeg).toInt ≤ 47 := rg_at r_pla b5
      refine lv_iconst (v := (-1)) hx hb dX9_put_26 (by decide) ?_
      refine lv_icmp_eq (tgt := 33) hx hb dX9_put_27 (by decide) (fun c7 => ?_) (fun c7 => ?_)
      · have dc7 : (pla t.toNatClampNeg).toInt = (-1) := eqC rfl (show ((-1) : Int32).toInt = (-1) from rfl) c7
        refine lv_aload_n hx hb dX9_put_33 rfl (lv_at hl 0 rfl) ?_
        refine va_get (D := (dC, dI)) (ci := 9) (v := .ref (a 4)) (C := RX9) (T := TX9) (N := 11) hx hb hts inX9 hown hK hP 0 rfl rfl 2 (by decide) lf28 (fun _ h9 => h9) rfl dX9_put_34 ?_
        refine va_getN (D := (dC, dI)) (ci := 1) (v := .ref (a 5)) (C := RX1) (T := TX1) (N := 13) hx hb hts inX1 hown hK hP 1 rfl rfl 1 (by decide) lf131 (fun _ h9 => h9) rfl dX9_put_37 ?_
        refine lv_iload_n hx hb dX9_put_40 rfl (lv_at hl 2 rfl) ?_
        have b8 : vp_in co 48 := inC rfl (by omega) (by omega)
        refine va_iald hx hb hK hP 2 0 rfl rfl b8 dX9_put_41 ?_
        have g9 : -1 ≤ (top co.toNatClampNeg).toInt ∧ (top co.toNatClampNeg).toInt ≤ 23 := rg_at r_top b8
        refine lv_topi (fun x10 ex10 => ?_)
        have ix10 : x10.toInt = (top co.toNatClampNeg).toInt := by rw [ex10]
        refine lv_istore_n (lv' := [(3, .int x10), (0, .ref (a 43)), (1, .int t), (2, .int co)]) hx hb dX9_put_42 rfl hl (by decide) rfl (fun ls hl => ?_)
        refine lv_aload_n hx hb dX9_put_43 rfl (lv_at hl 1 rfl) ?_
        refine va_get (D := (dC, dI)) (ci := 9) (v := .ref (a 4)) (C := RX9) (T := TX9) (N := 11) hx hb hts inX9 hown hK hP 0 rfl rfl 2 (by decide) lf28 (fun _ h9 => h9) rfl dX9_put_44 ?_
        refine lv_iload_n hx hb dX9_put_47 rfl (lv_at hl 3 rfl) ?_
        refine lv_iload_n hx hb dX9_put_48 rfl (lv_at hl 2 rfl) ?_
        refine wvV (As := [.int co, .int t]) (rest := []) (wr := [((a 43), .inr (9, [.ref (a 0), .ref (a 2), .ref (a 4), .ref (a 14), .ref (a 16), .ref (a 23), .ref (a 28), .ref (a 33), .ref (a 42), .ref rb0, .ref db0]))]) (w2 := (fun u : US => (wsC cI cZ cQ a rb0 rb1 rb2 db0 db1 db2 (u.1 0) (u.1 1) (u.1 2) (u.1 3) (u.1 4) cro (u.1 5) wal fal tel gai day mar))) ⟨hx, hb, hml, hown, hts⟩ (k_X1_cover3 l dC dI cI cZ cQ a top str gho ghs pto cro pla wal fal tel gai day mar _ co t r_top r_str r_gho r_ghs r_cro r_pla r_fal r_gai r_day r_mar (by omega) (by omega) (by omega) (by omega)) (cwV 2 hts gX9_put_X1_cover rfl rfl rfl (by decide +kernel) ⟨Nat.le_of_ble_eq_true rfl, Nat.le_of_ble_eq_true rfl⟩) hP hD hS hA hK hN [1, 2, 3, 4, 5, 6, 7, 8, 9, 10, 11, 12] [0] [0, 1, 2, 3, 4, 5, 6, 7, 8, 9, 10, 11, 12] rfl rfl (by decide) (by decide) (by decide) (fun _ => rfl) (by decide) 1 1 rfl rfl rfl hl.1 rfl (Nat.le_of_ble_eq_true rfl) dX9_put_49 ⟨Nat.le_of_ble_eq_true rfl, Nat.le_of_ble_eq_true rfl⟩ (fun u13 H locs h12 hP hD hS => ?_)
        obtain ⟨top_c14, etop_c14⟩ : ∃ f : Nat → Int32, f = (u13.1 0) := ⟨_, rfl⟩
        obtain ⟨str_c15, estr_c15⟩ : ∃ f : Nat → Int32, f = (u13.1 1) := ⟨_, rfl⟩
        obtain ⟨gho_c16, egho_c16⟩ : ∃ f : Nat → Int32, f = (u13.1 2) := ⟨_, rfl⟩
        obtain ⟨ghs_c17, eghs_c17⟩ : ∃ f : Nat → Int32, f = (u13.1 3) := ⟨_, rfl⟩
        obtain ⟨pto_c18, epto_c18⟩ : ∃ f : Nat → Int32, f = (u13.1 4) := ⟨_, rfl⟩
        obtain ⟨pla_c19, epla_c19⟩ : ∃ f : Nat → Int32, f = (u13.1 5) := ⟨_, rfl⟩
        have hP : va_P (dC, dI) vwCl (wsC cI cZ cQ a rb0 rb1 rb2 db0 db1 db2 top_c14 str_c15 gho_c16 ghs_c17 pto_c18 cro pla_c19 wal fal tel gai day mar) H := by rw [etop_c14, estr_c15, egho_c16, eghs_c17, epto_c18, epla_c19]; exact hP
        have hD : va_D A (wsC cI cZ cQ a rb0 rb1 rb2 db0 db1 db2 top_c14 str_c15 gho_c16 ghs_c17 pto_c18 cro pla_c19 wal fal tel gai day mar) := by rw [etop_c14, estr_c15, egho_c16, eghs_c17, epto_c18, epla_c19]; exact hD
        have h12 : (top_c14 = upd top co.toNatClampNeg t) ∧ ((top co.toNatClampNeg = -1 ∧ pla_c19 = upd pla t.toNatClampNeg co) ∨ (top co.toNatClampNeg ≠ -1 ∧ pla_c19 = upd (upd pla (top co.toNatClampNeg).toNatClampNeg (-1)) t.toNatClampNeg co)) ∧ (cvC top str gho ghs pto day co str_c15 gho_c16 ghs_c17 pto_c18) ∧ (rg 48 (-1) (23) top_c14) ∧ (rg 48 (0) (100) str_c15) ∧ (rg 48 (-1) (23) gho_c16) ∧ (rg 48 (0) (100) ghs_c17) ∧ (rg 24 (-1) (47) pla_c19) := by (try rw [etop_c14]); (try rw [estr_c15]); (try rw [egho_c16]); (try rw [eghs_c17]); (try rw [epto_c18]); (try rw [epla_c19]); exact h12
        obtain ⟨h12_0, h12_1, h12_2, h12_3, h12_4, h12_5, h12_6, h12_7⟩ := h12
        refine lv_iload_n hx hb dX9_put_52 rfl (lv_at hl 0 rfl) ?_
        exact W.iret (v := x10) hx hb hr (fun tq ht hW => ⟨⟨x10, (uS [top_c14, str_c15, gho_c16, ghs_c17, pto_c18, pla_c19] 0 (fun _ => 0)), rfl, ⟨(show spPutC top str gho ghs pto day t co x10 top_c14 str_c15 gho_c16 ghs_c17 pto_c18 from by (first | exact putC_bad (by omega) | exact putC_no q0 (by omega) (by assumption) | exact putC_ok q0 (by omega) (by assumption) (by assumption) (by assumption) (by assumption))), (show plOK top_c14 pla_c19 from by (first | exact q0 | exact pl_put (t := t) (c := co) q0 (by omega) (by assumption) r_top (by assumption) (by assumption))), (show crI top_c14 gho_c16 ghs_c17 from by (first | exact q1 | exact crI_put (t := t) (c := co) q1 (by omega) (by assumption) (by assumption))), (show ptI pto_c18 day from by (first | exact q2 | exact pt_put q2 (by omega) (by assumption))), h12_3, h12_4, h12_5, h12_6, h12_7⟩, by rw [ht]; exact hP, hD⟩, hS.F ht⟩) hS.2.2 dX9_put_53
      · have dc7 : 0 ≤ (pla t.toNatClampNeg).toInt := ka_lo (by omega) (neC rfl (show ((-1) : Int32).toInt = (-1) from rfl) c7)
        refine lv_bipush (v := (-4)) hx hb dX9_put_30 (by decide) ?_
        exact W.iret (v := (-4)) hx hb hr (fun tq ht hW => ⟨⟨(-4), (uS [top, str, gho, ghs, pto, pla] 0 (fun _ => 0)), rfl, ⟨(show spPutC top str gho ghs pto day t co ((-4) : Int32) top str gho ghs pto from by (try rw [show ((-4) : Int32).toInt = (-4) from (show ((-4) : Int32).toInt = (-4) from rfl)]); (first | exact putC_bad (by omega) | exact putC_no q0 (by omega) (by assumption) | exact putC_ok q0 (by omega) (by assumption) (by assumption) (by assumption) (by assumption))), (show plOK top pla from by (try rw [show ((-4) : Int32).toInt = (-4) from (show ((-4) : Int32).toInt = (-4) from rfl)]); (first | exact q0 | exact pl_put (t := t) (c := co) q0 (by omega) (by assumption) r_top (by assumption) (by assumption))), (show crI top gho ghs from by (try rw [show ((-4) : Int32).toInt = (-4) from (show ((-4) : Int32).toInt = (-4) from rfl)]); (first | exact q1 | exact crI_put (t := t) (c := co) q1 (by omega) (by assumption) (by assumption))), (show ptI pto day from by (try rw [show ((-4) : Int32).toInt = (-4) from (show ((-4) : Int32).toInt = (-4) from rfl)]); (first | exact q2 | exact pt_put q2 (by omega) (by assumption))), r_top, r_str, r_gho, r_ghs, r_pla⟩, by rw [ht]; exact hP, hD⟩, hS.F ht⟩) hS.2.2 dX9_put_32
    · refine lv_if_ne (tgt := 17) hx hb dX9_put_11 (by decide) (fun c9 => absurd (by decide) c9) (fun _ => ?_)
      refine lv_bipush (v := (-2)) hx hb dX9_put_14 (by decide) ?_
      exact W.iret (v := (-2)) hx hb hr (fun tq ht hW => ⟨⟨(-2), (uS [top, str, gho, ghs, pto, pla] 0 (fun _ => 0)), rfl, ⟨(show spPutC top str gho ghs pto day t co ((-2) : Int32) top str gho ghs pto from by (try rw [show ((-2) : Int32).toInt = (-2) from (show ((-2) : Int32).toInt = (-2) from rfl)]); (first | exact putC_bad (by omega) | exact putC_no q0 (by omega) (by assumption) | exact putC_ok q0 (by omega) (by assumption) (by assumption) (by assumption) (by assumption))), (show plOK top pla from by (try rw [show ((-2) : Int32).toInt = (-2) from (show ((-2) : Int32).toInt = (-2) from rfl)]); (first | exact q0 | exact pl_put (t := t) (c := co) q0 (by omega) (by assumption) r_top (by assumption) (by assumption))), (show crI top gho ghs from by (try rw [show ((-2) : Int32).toInt = (-2) from (show ((-2) : Int32).toInt = (-2) from rfl)]); (first | exact q1 | exact crI_put (t := t) (c := co) q1 (by omega) (by assumption) (by assumption))), (show ptI pto day from by (try rw [show ((-2) : Int32).toInt = (-2) from (show ((-2) : Int32).toInt = (-2) from rfl)]); (first | exact q2 | exact pt_put q2 (by omega) (by assumption))), r_top, r_str, r_gho, r_ghs, r_pla⟩, by rw [ht]; exact hP, hD⟩, hS.F ht⟩) hS.2.2 dX9_put_16
  · refine lv_if_eq (tgt := 14) hx hb dX9_put_4 (by decide) (fun _ => ?_) (fun c9 => absurd (by decide) c9)
    refine lv_bipush (v := (-2)) hx hb dX9_put_14 (by decide) ?_
    exact W.iret (v := (-2)) hx hb hr (fun tq ht hW => ⟨⟨(-2), (uS [top, str, gho, ghs, pto, pla] 0 (fun _ => 0)), rfl, ⟨(show spPutC top str gho ghs pto day t co ((-2) : Int32) top str gho ghs pto from by (try rw [show ((-2) : Int32).toInt = (-2) from (show ((-2) : Int32).toInt = (-2) from rfl)]); (first | exact putC_bad (by omega) | exact putC_no q0 (by omega) (by assumption) | exact putC_ok q0 (by omega) (by assumption) (by assumption) (by assumption) (by assumption))), (show plOK top pla from by (try rw [show ((-2) : Int32).toInt = (-2) from (show ((-2) : Int32).toInt = (-2) from rfl)]); (first | exact q0 | exact pl_put (t := t) (c := co) q0 (by omega) (by assumption) r_top (by assumption) (by assumption))), (show crI top gho ghs from by (try rw [show ((-2) : Int32).toInt = (-2) from (show ((-2) : Int32).toInt = (-2) from rfl)]); (first | exact q1 | exact crI_put (t := t) (c := co) q1 (by omega) (by assumption) (by assumption))), (show ptI pto day from by (try rw [show ((-2) : Int32).toInt = (-2) from (show ((-2) : Int32).toInt = (-2) from rfl)]); (first | exact q2 | exact pt_put q2 (by omega) (by assumption))), r_top, r_str, r_gho, r_ghs, r_pla⟩, by rw [ht]; exact hP, hD⟩, hS.F ht⟩) hS.2.2 dX9_put_16
set_option maxHeartbeats 4000000 in
set_option maxRecDepth 100000 in
theorem k_X9_days3 (l : Launch) (dC : Nat → ClassId) (dI : Nat → Nat → Nat) (cI cZ cQ : ClassId) (a : Nat → Nat) (rb0 : Nat) (rb1 : Nat) (rb2 : Nat) (db0 : Nat) (db1 : Nat) (db2 : Nat) (top : Nat → Int32) (str : Nat → Int32) (gho : Nat → Int32) (ghs : Nat → Int32) (pto : Nat → Int32) (cro : Nat → Int32) (pla : Nat → Int32) (wal : Nat → Int32) (fal : Nat → Int32) (tel : Int32) (gai : Int32) (day : Int32) (mar : Nat → Int32) (sz : Nat) (n : Int32) (r_top : rg 48 (-1) (23) top) (r_str : rg 48 (0) (100) str) (r_gho : rg 48 (-1) (23) gho) (r_ghs : rg 48 (0) (100) ghs) (r_cro : rg 48 (0) (6) cro) (r_pla : rg 24 (-1) (47) pla) (r_fal : rg 11 (0) (30) fal) (r_gai : 0 ≤ gai.toInt ∧ gai.toInt ≤ 100) (r_day : 0 ≤ day.toInt ∧ day.toInt ≤ 400) (r_mar : rg 24 (0) (255) mar) (q0 : crI top gho ghs) (q1 : ptI pto day) : KW l yX9_days wsX9_days { frames := 6, cells := 0, slots := 0, locals := 131 } (dC, dI) (TY cI cZ cQ) (wsC cI cZ cQ a rb0 rb1 rb2 db0 db1 db2 top str gho ghs pto cro pla wal fal tel gai day mar) [.ref (a 43), .int n] sz 0 0 (fun (r : Int32) (u : US) => (spDysC mar fal top str gho ghs tel day n r (u.1 4 0) (u.1 0) (u.1 1) (u.1 2)) ∧ (crI top (u.1 1) (u.1 2)) ∧ (ptI pto (u.1 4 0)) ∧ (rg 48 (0) (100) (u.1 0)) ∧ (rg 48 (-1) (23) (u.1 1)) ∧ (rg 48 (0) (100) (u.1 2)) ∧ (rg 48 (0) (6) (u.1 3)) ∧ (0 ≤ (u.1 4 0).toInt ∧ (u.1 4 0).toInt ≤ 400)) (fun u : US => (wsC cI cZ cQ a rb0 rb1 rb2 db0 db1 db2 top (u.1 0) (u.1 1) (u.1 2) pto (u.1 3) pla wal fal tel gai (u.1 4 0) mar)) := by
  refine Met.ofW (cc := cX9_days) (maxL := 2) (ret := (some .int)) (by decide) rfl ?_
  intro p e s m args below meth c s₁ B hml hv
  obtain ⟨rfl, hsz, hP, hK, hD0, hN⟩ := hv
  have hx := B.exec
  have hb := B.bytes
  have hr := B.returns
  have hts := atoms_spec (ws := wsX9_days) B.pre
  have hown : s.vm.findClass RX9 = some m.cls := findClass_of_methodNamed B.named
  have hlocks := B.notSynchronized
  have lf28 := hts (.fieldLink RX9 28 "PalaceOfRooms" "corners" "LPalaceOfRooms$Corners;") (List.mem_cons_of_mem _ (List.mem_append_left _ (List.mem_append_left _ (List.mem_append_left _ (List.mem_append_left _ (List.mem_of_getElem? (i := 0) rfl))))))
  have inX9 : ∀ w ∈ wsX90, w ∈ wsX9_days := fun w h => List.mem_cons_of_mem _ (List.mem_append_left _ (List.mem_append_left _ (List.mem_append_right _ h)))
  have lf153 := hN.use (w := .fieldLinkNest "PalaceOfRooms" 153 "PalaceOfRooms$Corners" "day" "I" "PalaceOfRooms") (List.mem_of_getElem? (i := 13) rfl) ([.ref (a 43), .int n] : List Value).toArray
  have inX1 : ∀ w ∈ wsX10, w ∈ wsX9_days := fun w h => List.mem_cons_of_mem _ (List.mem_append_left _ (List.mem_append_right _ h))
  subst hsz
  have hD := hD0.self (sz := s.heap.size)
  generalize hAe : va_A (wsC cI cZ cQ a rb0 rb1 rb2 db0 db1 db2 top str gho ghs pto cro pla wal fal tel gai day mar) s.heap.size = A at hD ⊢
  have hA : ∀ q : Nat, s.heap.size ≤ q → A q := fun q h => by rw [← hAe]; exact Or.inr h
  have hS : va_S A s.heap s.heap [] := va_S.rf
  have hl := lv_entry ([.ref (a 43), .int n]) (n := 2) (Nat.le_of_ble_eq_true rfl)
  rw [lg_entry_eq]
  generalize (lg_sl ([.ref (a 43), .int n]) ++ List.replicate (2 - (lg_sl ([.ref (a 43), .int n])).length) Slot.unset).toArray = ls at hl ⊢
  have hl : lv_has ls 2 [(0, .ref (a 43)), (1, .int n)] := hl
  refine lv_iload_n hx hb dX9_days_0 rfl (lv_at hl 1 rfl) ?_
  refine lv_iconst (v := 1) hx hb dX9_days_1 (by decide) ?_
  refine lv_bipush (v := 60) hx hb dX9_days_2 (by decide) ?_
  refine rdS (As := [.int n, .int 1, .int 60]) (rest := []) ⟨hx, hb, hml, hown, hts⟩ (k_X9_within l dC dI cI cZ cQ n (1 : Int32) (60 : Int32)) (va_cwS 3 hts gX9_days_X9_within rfl rfl rfl (by decide +kernel) ⟨Nat.le_of_ble_eq_true rfl, Nat.le_of_ble_eq_true rfl⟩) hP hK hN [] rfl rfl hl.1 rfl (Nat.le_of_ble_eq_true rfl) dX9_days_4 ⟨Nat.le_of_ble_eq_true rfl, Nat.le_of_ble_eq_true rfl⟩ (fun r1 h2 => ?_)
  have h2 : ((((r1 = 1) ∧ ((1) ≤ n.toInt) ∧ (n.toInt ≤ (60))) ∨ ((r1 = 0) ∧ (n.toInt < (1) ∨ (60) < n.toInt)))) := h2
  rcases h2 with (⟨rfl, h2_a0, h2_a1⟩ | ⟨rfl, h2_a0⟩)
  · refine lv_if_eq (tgt := 25) hx hb dX9_days_7 (by decide) (fun c9 => absurd c9 (by decide)) (fun _ => ?_)
    refine lv_aload_n hx hb dX9_days_10 rfl (lv_at hl 0 rfl) ?_
    refine va_get (D := (dC, dI)) (ci := 9) (v := .ref (a 4)) (C := RX9) (T := TX9) (N := 11) hx hb hts inX9 hown hK hP 0 rfl rfl 2 (by decide) lf28 (fun _ h9 => h9) rfl dX9_days_11 ?_
    refine va_getN (D := (dC, dI)) (ci := 1) (v := .int day) (C := RX1) (T := TX1) (N := 13) hx hb hts inX1 hown hK hP 1 rfl rfl 12 (by decide) lf153 (fun _ h9 => h9) rfl dX9_days_14 ?_
    refine lv_iload_n hx hb dX9_days_17 rfl (lv_at hl 1 rfl) ?_
    refine lv_iadd hx hb dX9_days_18 ?_
    have f3 : (day + n).toInt = (day.toInt) + (n.toInt) := addC rfl rfl (by omega) (by omega)
    refine lv_sipush (v := 400) hx hb dX9_days_19 (by decide) ?_
    refine lv_icmp_le (tgt := 28) hx hb dX9_days_22 (by decide) (fun c4 => ?_) (fun c4 => ?_)
    · have dc4 : (day.toInt) + (n.toInt) ≤ 400 := leC f3 (show (400 : Int32).toInt = 400 from rfl) c4
      refine lv_aload_n hx hb dX9_days_28 rfl (lv_at hl 0 rfl) ?_
      refine va_get (D := (dC, dI)) (ci := 9) (v := .ref (a 4)) (C := RX9) (T := TX9) (N := 11) hx hb hts inX9 hown hK hP 0 rfl rfl 2 (by decide) lf28 (fun _ h9 => h9) rfl dX9_days_29 ?_
      refine lv_iload_n hx hb dX9_days_32 rfl (lv_at hl 1 rfl) ?_
      refine wvV (As := [.int n]) (rest := []) (wr := [((a 43), .inr (9, [.ref (a 0), .ref (a 2), .ref (a 4), .ref (a 14), .ref (a 16), .ref (a 23), .ref (a 28), .ref (a 33), .ref (a 42), .ref rb0, .ref db0]))]) (w2 := (fun u : US => (wsC cI cZ cQ a rb0 rb1 rb2 db0 db1 db2 top (u.1 0) (u.1 1) (u.1 2) pto (u.1 3) pla wal fal tel gai (u.1 4 0) mar))) ⟨hx, hb, hml, hown, hts⟩ (k_X1_passDays2 l dC dI cI cZ cQ a top str gho ghs pto cro pla wal fal tel gai day mar _ n r_top r_str r_gho r_ghs r_cro r_pla r_fal r_gai r_day r_mar (by omega) (by omega) (by omega) (by exact fun j hj => (q0 j hj).2)) (cwV 1 hts gX9_days_X1_passDays rfl rfl rfl (by decide +kernel) ⟨Nat.le_of_ble_eq_true rfl, Nat.le_of_ble_eq_true rfl⟩) hP hD hS hA hK hN [1, 2, 3, 4, 5, 6, 7, 8, 9, 10, 11, 12] [0] [0, 1, 2, 3, 4, 5, 6, 7, 8, 9, 10, 11, 12] rfl rfl (by decide) (by decide) (by decide) (fun _ => rfl) (by decide) 1 1 rfl rfl rfl hl.1 rfl (Nat.le_of_ble_eq_true rfl) dX9_days_33 ⟨Nat.le_of_ble_eq_true rfl, Nat.le_of_ble_eq_true rfl⟩ (fun u7 H locs h6 hP hD hS => ?_)
      obtain ⟨str_c8, estr_c8⟩ : ∃ f : Nat → Int32, f = (u7.1 0) := ⟨_, rfl⟩
      obtain ⟨gho_c9, egho_c9⟩ : ∃ f : Nat → Int32, f = (u7.1 1) := ⟨_, rfl⟩
      obtain ⟨ghs_c10, eghs_c10⟩ : ∃ f : Nat → Int32, f = (u7.1 2) := ⟨_, rfl⟩
      obtain ⟨cro_c11, ecro_c11⟩ : ∃ f : Nat → Int32, f = (u7.1 3) := ⟨_, rfl⟩
      obtain ⟨day_c12, eday_c12⟩ : ∃ f : Int32, f = (u7.1 4 0) := ⟨_, rfl⟩
      have hP : va_P (dC, dI) vwCl (wsC cI cZ cQ a rb0 rb1 rb2 db0 db1 db2 top str_c8 gho_c9 ghs_c10 pto cro_c11 pla wal fal tel gai day_c12 mar) H := by rw [estr_c8, egho_c9, eghs_c10, ecro_c11, eday_c12]; exact hP
      have hD : va_D A (wsC cI cZ cQ a rb0 rb1 rb2 db0 db1 db2 top str_c8 gho_c9 ghs_c10 pto cro_c11 pla wal fal tel gai day_c12 mar) := by rw [estr_c8, egho_c9, eghs_c10, ecro_c11, eday_c12]; exact hD
      have h6 : (day_c12 = day + n) ∧ (dyC mar fal top str gho ghs tel n.toInt.toNat str_c8 gho_c9 ghs_c10) ∧ (rg 48 (0) (100) str_c8) ∧ (rg 48 (-1) (23) gho_c9) ∧ (rg 48 (0) (100) ghs_c10) ∧ (rg 48 (0) (6) cro_c11) ∧ (0 ≤ day_c12.toInt ∧ day_c12.toInt ≤ 400) := by (try rw [estr_c8]); (try rw [egho_c9]); (try rw [eghs_c10]); (try rw [ecro_c11]); (try rw [eday_c12]); exact h6
      obtain ⟨h6_0, h6_1, h6_2, h6_3, h6_4, h6_5, h6_6⟩ := h6
      refine lv_aload_n hx hb dX9_days_36 rfl (lv_at hl 0 rfl) ?_
      refine va_get (D := (dC, dI)) (ci := 9) (v := .ref (a 4)) (C := RX9) (T := TX9) (N := 11) hx hb hts inX9 hown hK hP 0 rfl rfl 2 (by decide) lf28 (fun _ h9 => h9) rfl dX9_days_37 ?_
      refine va_getN (D := (dC, dI)) (ci := 1) (v := .int day_c12) (C := RX1) (T := TX1) (N := 13) hx hb hts inX1 hown hK hP 1 rfl rfl 12 (by decide) lf153 (fun _ h9 => h9) rfl dX9_days_40 ?_
      exact W.iret (v := day_c12) hx hb hr (fun tq ht hW => ⟨⟨day_c12, (uS [str_c8, gho_c9, ghs_c10, cro_c11, (fun _ => day_c12)] 0 (fun _ => 0)), rfl, ⟨(show spDysC mar fal top str gho ghs tel day n day_c12 day_c12 str_c8 gho_c9 ghs_c10 from by (first | exact ⟨Or.inr ⟨by omega, rfl, rfl⟩, Or.inl ⟨by omega, rfl, rfl, rfl⟩⟩ | exact ⟨Or.inl ⟨⟨by omega, by omega, by omega⟩, by assumption, by assumption⟩, Or.inr ⟨by omega, by assumption⟩⟩)), (show crI top gho_c9 ghs_c10 from by (first | exact q0 | exact crI_days q0 (by assumption))), (show ptI pto day_c12 from by (first | exact q1 | exact pt_days q1 (dd_le (by assumption) (by omega) (by omega) (by omega)))), h6_2, h6_3, h6_4, h6_5, h6_6⟩, by rw [ht]; exact hP, hD⟩, hS.F ht⟩) hS.2.2 dX9_days_43
    · have dc4 : 400 < (day.toInt) + (n.toInt) := nleC f3 (show (400 : Int32).toInt = 400 from rfl) c4
      refine lv_bipush (v := (-3)) hx hb dX9_days_25 (by decide) ?_
      exact W.iret (v := (-3)) hx hb hr (fun tq ht hW => ⟨⟨(-3), (uS [str, gho, ghs, cro, (fun _ => day)] 0 (fun _ => 0)), rfl, ⟨(show spDysC mar fal top str gho ghs tel day n ((-3) : Int32) day str gho ghs from by (try rw [show ((-3) : Int32).toInt = (-3) from (show ((-3) : Int32).toInt = (-3) from rfl)]); (first | exact ⟨Or.inr ⟨by omega, rfl, rfl⟩, Or.inl ⟨by omega, rfl, rfl, rfl⟩⟩ | exact ⟨Or.inl ⟨⟨by omega, by omega, by omega⟩, by assumption, by assumption⟩, Or.inr ⟨by omega, by assumption⟩⟩)), (show crI top gho ghs from by (try rw [show ((-3) : Int32).toInt = (-3) from (show ((-3) : Int32).toInt = (-3) from rfl)]); (first | exact q0 | exact crI_days q0 (by assumption))), (show ptI pto day from by (try rw [show ((-3) : Int32).toInt = (-3) from (show ((-3) : Int32).toInt = (-3) from rfl)]); (first | exact q1 | exact pt_days q1 (dd_le (by assumption) (by omega) (by omega) (by omega)))), r_str, r_gho, r_ghs, r_cro, r_day⟩, by rw [ht]; exact hP, hD⟩, hS.F ht⟩) hS.2.2 dX9_days_27
  · refine lv_if_eq (tgt := 25) hx hb dX9_days_7 (by decide) (fun _ => ?_) (fun c9 => absurd (by decide) c9)
    refine lv_bipush (v := (-3)) hx hb dX9_days_25 (by decide) ?_
    exact W.iret (v := (-3)) hx hb hr (fun tq ht hW => ⟨⟨(-3), (uS [str, gho, ghs, cro, (fun _ => day)] 0 (fun _ => 0)), rfl, ⟨(show spDysC mar fal top str gho ghs tel day n ((-3) : Int32) day str gho ghs from by (try rw [show ((-3) : Int32).toInt = (-3) from (show ((-3) : Int32).toInt = (-3) from rfl)]); (first | exact ⟨Or.inr ⟨by omega, rfl, rfl⟩, Or.inl ⟨by omega, rfl, rfl, rfl⟩⟩ | exact ⟨Or.inl ⟨⟨by omega, by omega, by omega⟩, by assumption, by assumption⟩, Or.inr ⟨by omega, by assumption⟩⟩)), (show crI top gho ghs from by (try rw [show ((-3) : Int32).toInt = (-3) from (show ((-3) : Int32).toInt = (-3) from rfl)]); (first | exact q0 | exact crI_days q0 (by assumption))), (show ptI pto day from by (try rw [show ((-3) : Int32).toInt = (-3) from (show ((-3) : Int32).toInt = (-3) from rfl)]); (first | exact q1 | exact pt_days q1 (dd_le (by assumption) (by omega) (by omega) (by omega)))), r_str, r_gho, r_ghs, r_cro, r_day⟩, by rw [ht]; exact hP, hD⟩, hS.F ht⟩) hS.2.2 dX9_days_27
end
