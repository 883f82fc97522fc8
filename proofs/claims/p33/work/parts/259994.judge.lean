section
-- ===== PLANS: what is left behind n DAYS =====
def bitW (w : Int32) (i : Nat) : Bool := decide (((w >>> (nI i &&& 31)) &&& 1) = 1)
def svF (f : Nat → Int32) (m g : Int) (w : Nat → Bool) (v : Int) : Nat → Int
  | 0 => v
  | k + 1 => fl f (if w k then svF f m g w v k + gn g (svF f m g w v k) else svF f m g w v k) m
theorem bw_y {w y : Int32} {k : Nat} (c : (w >>> (y &&& 31)) &&& 1 = 1) (hy : y.toInt = k) : bitW w k = true := by
  have ey : nI k = y := by
    have := nI_toNat (y := y) (by omega)
    rw [← this]; congr 1; omega
  unfold bitW; rw [ey]; exact decide_eq_true c
theorem bw_n {w y : Int32} {k : Nat} (c : ¬ (w >>> (y &&& 31)) &&& 1 = 1) (hy : y.toInt = k) : bitW w k = false := by
  have ey : nI k = y := by
    have := nI_toNat (y := y) (by omega)
    rw [← this]; congr 1; omega
  unfold bitW; rw [ey]; exact decide_eq_false c
theorem sv_0 {f : Nat → Int32} {m g v L : Int} {w : Nat → Bool} {k : Nat} (hL : L = v) (hk : k = 0) : L = svF f m g w v k := by subst hk; exact hL
theorem sv_y {f : Nat → Int32} {m g v L S r R : Int} {w : Nat → Bool} {k k' : Nat} (h : L = svF f m g w v k) (hb : w k = true) (hg : r = gn g L) (hf : R = fl f S m) (hs : S = L + r) (hk : k' = k + 1) : R = svF f m g w v k' := by
  subst hk
  show R = fl f (if w k then svF f m g w v k + gn g (svF f m g w v k) else svF f m g w v k) m
  rw [hb, if_pos rfl, ← h, ← hg, ← hs]; exact hf
theorem sv_n {f : Nat → Int32} {m g v L R : Int} {w : Nat → Bool} {k k' : Nat} (h : L = svF f m g w v k) (hb : w k = false) (hf : R = fl f L m) (hk : k' = k + 1) : R = svF f m g w v k' := by
  subst hk
  show R = fl f (if w k then svF f m g w v k + gn g (svF f m g w v k) else svF f m g w v k) m
  rw [hb, if_neg (by decide), ← h]; exact hf
theorem sv_e {f : Nat → Int32} {m g v L : Int} {w : Nat → Bool} {k k' : Nat} (h : L = svF f m g w v k) (e : k' = k) : L = svF f m g w v k' := by subst e; exact h
theorem sv_w {f : Nat → Int32} {m g v : Int} {w w2 : Nat → Bool} {N : Nat} (h : ∀ i, i < N → w i = w2 i) : ∀ k, k ≤ N → svF f m g w v k = svF f m g w2 v k
  | 0, _ => rfl
  | k + 1, hk => by
    show fl f (if w k then svF f m g w v k + gn g (svF f m g w v k) else svF f m g w v k) m = fl f (if w2 k then svF f m g w2 v k + gn g (svF f m g w2 v k) else svF f m g w2 v k) m
    rw [sv_w h k (by omega), h k (by omega)]
def srF (top : Nat → Int32) (V : Nat → Int) (lo : Nat) : Nat → Int
  | 0 => 0
  | k + 1 => srF top V lo k + (if top (lo + k) = -1 then 0 else V (lo + k))
theorem sr_0 {top : Nat → Int32} {V : Nat → Int} {lo N : Nat} {L : Int} (hL : L = 0) (hN : N = 0) : L = srF top V lo N := by subst hN; exact hL
theorem sr_s {top : Nat → Int32} {V : Nat → Int} {lo N N' : Nat} {o : Int32} {L R : Int} (h : L = srF top V lo N) (ho : o.toNatClampNeg = lo + N) (hR : (top o.toNatClampNeg = -1 ∧ R = L) ∨ (¬ top o.toNatClampNeg = -1 ∧ R = L + V o.toNatClampNeg)) (hN : N' = N + 1) : R = srF top V lo N' := by
  subst hN; rw [ho] at hR
  show R = srF top V lo N + (if top (lo + N) = -1 then 0 else V (lo + N))
  rcases hR with ⟨a, b⟩ | ⟨a, b⟩
  · rw [if_pos a, ← h]; omega
  · rw [if_neg a, ← h]; exact b
theorem sr_e {top : Nat → Int32} {V : Nat → Int} {lo lo' N N' : Nat} {L : Int} (h : L = srF top V lo N) (e1 : lo' = lo) (e : N' = N) : L = srF top V lo' N' := by subst e1; subst e; exact h
theorem sr_add {t : Nat → Int32} {V : Nat → Int} {a : Nat} : ∀ k : Nat, srF t V 0 (a + k) = srF t V 0 a + srF t V a k
  | 0 => by show srF t V 0 a = srF t V 0 a + 0; omega
  | k + 1 => by
    show srF t V 0 (a + k) + (if t (0 + (a + k)) = -1 then 0 else V (0 + (a + k))) = srF t V 0 a + (srF t V a k + (if t (a + k) = -1 then 0 else V (a + k)))
    rw [sr_add k, Nat.zero_add]; omega
theorem sr_eq {t t2 : Nat → Int32} {V V2 : Nat → Int} {lo : Nat} (h : ∀ j, j < 48 → t j = t2 j) (hv : ∀ j, j < 48 → t j ≠ -1 → V j = V2 j) : ∀ k, lo + k ≤ 48 → srF t V lo k = srF t2 V2 lo k
  | 0, _ => rfl
  | k + 1, hk => by
    show srF t V lo k + (if t (lo + k) = -1 then 0 else V (lo + k)) = srF t2 V2 lo k + (if t2 (lo + k) = -1 then 0 else V2 (lo + k))
    rw [sr_eq h hv k (by omega), ← h (lo + k) (by omega)]
    by_cases z : t (lo + k) = -1
    · rw [if_pos z, if_pos z]
    · rw [if_neg z, if_neg z, hv (lo + k) (by omega) z]
-- rows of rooms, of minutes
def rmW (row : Int32) (i : Nat) : Int32 := (row >>> ((4 * nI i) &&& 31)) &&& 15
def mnW (mi : Int32) (i : Nat) : Int32 := (mi >>> ((7 * nI i) &&& 31)) &&& 127
def twI (W : Nat → Int32) (hi i : Int) (T : Nat → Int32) : Prop := ∀ j : Nat, (j : Int) < i → T j = W j ∧ (T j).toInt ≤ hi
theorem ti_0 {W T : Nat → Int32} {hi i : Int} (h : i = 0) : twI W hi i T := fun j hj => by omega
theorem ti_s {W T T2 : Nat → Int32} {hi i : Int} {y v : Int32} (q : twI W hi y.toInt T) (e : T2 = upd T y.toNatClampNeg v) (hv : v = W y.toInt.toNat) (l : (T2 y.toNatClampNeg).toInt ≤ hi) (h0 : 0 ≤ y.toInt) (hz : i = y.toInt + 1) : twI W hi i T2 := by
  subst hz
  have ey := clC (x := y) rfl
  intro j hj
  by_cases c : j = y.toNatClampNeg
  · subst c; refine ⟨?_, l⟩; rw [e, pk_us, hv, ey]
  · rw [e, pk_un c]; exact q j (by omega)
theorem rm_at {row y x : Int32} (h : x = (row >>> ((4 * y) &&& 31)) &&& 15) (h0 : 0 ≤ y.toInt) : x = rmW row y.toInt.toNat := by unfold rmW; rw [nI_toNat h0]; exact h
theorem mn_at {mi y x : Int32} (h : x = (mi >>> ((7 * y) &&& 31)) &&& 127) (h0 : 0 ≤ y.toInt) : x = mnW mi y.toInt.toNat := by unfold mnW; rw [nI_toNat h0]; exact h
def wkb (c m : Int32) : Prop := ¬ c = -1 ∧ c.toInt ≤ m.toInt
-- bits of walked days
theorem bit_or : ∀ x, x < 16 → ∀ i, i < 4 → ∀ j, j < 4 → bitW (nI x ||| ((1 : Int32) <<< (nI i &&& 31))) j = (bitW (nI x) j || decide (i = j)) := by decide +kernel
theorem bit_0 : ∀ j, j < 4 → bitW 0 j = false := by decide +kernel
def wdI (tri wk : Nat → Int32) (k : Int) : Prop := ∀ q : Nat, q < 8 → ∀ i : Nat, i < 4 → bitW (wk q) i = (decide ((i : Int) < k) && decide (tri i = nI q))
theorem wd_0 {tri wk : Nat → Int32} {k : Int} (h : ∀ j, j < 8 → wk j = 0) (hk : k = 0) : wdI tri wk k := by
  intro q hq i hi
  rw [h q hq, bit_0 i hi, decide_eq_false (by omega)]; rfl
theorem wd_y {tri wk wk2 : Nat → Int32} {k : Int} {y x v : Int32} (q : wdI tri wk y.toInt) (r : rg 8 0 15 wk) (e : wk2 = upd wk x.toNatClampNeg v) (ex : x = tri y.toNatClampNeg) (hx : 0 ≤ x.toInt ∧ x.toInt ≤ 7) (hv : v = wk x.toNatClampNeg ||| ((1 : Int32) <<< (y &&& 31))) (hy : 0 ≤ y.toInt) (hy3 : y.toInt ≤ 3) (hk : k = y.toInt + 1) : wdI tri wk2 k := by
  subst hk
  have cx := clC (x := x) rfl
  have cy := clC (x := y) rfl
  intro a ha i hi
  have w := q a ha i hi
  by_cases c : a = x.toNatClampNeg
  · subst c
    have rx := r x.toNatClampNeg (by omega)
    rw [e, pk_us, hv]
    have b := bit_or (wk x.toNatClampNeg).toInt.toNat (by omega) y.toInt.toNat (by omega) i hi
    rw [nI_toNat rx.1, nI_toNat hy] at b
    rw [b, w]
    by_cases d : i = y.toInt.toNat
    · have ti : tri i = nI x.toNatClampNeg := by rw [d, ← cy, ← ex, cx, nI_toNat hx.1]
      rw [ti, decide_eq_true (p := y.toInt.toNat = i) d.symm, Bool.or_true, decide_eq_true (p := (i : Int) < y.toInt + 1) (by omega), decide_eq_true rfl]; rfl
    · rw [decide_eq_false (p := y.toInt.toNat = i) (fun z => d z.symm), Bool.or_false]
      by_cases g : (i : Int) < y.toInt
      · rw [decide_eq_true g, decide_eq_true (p := (i : Int) < y.toInt + 1) (by omega)]
      · rw [decide_eq_false g, decide_eq_false (p := (i : Int) < y.toInt + 1) (by omega)]
  · rw [e, pk_un c, w]
    by_cases d : i = y.toInt.toNat
    · have ti : tri i ≠ nI a := by
        rw [d, ← cy, ← ex]
        intro z
        have := congrArg Int32.toInt z
        rw [nI_toInt (by omega)] at this; omega
      rw [decide_eq_false ti, Bool.and_false, Bool.and_false]
    · by_cases g : (i : Int) < y.toInt
      · rw [decide_eq_true g, decide_eq_true (p := (i : Int) < y.toInt + 1) (by omega)]
      · rw [decide_eq_false g, decide_eq_false (p := (i : Int) < y.toInt + 1) (by omega)]
theorem wd_n {tri wk : Nat → Int32} {k : Int} {y x : Int32} (q : wdI tri wk y.toInt) (ex : x = tri y.toNatClampNeg) (hx : x.toInt < 0 ∨ 7 < x.toInt) (hy : 0 ≤ y.toInt) (hk : k = y.toInt + 1) : wdI tri wk k := by
  subst hk
  have cy := clC (x := y) rfl
  intro a ha i hi
  rw [q a ha i hi]
  by_cases d : i = y.toInt.toNat
  · have ti : tri i ≠ nI a := by
      rw [d, ← cy, ← ex]
      intro z
      have := congrArg Int32.toInt z
      rw [nI_toInt (by omega)] at this; omega
    rw [decide_eq_false ti, Bool.and_false, Bool.and_false]
  · by_cases g : (i : Int) < y.toInt
    · rw [decide_eq_true g, decide_eq_true (p := (i : Int) < y.toInt + 1) (by omega)]
    · rw [decide_eq_false g, decide_eq_false (p := (i : Int) < y.toInt + 1) (by omega)]
theorem ti_c {W T : Nat → Int32} {hi i i' : Int} (q : twI W hi i T) (e : i' = i) : twI W hi i' T := by subst e; exact q
theorem tk_no {W : Nat → Int32} {x : Int32} {j : Nat} {n hi : Int} (hx : x = W j) (hj : (j : Int) < n) (l : hi < x.toInt) : ∃ j : Nat, (j : Int) < n ∧ hi < (W j).toInt := ⟨j, hj, by rw [← hx]; exact l⟩
def prI (few top : Nat → Int32) (i : Int) (cos wk : Nat → Int32) : Prop := ∀ j : Nat, (j : Int) < i → coC few top (nI j) (cos j) ∧ wk j = 0
theorem pr_0 {few top cos wk : Nat → Int32} {i : Int} (h : i = 0) : prI few top i cos wk := fun j hj => by omega
theorem pr_s {few top cos wk cos2 wk2 : Nat → Int32} {i : Int} {y v : Int32} (q : prI few top y.toInt cos wk) (e1 : cos2 = upd cos y.toNatClampNeg v) (e2 : wk2 = upd wk y.toNatClampNeg 0) (hv : coC few top y v) (h0 : 0 ≤ y.toInt) (hz : i = y.toInt + 1) : prI few top i cos2 wk2 := by
  subst hz; subst e1; subst e2
  have ey := clC (x := y) rfl
  intro j hj
  by_cases c : j = y.toNatClampNeg
  · subst c; rw [pk_us, pk_us, ey, nI_toNat h0]; exact ⟨hv, rfl⟩
  · rw [pk_un c, pk_un c]; exact q j (by omega)
def wkA (tri mi cos : Nat → Int32) (k : Int) : Prop := ∀ i : Nat, (i : Int) < k → (tri i).toInt ≤ 7 → wkb (cos (tri i).toNatClampNeg) (mi i)
theorem wa_0 {tri mi cos : Nat → Int32} {k : Int} (h : k = 0) : wkA tri mi cos k := fun j hj => by omega
theorem wa_y {tri mi cos : Nat → Int32} {k : Int} {y x : Int32} (q : wkA tri mi cos y.toInt) (ex : x = tri y.toNatClampNeg) (h : wkb (cos x.toNatClampNeg) (mi y.toNatClampNeg)) (h0 : 0 ≤ y.toInt) (hk : k = y.toInt + 1) : wkA tri mi cos k := by
  subst hk
  have cy := clC (x := y) rfl
  intro j hj l
  by_cases c : j = y.toNatClampNeg
  · subst c; rw [← ex]; exact h
  · exact q j (by omega) l
theorem wa_n {tri mi cos : Nat → Int32} {k : Int} {y x : Int32} (q : wkA tri mi cos y.toInt) (ex : x = tri y.toNatClampNeg) (h : 7 < x.toInt) (h0 : 0 ≤ y.toInt) (hk : k = y.toInt + 1) : wkA tri mi cos k := by
  subst hk
  have cy := clC (x := y) rfl
  intro j hj l
  by_cases c : j = y.toNatClampNeg
  · subst c; rw [← ex] at l; omega
  · exact q j (by omega) l
/-- the STRENGTH of a CORNER behind n DAYS, its ROOM walked on the days that the row says -/
def plU (mar f top str : Nat → Int32) (tel : Int32) (g : Int) (tri : Nat → Int32) (n : Nat) (c : Nat) : Int := svF f (cwF mar top tel c (c - c % 6) 6) g (fun i => decide (tri i = nI (c / 6))) (str c).toInt n
def jdC (mar f top str : Nat → Int32) (tel : Int32) (g : Int) (tri mi cos : Nat → Int32) (n : Int) (r : Int32) : Prop := (∃ i : Nat, (i : Int) < n ∧ (tri i).toInt ≤ 7 ∧ ¬ wkb (cos (tri i).toNatClampNeg) (mi i) ∧ r = -1) ∨ (wkA tri mi cos n ∧ r.toInt = srF top (plU mar f top str tel g tri n.toNat) 0 48)
theorem jd_n {mar f top str tri mi cos : Nat → Int32} {tel y x : Int32} {g n : Int} (ex : x = tri y.toNatClampNeg) (hx : x.toInt ≤ 7) (h : ¬ wkb (cos x.toNatClampNeg) (mi y.toNatClampNeg)) (h0 : 0 ≤ y.toInt) (hn : y.toInt < n) : jdC mar f top str tel g tri mi cos n (-1) := by
  have cy := clC (x := y) rfl
  subst ex
  exact .inl ⟨y.toNatClampNeg, by omega, hx, h, rfl⟩
theorem jd_sum {mar f top str tri cro wk : Nat → Int32} {tel y : Int32} {g : Int} {n N N' : Nat} {L S R : Int} (h : L = srF top (plU mar f top str tel g tri n) 0 N) (hs : S = srF top (fun c => svF f (cro c).toInt g (bitW (wk y.toNatClampNeg)) (str c).toInt n) (y.toInt * 6).toNat 6) (hc : ∀ j : Nat, j < 48 → (cro j).toInt = cwF mar top tel j (j - j % 6) 6) (hw : wdI tri wk (n : Int)) (hn4 : n ≤ 4) (hy : 0 ≤ y.toInt) (hy7 : y.toInt ≤ 7) (hN : (N : Int) = 6 * y.toInt) (hR : R = L + S) (hN' : N' = N + 6) : R = srF top (plU mar f top str tel g tri n) 0 N' := by
  subst hN'
  have cy := clC (x := y) rfl
  rw [sr_add, hR, h, hs, show (y.toInt * 6).toNat = N by omega]
  congr 1
  have aux : ∀ k : Nat, k ≤ 6 → srF top (fun c => svF f (cro c).toInt g (bitW (wk y.toNatClampNeg)) (str c).toInt n) N k = srF top (plU mar f top str tel g tri n) N k := by
    intro k
    induction k with
    | zero => intro _; rfl
    | succ k ih =>
      intro hk
      show srF top (fun c => svF f (cro c).toInt g (bitW (wk y.toNatClampNeg)) (str c).toInt n) N k + (if top (N + k) = -1 then 0 else svF f (cro (N + k)).toInt g (bitW (wk y.toNatClampNeg)) (str (N + k)).toInt n) = srF top (plU mar f top str tel g tri n) N k + (if top (N + k) = -1 then 0 else plU mar f top str tel g tri n (N + k))
      rw [ih (by omega)]
      have e : svF f (cro (N + k)).toInt g (bitW (wk y.toNatClampNeg)) (str (N + k)).toInt n = plU mar f top str tel g tri n (N + k) := by
        unfold plU
        rw [hc (N + k) (by omega)]
        refine sv_w (N := n) (fun i hi => ?_) n (Nat.le_refl n)
        rw [hw y.toNatClampNeg (by omega) i (by omega), decide_eq_true (p := (i : Int) < (n : Int)) (by omega), Bool.true_and, show (N + k) / 6 = y.toNatClampNeg by omega]
      rw [e]
  exact aux 6 (Nat.le_refl 6)
-- ===== the model's PLANS =====
def amI (n mi : Int32) (i : Int) (f : Int32) : Prop := (f = 1 ∧ (1 ≤ n.toInt ∧ n.toInt ≤ 4) ∧ ∀ j : Nat, (j : Int) < i → (mnW mi j).toInt < 100) ∨ (f = 0 ∧ (n.toInt < 1 ∨ 4 < n.toInt ∨ ∃ j : Nat, (j : Int) < n.toInt ∧ 99 < (mnW mi j).toInt))
theorem am_0 {n mi : Int32} {i : Int} (h : 1 ≤ n.toInt ∧ n.toInt ≤ 4) (hi : i = 0) : amI n mi i 1 := .inl ⟨rfl, h, fun j hj => by omega⟩
theorem am_n {n mi : Int32} {i : Int} (h : n.toInt < 1 ∨ 4 < n.toInt) : amI n mi i 0 := .inr ⟨rfl, by omega⟩
theorem am_y {n mi y f x : Int32} {i : Int} (q : amI n mi y.toInt f) (hf : ¬ f = 0) (hx : x = mnW mi y.toInt.toNat) (l : x.toInt < 100) (h0 : 0 ≤ y.toInt) (hi : i = y.toInt + 1) : amI n mi i 1 := by
  rcases q with ⟨_, a, b⟩ | ⟨a, _⟩
  · refine .inl ⟨rfl, a, fun j hj => ?_⟩
    by_cases c : j = y.toInt.toNat
    · subst c; rw [← hx]; exact l
    · exact b j (by omega)
  · exact absurd a hf
theorem am_z {n mi y x : Int32} {i : Int} (hx : x = mnW mi y.toInt.toNat) (l : 100 ≤ x.toInt) (h0 : 0 ≤ y.toInt) (hn : y.toInt < n.toInt) : amI n mi i 0 := .inr ⟨rfl, .inr (.inr ⟨y.toInt.toNat, by omega, by rw [← hx]; omega⟩)⟩
def cpL (A A1 : Nat → Int32) (b i : Int) : Prop := ∀ j : Nat, j < 240 → ((b + 48 ≤ j ∧ (j : Int) < b + 48 + i) → A1 j = A (j - 48)) ∧ (¬ (b + 48 ≤ j ∧ (j : Int) < b + 48 + i) → A1 j = A j)
theorem cl_0 {A : Nat → Int32} {b i : Int} (h : i = 0) : cpL A A b i := fun j _ => ⟨fun q => by omega, fun _ => rfl⟩
theorem cl_s {A A1 A2 : Nat → Int32} {b i : Int} {y d s x : Int32} (q : cpL A A1 b y.toInt) (e : A2 = upd A1 d.toNatClampNeg x) (hx : x = A1 s.toNatClampNeg) (hd : d.toInt = b + 48 + y.toInt) (hs : s.toInt = b + y.toInt) (hb : 0 ≤ b) (hb2 : b ≤ 144) (hy : 0 ≤ y.toInt) (hy2 : y.toInt < 48) (hi : i = y.toInt + 1) : cpL A A2 b i := by
  subst hi
  have cd := clC hd
  have cs := clC hs
  have w := (q (b + y.toInt).toNat (by omega)).2 (by omega)
  intro j hj
  by_cases c : j = (b + 48 + y.toInt).toNat
  · subst c
    refine ⟨fun _ => ?_, fun z => absurd ⟨by omega, by omega⟩ z⟩
    rw [e, cd, pk_us, hx, cs, w]; congr 1; omega
  · rw [e, cd, pk_un c]
    exact ⟨fun z => (q j hj).1 (by omega), fun z => (q j hj).2 (by omega)⟩
def lyS (f mar top : Nat → Int32) (tel : Int32) (g ro b : Int) (A A' : Nat → Int32) : Prop := (∀ c : Nat, c < 48 → top c ≠ -1 → (A' (b.toNat + 48 + c)).toInt = fl f (if (c : Int) / 6 = ro then (A (b.toNat + c)).toInt + gn g (A (b.toNat + c)).toInt else (A (b.toNat + c)).toInt) (cwF mar top tel c (c - c % 6) 6)) ∧ ∀ j : Nat, (j : Int) < b + 48 → A' j = A j
theorem ly_w {f mar top A A1 A2 A3 F2 F3 : Nat → Int32} {tel : Int32} {g ro b came i o : Int} (q : cpL A A1 b i) (hi : i = 48) (w : gwS top g o (ro * 6) (ro * 6 + 6) A1 A2 came) (d : gdS f mar top tel o 48 A2 F2 A3 F3) (ho : o = b + 48) (hb : 0 ≤ b) (hb2 : b ≤ 144) (hr : 0 ≤ ro) (hr7 : ro ≤ 7) : lyS f mar top tel g ro b A A3 := by
  subst hi; subst ho
  refine ⟨fun c hc t => ?_, fun j hj => ?_⟩
  · have q1 := (q (b.toNat + 48 + c) (by omega)).1 ⟨by omega, by omega⟩
    rw [show b.toNat + 48 + c - 48 = b.toNat + c by omega] at q1
    have d1 := ((d (b.toNat + 48 + c) (by omega)).1 ⟨by omega, by omega⟩).1
    have w1 := w.1 (b.toNat + 48 + c) (by omega)
    rw [show b.toNat + 48 + c - (b + 48).toNat = c by omega] at d1 w1
    unfold gdV at d1
    rw [if_neg t] at d1
    rw [d1]
    congr 1
    by_cases z : (c : Int) / 6 = ro
    · rw [if_pos z, w1.1 ⟨by omega, by omega, t⟩, q1]
    · rw [if_neg z, w1.2 (fun k => by omega), q1]
  · have q1 := (q j (by omega)).2 (by omega)
    have d1 := ((d j (by omega)).2 (by omega)).1
    have w1 := (w.1 j (by omega)).2 (by omega)
    rw [d1, w1, q1]
theorem ly_0 {f mar top A A1 A3 F2 F3 : Nat → Int32} {tel : Int32} {g ro b i o : Int} (q : cpL A A1 b i) (hi : i = 48) (d : gdS f mar top tel o 48 A1 F2 A3 F3) (ho : o = b + 48) (hb : 0 ≤ b) (hb2 : b ≤ 144) (hr : ro = 8) : lyS f mar top tel g ro b A A3 := by
  subst hi; subst ho; subst hr
  refine ⟨fun c hc t => ?_, fun j hj => ?_⟩
  · have q1 := (q (b.toNat + 48 + c) (by omega)).1 ⟨by omega, by omega⟩
    rw [show b.toNat + 48 + c - 48 = b.toNat + c by omega] at q1
    have d1 := ((d (b.toNat + 48 + c) (by omega)).1 ⟨by omega, by omega⟩).1
    rw [show b.toNat + 48 + c - (b + 48).toNat = c by omega] at d1
    unfold gdV at d1
    rw [if_neg t] at d1
    rw [d1, q1, if_neg (by omega)]
  · have q1 := (q j (by omega)).2 (by omega)
    have d1 := ((d j (by omega)).2 (by omega)).1
    rw [d1, q1]
theorem wd_P {few top cos tri wk : Nat → Int32} {k : Int} (h : prI few top 8 cos wk) (hk : k = 0) : wdI tri wk k := wd_0 (fun j hj => (h j (by omega)).2) hk
theorem pr_co {few top cos wk : Nat → Int32} (h : prI few top 8 cos wk) : ∀ j : Nat, j < 8 → coC few top (nI j) (cos j) := fun j hj => (h j (by omega)).1
theorem wd_c {tri wk : Nat → Int32} {k k' : Int} (q : wdI tri wk k) (e : k' = k) : wdI tri wk k' := by subst e; exact q
theorem wa_c {tri mi cos : Nat → Int32} {k k' : Int} (q : wkA tri mi cos k) (e : k' = k) : wkA tri mi cos k' := by subst e; exact q
theorem rm_nn {row : Int32} {i : Nat} : 0 ≤ (rmW row i).toInt ∧ (rmW row i).toInt ≤ 15 := by unfold rmW; exact andR (m := 15) rfl (by decide)
theorem tw_pre {row : Int32} {n : Int} {tri : Nat → Int32} (h : twI (rmW row) 8 n tri) : ∀ j : Nat, (j : Int) < n → 0 ≤ (tri j).toInt ∧ (tri j).toInt ≤ 8 := fun j hj => by
  have w := h j hj
  have := rm_nn (row := row) (i := j)
  exact ⟨by rw [w.1]; exact this.1, w.2⟩
theorem jd_conv {mar f top str tri mi cos W M : Nat → Int32} {tel r : Int32} {g n h1 h2 : Int} (h : jdC mar f top str tel g tri mi cos n r) (t : twI W h1 n tri) (m : twI M h2 n mi) (hn : 0 ≤ n) : jdC mar f top str tel g W M cos n r := by
  rcases h with ⟨i, a, b, c, d⟩ | ⟨a, b⟩
  · left
    refine ⟨i, a, ?_, ?_, d⟩
    · rw [← (t i a).1]; exact b
    · rw [← (t i a).1, ← (m i a).1]; exact c
  · right
    refine ⟨fun i hi l => ?_, ?_⟩
    · rw [← (t i hi).1] at l ⊢
      rw [← (m i hi).1]; exact a i hi l
    · rw [b]
      refine sr_eq (fun _ _ => rfl) (fun c hc _ => ?_) 48 (by omega)
      unfold plU
      refine sv_w (N := n.toNat) (fun i hi => ?_) n.toNat (Nat.le_refl _)
      rw [(t i (by omega)).1]
def bdJ (row n mi : Int32) : Prop := n.toInt < 1 ∨ 4 < n.toInt ∨ (∃ j : Nat, (j : Int) < n.toInt ∧ 8 < (rmW row j).toInt) ∨ (∃ j : Nat, (j : Int) < n.toInt ∧ 99 < (mnW mi j).toInt)
def okJ (row n mi : Int32) : Prop := (1 ≤ n.toInt ∧ n.toInt ≤ 4) ∧ (∀ j : Nat, (j : Int) < n.toInt → (rmW row j).toInt ≤ 8) ∧ (∀ j : Nat, (j : Int) < n.toInt → (mnW mi j).toInt < 100)
theorem bd_ok {row n mi : Int32} (h : bdJ row n mi) (k : okJ row n mi) : False := by
  obtain ⟨k1, k2, k3⟩ := k
  rcases h with h | h | ⟨j, a, b⟩ | ⟨j, a, b⟩
  · omega
  · omega
  · have := k2 j a; omega
  · have := k3 j a; omega
def spJdgC (few mar f top str : Nat → Int32) (tel : Int32) (g : Int) (row n mi r : Int32) : Prop := (bdJ row n mi ∧ r = -3) ∨ (okJ row n mi ∧ ∃ cos : Nat → Int32, (∀ j : Nat, j < 8 → coC few top (nI j) (cos j)) ∧ jdC mar f top str tel g (rmW row) (mnW mi) cos n.toInt r)
def jgM (A B top : Nat → Int32) (dn : Int) (row mi : Int32) (i : Nat) (P : Bool) : Prop := ∃ c : Int32, coM A B dn top (rmW row i) c ∧ (if P then wkb c (mnW mi i) else ¬ wkb c (mnW mi i))
def jdM (A B mar f top str : Nat → Int32) (dn : Int) (tel : Int32) (g : Int) (row mi : Int32) (n : Int) (r : Int32) : Prop := (∃ i : Nat, (i : Int) < n ∧ (rmW row i).toInt ≤ 7 ∧ jgM A B top dn row mi i false ∧ r = -1) ∨ ((∀ i : Nat, (i : Int) < n → (rmW row i).toInt ≤ 7 → jgM A B top dn row mi i true) ∧ r.toInt = srF top (plU mar f top str tel g (rmW row) n.toNat) 0 48)
def spJdgM (A B mar f top str : Nat → Int32) (dn tel : Int32) (g : Int) (row n mi r : Int32) : Prop := (bdJ row n mi ∧ r = -3) ∨ (okJ row n mi ∧ jdM A B mar f top str dn.toInt tel g row mi n.toInt r)
theorem gn_rg {g v : Int} (hg0 : 0 ≤ g) (hg1 : g ≤ 100) (h0 : 0 ≤ v) (h1 : v ≤ 100) : 0 ≤ gn g v ∧ gn g v ≤ 100 - v := by
  unfold gn
  have a : 0 ≤ (100 - v) * g := Int.mul_nonneg (by omega) hg0
  have b : (100 - v) * g ≤ (100 - v) * 100 := Int.mul_le_mul_of_nonneg_left hg1 (by omega)
  omega
theorem sv_rg {f : Nat → Int32} {m g v : Int} {w : Nat → Bool} (hf : rg 11 0 30 f) (hm : 0 ≤ m) (hg0 : 0 ≤ g) (hg1 : g ≤ 100) (h0 : 0 ≤ v) (h1 : v ≤ 100) : ∀ k, 0 ≤ svF f m g w v k ∧ svF f m g w v k ≤ 100
  | 0 => ⟨h0, h1⟩
  | k + 1 => by
    have i := sv_rg (w := w) hf hm hg0 hg1 h0 h1 k
    have gr := gn_rg hg0 hg1 i.1 i.2
    show 0 ≤ fl f (if w k then svF f m g w v k + gn g (svF f m g w v k) else svF f m g w v k) m ∧ fl f (if w k then svF f m g w v k + gn g (svF f m g w v k) else svF f m g w v k) m ≤ 100
    cases w k
    · rw [if_neg (by decide)]
      have := fl_rg (m := m) hf i.1 i.2 hm; omega
    · rw [if_pos rfl]
      have := fl_rg (f := f) (v := svF f m g w v k + gn g (svF f m g w v k)) (m := m) hf (by omega) (by omega) hm; omega
theorem sv_f {f f2 : Nat → Int32} {m g v : Int} {w : Nat → Bool} (e : ∀ j, j < 11 → f j = f2 j) (hf : rg 11 0 30 f) (hm : 0 ≤ m) (hg0 : 0 ≤ g) (hg1 : g ≤ 100) (h0 : 0 ≤ v) (h1 : v ≤ 100) : ∀ k, svF f m g w v k = svF f2 m g w v k
  | 0 => rfl
  | k + 1 => by
    have i := sv_rg (w := w) hf hm hg0 hg1 h0 h1 k
    have gr := gn_rg hg0 hg1 i.1 i.2
    show fl f (if w k then svF f m g w v k + gn g (svF f m g w v k) else svF f m g w v k) m = fl f2 (if w k then svF f2 m g w v k + gn g (svF f2 m g w v k) else svF f2 m g w v k) m
    rw [← sv_f e hf hm hg0 hg1 h0 h1 k]
    cases w k
    · rw [if_neg (by decide)]; exact fl_eq e i.1 i.2
    · rw [if_pos rfl]; exact fl_eq e (by omega) (by omega)
theorem spJdg_rel {few A B mar mm f mfl top str gho ghs pto wal mt ms mg mf mp mw : Nat → Int32} {doo dn tel mtel gai mgai row n mi r r2 : Int32} (R : crR top str gho ghs pto wal mt ms mg mf mp mw) (Rd : doR few doo A B dn) (hm : mtOK few) (em : mar = mm) (et : tel = mtel) (eg : gai = mgai) (ef : ∀ j, j < 11 → f j = mfl j) (hf : rg 11 0 30 f) (hs : rg 48 0 100 str) (hg : 0 ≤ gai.toInt ∧ gai.toInt ≤ 100) (h1 : spJdgC few mar f top str tel gai.toInt row n mi r) (h2 : spJdgM A B mm mfl mt ms dn mtel mgai.toInt row n mi r2) : r = r2 := by
  subst em; subst et; subst eg
  rcases h1 with ⟨a, b⟩ | ⟨a, cos, hc, b⟩
  · rcases h2 with ⟨_, d⟩ | ⟨c, _⟩
    · rw [b, d]
    · exact (bd_ok a c).elim
  · rcases h2 with ⟨c, _⟩ | ⟨_, d⟩
    · exact (bd_ok c a).elim
    · have ht : ∀ j, j < 48 → top j = mt j := fun j hj => (R.1 j hj).1
      have key : ∀ i : Nat, (rmW row i).toInt ≤ 7 → ∀ c : Int32, coM A B dn.toInt mt (rmW row i) c → cos (rmW row i).toNatClampNeg = c := by
        intro i l c hcm
        have nn := rm_nn (row := row) (i := i)
        have c1 := hc (rmW row i).toInt.toNat (by omega)
        rw [nI_toNat nn.1] at c1
        rw [clC (x := rmW row i) rfl]
        exact co_rel hm Rd.2 ht ⟨nn.1, l⟩ c1 hcm
      rcases b with ⟨i, i1, i2, i3, b⟩ | ⟨b1, b⟩
      · rcases d with ⟨_, _, _, _, d⟩ | ⟨d1, _⟩
        · rw [b, d]
        · obtain ⟨c, cm, cw⟩ := d1 i i1 i2
          rw [key i i2 c cm] at i3
          exact absurd cw i3
      · rcases d with ⟨i, i1, i2, ⟨c, cm, cw⟩, _⟩ | ⟨_, d⟩
        · have := b1 i i1 i2
          rw [key i i2 c cm] at this
          exact absurd this cw
        · apply Int32.toInt_inj.mp
          rw [b, d]
          refine sr_eq ht (fun c hc2 t => ?_) 48 (by omega)
          unfold plU
          have es := (R.1 c hc2).2.2.2.1 t
          have hsc := hs c hc2
          rw [← es, ← cw_eq ht hc2 6 (by omega)]
          exact sv_f ef hf (cw_nn 6) hg.1 hg.2 hsc.1 hsc.2 _
def igT (A B top f mar : Nat → Int32) (dn : Int) (tel : Int32) (g : Int) (k ro mi : Int32) (L L' : Nat → Int32) : Prop := (ro.toInt = 8 ∨ (∃ c : Int32, coM A B dn top ro c ∧ wkb c (mnW mi k.toInt.toNat))) ∧ lyS f mar top tel g ro.toInt (48 * k.toInt) L L'
def igN (A B top : Nat → Int32) (dn : Int) (k ro mi : Int32) : Prop := ro.toInt ≤ 7 ∧ ∃ c : Int32, coM A B dn top ro c ∧ ¬ wkb c (mnW mi k.toInt.toNat)
theorem ig_y {A B top : Nat → Int32} {dn : Int} {k ro mi c m : Int32} (hc : coM A B dn top ro c) (h1 : ¬ c = -1) (hm : m = mnW mi k.toInt.toNat) (h2 : c.toInt ≤ m.toInt) : ro.toInt = 8 ∨ (∃ c : Int32, coM A B dn top ro c ∧ wkb c (mnW mi k.toInt.toNat)) := .inr ⟨c, hc, h1, by rw [← hm]; exact h2⟩
theorem ig_n1 {A B top : Nat → Int32} {dn : Int} {k ro mi c : Int32} (hr : ro.toInt ≤ 7) (hc : coM A B dn top ro c) (h1 : c = -1) : igN A B top dn k ro mi := ⟨hr, c, hc, fun q => q.1 h1⟩
theorem ig_n2 {A B top : Nat → Int32} {dn : Int} {k ro mi c m : Int32} (hr : ro.toInt ≤ 7) (hc : coM A B dn top ro c) (hm : m = mnW mi k.toInt.toNat) (h2 : m.toInt < c.toInt) : igN A B top dn k ro mi := ⟨hr, c, hc, fun q => by have := q.2; rw [← hm] at this; omega⟩
/-- the layer k: what is left behind k DAYS -/
def lyI (f mar top str : Nat → Int32) (tel : Int32) (g : Int) (row : Int32) (k : Int) (A : Nat → Int32) : Prop := ∀ c : Nat, c < 48 → top c ≠ -1 → (A ((48 * k).toNat + c)).toInt = plU mar f top str tel g (rmW row) k.toNat c
theorem li_A {f mar top str gho fai A F : Nat → Int32} {tel row : Int32} {g i k : Int} (q : laI top str gho fai i A F) (hi : 48 ≤ i) (hk : k = 0) : lyI f mar top str tel g row k A := by
  subst hk
  intro c hc t
  have w := (q c (by omega)).1
  rw [if_neg t] at w
  rw [show (48 * (0 : Int)).toNat + c = c by omega, w]; rfl
theorem li_S {f mar top str A A' : Nat → Int32} {tel row y ro : Int32} {g k b : Int} (q : lyI f mar top str tel g row y.toInt A) (l : lyS f mar top tel g ro.toInt b A A') (hb : b = 48 * y.toInt) (hr : ro = rmW row y.toInt.toNat) (hr8 : 0 ≤ ro.toInt ∧ ro.toInt ≤ 8) (hy : 0 ≤ y.toInt) (hk : k = y.toInt + 1) : lyI f mar top str tel g row k A' := by
  subst hk; subst hb
  intro c hc t
  have a := l.1 c hc t
  rw [show (48 * (y.toInt + 1)).toNat + c = (48 * y.toInt).toNat + 48 + c by omega, a, q c hc t, show (y.toInt + 1).toNat = y.toInt.toNat + 1 by omega]
  show _ = fl f (if decide (rmW row y.toInt.toNat = nI (c / 6)) then svF f (cwF mar top tel c (c - c % 6) 6) g (fun i => decide (rmW row i = nI (c / 6))) (str c).toInt y.toInt.toNat + gn g (svF f (cwF mar top tel c (c - c % 6) 6) g (fun i => decide (rmW row i = nI (c / 6))) (str c).toInt y.toInt.toNat) else svF f (cwF mar top tel c (c - c % 6) 6) g (fun i => decide (rmW row i = nI (c / 6))) (str c).toInt y.toInt.toNat) (cwF mar top tel c (c - c % 6) 6)
  have e : ((c : Int) / 6 = ro.toInt) ↔ (rmW row y.toInt.toNat = nI (c / 6)) := by
    rw [← hr]
    refine ⟨fun z => ?_, fun z => ?_⟩
    · have := nI_toNat (y := ro) hr8.1
      rw [← this]; congr 1; omega
    · have := congrArg Int32.toInt z
      rw [nI_toInt (by omega)] at this; omega
  unfold plU
  by_cases z : (c : Int) / 6 = ro.toInt
  · rw [if_pos z, decide_eq_true (e.mp z), if_pos rfl]
  · rw [if_neg z, decide_eq_false (fun w => z (e.mpr w)), if_neg (by decide)]
def wmA (A B top : Nat → Int32) (dn : Int) (row mi : Int32) (k : Int) : Prop := ∀ i : Nat, (i : Int) < k → (rmW row i).toInt ≤ 7 → jgM A B top dn row mi i true
theorem wm_0 {A B top : Nat → Int32} {dn k : Int} {row mi : Int32} (h : k = 0) : wmA A B top dn row mi k := fun j hj => by omega
theorem wm_s {A B top : Nat → Int32} {dn k : Int} {row mi y ro : Int32} (q : wmA A B top dn row mi y.toInt) (h : ro.toInt = 8 ∨ (∃ c : Int32, coM A B dn top ro c ∧ wkb c (mnW mi y.toInt.toNat))) (hr : ro = rmW row y.toInt.toNat) (hk : k = y.toInt + 1) (h0 : 0 ≤ y.toInt) : wmA A B top dn row mi k := by
  subst hk
  intro i hi l
  by_cases c : i = y.toInt.toNat
  · subst c
    rw [← hr] at l
    rcases h with h | ⟨c, a, b⟩
    · omega
    · refine ⟨c, by rw [← hr]; exact a, ?_⟩
      rw [if_pos rfl]; exact b
  · exact q i (by omega) l
theorem jm_n {A B mar f top str : Nat → Int32} {dn g n : Int} {tel row mi y ro : Int32} (h : igN A B top dn y ro mi) (hr : ro = rmW row y.toInt.toNat) (h0 : 0 ≤ y.toInt) (hn : y.toInt < n) : jdM A B mar f top str dn tel g row mi n (-1) := by
  obtain ⟨a, c, b, d⟩ := h
  subst hr
  refine .inl ⟨y.toInt.toNat, by omega, a, ⟨c, b, ?_⟩, rfl⟩
  rw [if_neg (by decide)]; exact d
theorem jm_y {A B mar f top str L : Nat → Int32} {dn g n k b : Int} {tel row mi r : Int32} (w : wmA A B top dn row mi k) (l : lyI f mar top str tel g row k L) (hr : r.toInt = srF top (fun c => (L (b.toNat + c)).toInt) 0 48) (hb : b = 48 * n) (hk : n = k) (hn : 0 ≤ n) : jdM A B mar f top str dn tel g row mi n r := by
  subst hk
  refine .inr ⟨w, ?_⟩
  rw [hr]
  refine sr_eq (fun _ _ => rfl) (fun c hc t => ?_) 48 (by omega)
  show (L (b.toNat + c)).toInt = _
  rw [hb]; exact l c hc t
def rwL (row : Int32) (i : Int) : Prop := ∀ j : Nat, (j : Int) < i → (rmW row j).toInt ≤ 8
theorem rl_0 {row : Int32} {i : Int} (h : i = 0) : rwL row i := fun j hj => by omega
theorem rl_s {row y x : Int32} {i : Int} (q : rwL row y.toInt) (hx : x = rmW row y.toInt.toNat) (l : x.toInt ≤ 8) (h0 : 0 ≤ y.toInt) (hi : i = y.toInt + 1) : rwL row i := by
  subst hi
  intro j hj
  by_cases c : j = y.toInt.toNat
  · subst c; rw [← hx]; exact l
  · exact q j (by omega)
theorem rl_c {row : Int32} {i i' : Int} (q : rwL row i) (e : i' = i) : rwL row i' := by subst e; exact q
theorem ad_of {r V R L : Int} (e : r = V) (h : R = L + r) : R = L + V := by rw [← e]; exact h
theorem jb_1 {row n mi : Int32} (h : n.toInt < 1 ∨ 4 < n.toInt) : bdJ row n mi := h.elim .inl (fun q => .inr (.inl q))
theorem jo_k {row n mi : Int32} {T M : Nat → Int32} (h : 1 ≤ n.toInt ∧ n.toInt ≤ 4) (t : twI (rmW row) 8 n.toInt T) (m : twI (mnW mi) 99 n.toInt M) : okJ row n mi := ⟨h, fun j hj => by have := t j hj; rw [this.1] at this; exact this.2, fun j hj => by have := m j hj; rw [this.1] at this; have := this.2; omega⟩
set_option maxHeartbeats 4000000 in
set_option maxRecDepth 100000 in
theorem k_X1_strengthBehind3 (l : Launch) (dC : Nat → ClassId) (dI : Nat → Nat → Nat) (cI cZ cQ : ClassId) (a : Nat → Nat) (top : Nat → Int32) (str : Nat → Int32) (gho : Nat → Int32) (ghs : Nat → Int32) (pto : Nat → Int32) (cro : Nat → Int32) (pla : Nat → Int32) (wal : Nat → Int32) (fal : Nat → Int32) (tel : Int32) (gai : Int32) (day : Int32) (mar : Nat → Int32) (co : Int32) (n : Int32) (wd : Int32) (r_top : rg 48 (-1) (23) top) (r_str : rg 48 (0) (100) str) (r_gho : rg 48 (-1) (23) gho) (r_ghs : rg 48 (0) (100) ghs) (r_cro : rg 48 (0) (6) cro) (r_pla : rg 24 (-1) (47) pla) (r_fal : rg 11 (0) (30) fal) (r_gai : 0 ≤ gai.toInt ∧ gai.toInt ≤ 100) (r_day : 0 ≤ day.toInt ∧ day.toInt ≤ 400) (r_mar : rg 24 (0) (255) mar) (q0 : 0 ≤ co.toInt) (q1 : co.toInt ≤ 47) (q2 : 0 ≤ n.toInt) (q3 : n.toInt ≤ 60) : KR l yX1_strengthBehind wsX1_strengthBehind { frames := 2, cells := 0, slots := 0, locals := 46 } (dC, dI) (TY cI cZ cQ) (wCor cI cZ cQ a top str gho ghs pto cro pla wal fal tel gai day mar) [.ref (a 4), .int co, .int n, .int wd] (fun r : Int32 => (0 ≤ r.toInt) ∧ (r.toInt ≤ 100) ∧ (r.toInt = svF fal (cro co.toNatClampNeg).toInt gai.toInt (bitW wd) (str co.toNatClampNeg).toInt n.toInt.toNat)) := by
  refine Met.ofW (cc := cX1_strengthBehind) (maxL := 6) (ret := (some .int)) (by decide) rfl ?_
  intro p e s m args below meth c s₁ B hml hv
  obtain ⟨rfl, hP, hK, hN⟩ := hv
  have hx := B.exec
  have hb := B.bytes
  have hr := B.returns
  have hts := atoms_spec (ws := wsX1_strengthBehind) B.pre
  have hown : s.vm.findClass RX1 = some m.cls := findClass_of_methodNamed B.named
  have hlocks := B.notSynchronized
  have lf15 := hts (.fieldLink RX1 15 "PalaceOfRooms$Corners" "strength" "[I") (List.mem_cons_of_mem _ (List.mem_append_left _ (List.mem_of_getElem? (i := 0) rfl)))
  have inX1 : ∀ w ∈ wsX10, w ∈ wsX1_strengthBehind := fun w h => List.mem_cons_of_mem _ (List.mem_append_right _ h)
  have lf27 := hts (.fieldLink RX1 27 "PalaceOfRooms$Corners" "crowd" "[I") (List.mem_cons_of_mem _ (List.mem_append_left _ (List.mem_of_getElem? (i := 1) rfl)))
  have hl := lv_entry ([.ref (a 4), .int co, .int n, .int wd]) (n := 6) (Nat.le_of_ble_eq_true rfl)
  rw [lg_entry_eq]
  generalize (lg_sl ([.ref (a 4), .int co, .int n, .int wd]) ++ List.replicate (6 - (lg_sl ([.ref (a 4), .int co, .int n, .int wd])).length) Slot.unset).toArray = ls at hl ⊢
  have hl : lv_has ls 6 [(0, .ref (a 4)), (1, .int co), (2, .int n), (3, .int wd)] := hl
  refine lv_aload_n hx hb dX1_strengthBehind_0 rfl (lv_at hl 0 rfl) ?_
  refine va_get (D := (dC, dI)) (ci := 1) (v := .ref (a 6)) (C := RX1) (T := TX1) (N := 13) hx hb hts inX1 hown hK hP 0 rfl rfl 2 (by decide) lf15 (fun _ h9 => h9) rfl dX1_strengthBehind_1 ?_
  refine lv_iload_n hx hb dX1_strengthBehind_4 rfl (lv_at hl 1 rfl) ?_
  have b1 : vp_in co 48 := inC rfl (by omega) (by omega)
  refine va_iald hx hb hK hP 2 0 rfl rfl b1 dX1_strengthBehind_5 ?_
  have g2 : 0 ≤ (str co.toNatClampNeg).toInt ∧ (str co.toNatClampNeg).toInt ≤ 100 := rg_at r_str b1
  refine lv_topi (fun x3 ex3 => ?_)
  have ix3 : x3.toInt = (str co.toNatClampNeg).toInt := by rw [ex3]
  refine lv_istore (lv' := [(4, .int x3), (0, .ref (a 4)), (1, .int co), (2, .int n), (3, .int wd)]) hx hb dX1_strengthBehind_6 hl (by decide) rfl (fun ls hl => ?_)
  refine lv_iconst (v := 0) hx hb dX1_strengthBehind_8 (by decide) ?_
  refine lv_istore (lv' := [(5, .int 0), (4, .int x3), (0, .ref (a 4)), (1, .int co), (2, .int n), (3, .int wd)]) hx hb dX1_strengthBehind_9 hl (by decide) rfl (fun ls hl => ?_)
  have L11 : ∀ (nn : Nat) (y11_4 : Int32) (y11_5 : Int32) (ls : Array Slot), (0 ≤ (y11_5.toInt)) → ((y11_5.toInt) ≤ 60) → (0 ≤ (y11_4.toInt)) → ((y11_4.toInt) ≤ 100) → ((y11_4.toInt) = svF fal (cro co.toNatClampNeg).toInt gai.toInt (bitW wd) (str co.toNatClampNeg).toInt ((y11_5.toInt)).toNat) → ((y11_5.toInt) ≤ n.toInt) → (60 - (y11_5.toInt)).toNat < nn → lv_has ls 6 [(0, .ref (a 4)), (1, .int co), (2, .int n), (3, .int wd), (4, .int y11_4), (5, .int y11_5)] → W p l e (headSpec wsX1_strengthBehind { frames := 2, cells := 0, slots := 0, locals := 46 }).room s m ([.ref (a 4), .int co, .int n, .int wd] : List Value).toArray below meth c s.heap [] 0 0 (MQ below (QR (fun r : Int32 => (0 ≤ r.toInt) ∧ (r.toInt ≤ 100) ∧ (r.toInt = svF fal (cro co.toNatClampNeg).toInt gai.toInt (bitW wd) (str co.toNatClampNeg).toInt n.toInt.toNat))) ([.ref (a 4), .int co, .int n, .int wd] : List Value).toArray s 0 0 (fun _ => False)) (F0 m 11 ls []) := by
    intro nn
    induction nn with
    | zero =>
      intro y11_4 y11_5 ls i11_0 i11_1 i11_2 i11_3 i11_4 i11_5 hm11
      exact absurd hm11 (Nat.not_lt_zero _)
    | succ nn ih11 =>
      intro y11_4 y11_5 ls i11_0 i11_1 i11_2 i11_3 i11_4 i11_5 hm11 hl
      refine lv_iload hx hb dX1_strengthBehind_11 (lv_at hl 5 rfl) ?_
      refine lv_iload_n hx hb dX1_strengthBehind_13 rfl (lv_at hl 2 rfl) ?_
      refine lv_icmp_ge (tgt := 58) hx hb dX1_strengthBehind_14 (by decide) (fun c4 => ?_) (fun c4 => ?_)
      · have dc4 : n.toInt ≤ y11_5.toInt := leC rfl rfl c4
        refine lv_iload hx hb dX1_strengthBehind_58 (lv_at hl 4 rfl) ?_
        exact W.iret (v := y11_4) hx hb hr (fun tq ht hW => ⟨y11_4, rfl, ⟨(show 0 ≤ y11_4.toInt from by omega), (show y11_4.toInt ≤ 100 from by omega), (show y11_4.toInt = svF fal (cro co.toNatClampNeg).toInt gai.toInt (bitW wd) (str co.toNatClampNeg).toInt n.toInt.toNat from by exact sv_e i11_4 (by omega))⟩, ht⟩) (fun q h => by cases h) dX1_strengthBehind_60
      · have dc4 : y11_5.toInt < n.toInt := nleC rfl rfl c4
        refine lv_iload_n hx hb dX1_strengthBehind_17 rfl (lv_at hl 3 rfl) ?_
        refine lv_iload hx hb dX1_strengthBehind_18 (lv_at hl 5 rfl) ?_
        refine lv_ishr hx hb dX1_strengthBehind_20 ?_
        refine lv_iconst (v := 1) hx hb dX1_strengthBehind_21 (by decide) ?_
        refine lv_iand hx hb dX1_strengthBehind_22 ?_
        have f5 := andR (a := (wd >>> (y11_5 &&& 31))) (m := 1) (M := 1) rfl (by decide)
        refine lv_iconst (v := 1) hx hb dX1_strengthBehind_23 (by decide) ?_
        refine lv_icmp_ne (tgt := 38) hx hb dX1_strengthBehind_24 (by decide) (fun c6 => ?_) (fun c6 => ?_)
        · have dc6 : ((wd >>> (y11_5 &&& 31)) &&& 1).toInt ≤ 0 := ka_hi (by omega) (neC rfl (show (1 : Int32).toInt = 1 from rfl) c6)
          refine lv_aload_n hx hb dX1_strengthBehind_38 rfl (lv_at hl 0 rfl) ?_
          refine lv_iload hx hb dX1_strengthBehind_39 (lv_at hl 4 rfl) ?_
          refine lv_aload_n hx hb dX1_strengthBehind_41 rfl (lv_at hl 0 rfl) ?_
          refine va_get (D := (dC, dI)) (ci := 1) (v := .ref (a 10)) (C := RX1) (T := TX1) (N := 13) hx hb hts inX1 hown hK hP 0 rfl rfl 6 (by decide) lf27 (fun _ h9 => h9) rfl dX1_strengthBehind_42 ?_
          refine lv_iload_n hx hb dX1_strengthBehind_45 rfl (lv_at hl 1 rfl) ?_
          have b7 : vp_in co 48 := inC rfl (by omega) (by omega)
          refine va_iald hx hb hK hP 6 0 rfl rfl b7 dX1_strengthBehind_46 ?_
          have g8 : 0 ≤ (cro co.toNatClampNeg).toInt ∧ (cro co.toNatClampNeg).toInt ≤ 6 := rg_at r_cro b7
          refine rdV (As := [.int y11_4, .int (cro co.toNatClampNeg)]) (rest := []) ⟨hx, hb, hml, hown, hts⟩ (k_X1_fallen2 l dC dI cI cZ cQ a top str gho ghs pto cro pla wal fal tel gai day mar y11_4 (cro co.toNatClampNeg) r_top r_str r_gho r_ghs r_cro r_pla r_fal r_gai r_day r_mar (by omega) (by omega) (by omega) (by omega)) (cwV 2 hts gX1_strengthBehind_X1_fallen rfl rfl rfl (by decide +kernel) ⟨Nat.le_of_ble_eq_true rfl, Nat.le_of_ble_eq_true rfl⟩) hP hK hN [0, 1, 2, 3, 4, 5, 6, 7, 8, 9, 10, 11] rfl 0 1 rfl rfl rfl hl.1 rfl (Nat.le_of_ble_eq_true rfl) dX1_strengthBehind_47 ⟨Nat.le_of_ble_eq_true rfl, Nat.le_of_ble_eq_true rfl⟩ (fun r9 h10 => ?_)
          have h10 : (0 ≤ r9.toInt) ∧ (r9.toInt ≤ y11_4.toInt) ∧ (r9.toInt ≤ 100) ∧ (r9.toInt = fl fal y11_4.toInt (cro co.toNatClampNeg).toInt) := h10
          obtain ⟨h10_0, h10_1, h10_2, h10_3⟩ := h10
          refine lv_istore (lv' := [(4, .int r9), (0, .ref (a 4)), (1, .int co), (2, .int n), (3, .int wd), (5, .int y11_5)]) hx hb dX1_strengthBehind_50 hl (by decide) rfl (fun ls hl => ?_)
          obtain ⟨z11, ez11⟩ : ∃ y : Int32, y = y11_5 + 1 := ⟨_, rfl⟩
          have iz11 : z11.toInt = y11_5.toInt + 1 := by rw [ez11]; exact addC rfl rfl (by omega) (by omega)
          refine lv_iinc (v := z11) (lv' := [(5, .int z11), (4, .int r9), (0, .ref (a 4)), (1, .int co), (2, .int n), (3, .int wd)]) hx hb dX1_strengthBehind_52 hl (k := 5) rfl (by rw [ez11]; rfl) (by decide) rfl (fun ls hl => ?_)
          refine lv_goto (tgt := 11) hx hb dX1_strengthBehind_55 (by decide) ?_
          exact ih11 r9 z11 _ (by omega) (by omega) (by omega) (by omega) (by (first | exact sv_y i11_4 (bw_y (by assumption) (by omega)) (by assumption) (by assumption) (by omega) (by omega) | exact sv_n i11_4 (bw_n (by assumption) (by omega)) (by assumption) (by omega) | exact sv_0 (by first | rfl | omega) (by first | rfl | omega))) (by omega) (by omega) (lv_sub hl [2, 3, 4, 5, 1, 0] rfl)
        · have dc6 : ((wd >>> (y11_5 &&& 31)) &&& 1).toInt = 1 := eqC rfl (show (1 : Int32).toInt = 1 from rfl) c6
          refine lv_iload hx hb dX1_strengthBehind_27 (lv_at hl 4 rfl) ?_
          refine lv_aload_n hx hb dX1_strengthBehind_29 rfl (lv_at hl 0 rfl) ?_
          refine lv_iload hx hb dX1_strengthBehind_30 (lv_at hl 4 rfl) ?_
          refine rdV (As := [.int y11_4]) (rest := [.int y11_4]) ⟨hx, hb, hml, hown, hts⟩ (k_X1_gainOf2 l dC dI cI cZ cQ a top str gho ghs pto cro pla wal fal tel gai day mar y11_4 r_top r_str r_gho r_ghs r_cro r_pla r_fal r_gai r_day r_mar (by omega) (by omega)) (cwV 1 hts gX1_strengthBehind_X1_gainOf rfl rfl rfl (by decide +kernel) ⟨Nat.le_of_ble_eq_true rfl, Nat.le_of_ble_eq_true rfl⟩) hP hK hN [0, 1, 2, 3, 4, 5, 6, 7, 8, 9, 10, 11] rfl 0 1 rfl rfl rfl hl.1 rfl (Nat.le_of_ble_eq_true rfl) dX1_strengthBehind_32 ⟨Nat.le_of_ble_eq_true rfl, Nat.le_of_ble_eq_true rfl⟩ (fun r12 h13 => ?_)
          have h13 : (0 ≤ r12.toInt) ∧ (r12.toInt ≤ 100 - y11_4.toInt) ∧ (r12.toInt ≤ 100) ∧ (r12.toInt = gn gai.toInt y11_4.toInt) := h13
          obtain ⟨h13_0, h13_1, h13_2, h13_3⟩ := h13
          refine lv_iadd hx hb dX1_strengthBehind_35 ?_
          have f14 : (y11_4 + r12).toInt = (y11_4.toInt) + (r12.toInt) := addC rfl rfl (by omega) (by omega)
          refine lv_topi (fun x15 ex15 => ?_)
          have ix15 : x15.toInt = (y11_4.toInt) + (r12.toInt) := by rw [ex15]; exact f14
          refine lv_istore (lv' := [(4, .int x15), (0, .ref (a 4)), (1, .int co), (2, .int n), (3, .int wd), (5, .int y11_5)]) hx hb dX1_strengthBehind_36 hl (by decide) rfl (fun ls hl => ?_)
          refine lv_aload_n hx hb dX1_strengthBehind_38 rfl (lv_at hl 1 rfl) ?_
          refine lv_iload hx hb dX1_strengthBehind_39 (lv_at hl 0 rfl) ?_
          refine lv_aload_n hx hb dX1_strengthBehind_41 rfl (lv_at hl 1 rfl) ?_
          refine va_get (D := (dC, dI)) (ci := 1) (v := .ref (a 10)) (C := RX1) (T := TX1) (N := 13) hx hb hts inX1 hown hK hP 0 rfl rfl 6 (by decide) lf27 (fun _ h9 => h9) rfl dX1_strengthBehind_42 ?_
          refine lv_iload_n hx hb dX1_strengthBehind_45 rfl (lv_at hl 2 rfl) ?_
          have b16 : vp_in co 48 := inC rfl (by omega) (by omega)
          refine va_iald hx hb hK hP 6 0 rfl rfl b16 dX1_strengthBehind_46 ?_
          have g17 : 0 ≤ (cro co.toNatClampNeg).toInt ∧ (cro co.toNatClampNeg).toInt ≤ 6 := rg_at r_cro b16
          refine rdV (As := [.int x15, .int (cro co.toNatClampNeg)]) (rest := []) ⟨hx, hb, hml, hown, hts⟩ (k_X1_fallen2 l dC dI cI cZ cQ a top str gho ghs pto cro pla wal fal tel gai day mar x15 (cro co.toNatClampNeg) r_top r_str r_gho r_ghs r_cro r_pla r_fal r_gai r_day r_mar (by omega) (by omega) (by omega) (by omega)) (cwV 2 hts gX1_strengthBehind_X1_fallen rfl rfl rfl (by decide +kernel) ⟨Nat.le_of_ble_eq_true rfl, Nat.le_of_ble_eq_true rfl⟩) hP hK hN [0, 1, 2, 3, 4, 5, 6, 7, 8, 9, 10, 11] rfl 0 1 rfl rfl rfl hl.1 rfl (Nat.le_of_ble_eq_true rfl) dX1_strengthBehind_47 ⟨Nat.le_of_ble_eq_true rfl, Nat.le_of_ble_eq_true rfl⟩ (fun r18 h19 => ?_)
          have h19 : (0 ≤ r18.toInt) ∧ (r18.toInt ≤ x15.toInt) ∧ (r18.toInt ≤ 100) ∧ (r18.toInt = fl fal x15.toInt (cro co.toNatClampNeg).toInt) := h19
          obtain ⟨h19_0, h19_1, h19_2, h19_3⟩ := h19
          refine lv_istore (lv' := [(4, .int r18), (0, .ref (a 4)), (1, .int co), (2, .int n), (3, .int wd), (5, .int y11_5)]) hx hb dX1_strengthBehind_50 hl (by decide) rfl (fun ls hl => ?_)
          obtain ⟨z20, ez20⟩ : ∃ y : Int32, y = y11_5 + 1 := ⟨_, rfl⟩
          have iz20 : z20.toInt = y11_5.toInt + 1 := by rw [ez20]; exact addC rfl rfl (by omega) (by omega)
          refine lv_iinc (v := z20) (lv' := [(5, .int z20), (4, .int r18), (0, .ref (a 4)), (1, .int co), (2, .int n), (3, .int wd)]) hx hb dX1_strengthBehind_52 hl (k := 5) rfl (by rw [ez20]; rfl) (by decide) rfl (fun ls hl => ?_)
          refine lv_goto (tgt := 11) hx hb dX1_strengthBehind_55 (by decide) ?_
          exact ih11 r18 z20 _ (by omega) (by omega) (by omega) (by omega) (by (first | exact sv_y i11_4 (bw_y (by assumption) (by omega)) (by assumption) (by assumption) (by omega) (by omega) | exact sv_n i11_4 (bw_n (by assumption) (by omega)) (by assumption) (by omega) | exact sv_0 (by first | rfl | omega) (by first | rfl | omega))) (by omega) (by omega) (lv_sub hl [2, 3, 4, 5, 1, 0] rfl)
  have kc21 : (0 : Int32).toInt = 0 := rfl
  exact L11 _ x3 0 _ (by omega) (by omega) (by omega) (by omega) (by (first | exact sv_y i11_4 (bw_y (by assumption) (by omega)) (by assumption) (by assumption) (by omega) (by omega) | exact sv_n i11_4 (bw_n (by assumption) (by omega)) (by assumption) (by omega) | exact sv_0 (by first | rfl | omega) (by first | rfl | omega))) (by omega) (Nat.lt_succ_self _) (lv_sub hl [2, 3, 4, 5, 1, 0] rfl)
set_option maxHeartbeats 4000000 in
set_option maxRecDepth 100000 in
theorem k_X3_takeRooms2 (l : Launch) (dC : Nat → ClassId) (dI : Nat → Nat → Nat) (cI cZ cQ : ClassId) (a : Nat → Nat) (min : Nat → Int32) (tri : Nat → Int32) (bes : Nat → Int32) (wkd : Nat → Int32) (cos : Nat → Int32) (rst : Nat → Int32) (bst : Int32) (top : Nat → Int32) (str : Nat → Int32) (gho : Nat → Int32) (ghs : Nat → Int32) (pto : Nat → Int32) (cro : Nat → Int32) (pla : Nat → Int32) (wal : Nat → Int32) (fal : Nat → Int32) (tel : Int32) (gai : Int32) (day : Int32) (mar : Nat → Int32) (few : Nat → Int32) (doo : Int32) (sz : Nat) (rw : Int32) (n : Int32) (r_wkd : rg 8 (0) (15) wkd) (r_top : rg 48 (-1) (23) top) (r_str : rg 48 (0) (100) str) (r_gho : rg 48 (-1) (23) gho) (r_ghs : rg 48 (0) (100) ghs) (r_cro : rg 48 (0) (6) cro) (r_pla : rg 24 (-1) (47) pla) (r_fal : rg 11 (0) (30) fal) (r_gai : 0 ≤ gai.toInt ∧ gai.toInt ≤ 100) (r_day : 0 ≤ day.toInt ∧ day.toInt ≤ 400) (r_mar : rg 24 (0) (255) mar) (q0 : 1 ≤ n.toInt) (q1 : n.toInt ≤ 4) : KW l yX3_takeRooms wsX3_takeRooms { frames := 0, cells := 0, slots := 0, locals := 0 } (dC, dI) (TY cI cZ cQ) (wPln cI cZ cQ a min tri bes wkd cos rst bst top str gho ghs pto cro pla wal fal tel gai day mar few doo) [.ref (a 16), .int rw, .int n] sz 0 0 (fun (r : Int32) (u : US) => ((((r = 1) ∧ (twI (rmW rw) 8 n.toInt (u.1 0))) ∨ ((r = 0) ∧ (∃ j : Nat, (j : Int) < n.toInt ∧ 8 < (rmW rw j).toInt))))) (fun u : US => (wPln cI cZ cQ a min (u.1 0) bes wkd cos rst bst top str gho ghs pto cro pla wal fal tel gai day mar few doo)) := by
  refine Met.ofW (cc := cX3_takeRooms) (maxL := 4) (ret := (some .boolean)) (by decide) rfl ?_
  intro p e s m args below meth c s₁ B hml hv
  obtain ⟨rfl, hsz, hP, hK, hD0, hN⟩ := hv
  have hx := B.exec
  have hb := B.bytes
  have hr := B.returns
  have hts := atoms_spec (ws := wsX3_takeRooms) B.pre
  have hown : s.vm.findClass RX3 = some m.cls := findClass_of_methodNamed B.named
  have hlocks := B.notSynchronized
  have lf15 := hts (.fieldLink RX3 15 "PalaceOfRooms$Planner" "trial" "[I") (List.mem_cons_of_mem _ (List.mem_append_left _ (List.mem_of_getElem? (i := 0) rfl)))
  have inX3 : ∀ w ∈ wsX30, w ∈ wsX3_takeRooms := fun w h => List.mem_cons_of_mem _ (List.mem_append_right _ h)
  subst hsz
  have hD := hD0.self (sz := s.heap.size)
  generalize hAe : va_A (wPln cI cZ cQ a min tri bes wkd cos rst bst top str gho ghs pto cro pla wal fal tel gai day mar few doo) s.heap.size = A at hD ⊢
  have hA : ∀ q : Nat, s.heap.size ≤ q → A q := fun q h => by rw [← hAe]; exact Or.inr h
  have hS : va_S A s.heap s.heap [] := va_S.rf
  have hl := lv_entry ([.ref (a 16), .int rw, .int n]) (n := 4) (Nat.le_of_ble_eq_true rfl)
  rw [lg_entry_eq]
  generalize (lg_sl ([.ref (a 16), .int rw, .int n]) ++ List.replicate (4 - (lg_sl ([.ref (a 16), .int rw, .int n])).length) Slot.unset).toArray = ls at hl ⊢
  have hl : lv_has ls 4 [(0, .ref (a 16)), (1, .int rw), (2, .int n)] := hl
  refine lv_iconst (v := 0) hx hb dX3_takeRooms_0 (by decide) ?_
  refine lv_istore_n (lv' := [(3, .int 0), (0, .ref (a 16)), (1, .int rw), (2, .int n)]) hx hb dX3_takeRooms_1 rfl hl (by decide) rfl (fun ls hl => ?_)
  have L2 : ∀ (nn : Nat) (y2_3 : Int32) (tri_2 : Nat → Int32) (H : Heap) (locs : List Loc) (ls : Array Slot), (0 ≤ (y2_3.toInt)) → ((y2_3.toInt) ≤ 4) → (twI (rmW rw) 8 (y2_3.toInt) tri_2) → ((y2_3.toInt) ≤ n.toInt) → (4 - (y2_3.toInt)).toNat < nn → va_P (dC, dI) vwCl (wPln cI cZ cQ a min tri_2 bes wkd cos rst bst top str gho ghs pto cro pla wal fal tel gai day mar few doo) H → va_D A (wPln cI cZ cQ a min tri_2 bes wkd cos rst bst top str gho ghs pto cro pla wal fal tel gai day mar few doo) → va_S A s.heap H locs → lv_has ls 4 [(0, .ref (a 16)), (1, .int rw), (2, .int n), (3, .int y2_3)] → W p l e (headSpec wsX3_takeRooms { frames := 0, cells := 0, slots := 0, locals := 0 }).room s m ([.ref (a 16), .int rw, .int n] : List Value).toArray below meth c H locs 0 0 (MQ below (va_Qi (fun (r : Int32) (u : US) => ((((r = 1) ∧ (twI (rmW rw) 8 n.toInt (u.1 0))) ∨ ((r = 0) ∧ (∃ j : Nat, (j : Int) < n.toInt ∧ 8 < (rmW rw j).toInt))))) (Bw (dC, dI) A (fun u : US => (wPln cI cZ cQ a min (u.1 0) bes wkd cos rst bst top str gho ghs pto cro pla wal fal tel gai day mar few doo))) A) ([.ref (a 16), .int rw, .int n] : List Value).toArray s 0 0 A) (F0 m 2 ls []) := by
    intro nn
    induction nn with
    | zero =>
      intro y2_3 tri_2 H locs ls i2_0 i2_1 i2_2 i2_3 hm2
      exact absurd hm2 (Nat.not_lt_zero _)
    | succ nn ih2 =>
      intro y2_3 tri_2 H locs ls i2_0 i2_1 i2_2 i2_3 hm2 hP hD hS hl
      refine lv_iload_n hx hb dX3_takeRooms_2 rfl (lv_at hl 3 rfl) ?_
      refine lv_iload_n hx hb dX3_takeRooms_3 rfl (lv_at hl 2 rfl) ?_
      refine lv_icmp_ge (tgt := 40) hx hb dX3_takeRooms_4 (by decide) (fun c1 => ?_) (fun c1 => ?_)
      · have dc1 : n.toInt ≤ y2_3.toInt := leC rfl rfl c1
        refine lv_iconst (v := 1) hx hb dX3_takeRooms_40 (by decide) ?_
        exact W.zret (v := 1) hx hb hr (by decide) (fun tq ht hW => ⟨⟨1, (uS [tri_2] 0 (fun _ => 0)), rfl, (Or.inl (⟨rfl, (show twI (rmW rw) 8 n.toInt tri_2 from by (try rw [show (1 : Int32).toInt = 1 from (show (1 : Int32).toInt = 1 from rfl)]); (first | exact ti_c i2_2 (by omega) | exact tk_no (rm_at (y := y2_3) (by assumption) (by omega)) (by omega) (by omega)))⟩)), by rw [ht]; exact hP, hD⟩, hS.F ht⟩) hS.2.2 dX3_takeRooms_41
      · have dc1 : y2_3.toInt < n.toInt := nleC rfl rfl c1
        refine lv_aload_n hx hb dX3_takeRooms_7 rfl (lv_at hl 0 rfl) ?_
        refine va_get (D := (dC, dI)) (ci := 3) (v := .ref (a 18)) (C := RX3) (T := TX3) (N := 9) hx hb hts inX3 hown hK hP 0 rfl rfl 3 (by decide) lf15 (fun _ h9 => h9) rfl dX3_takeRooms_8 ?_
        refine lv_iload_n hx hb dX3_takeRooms_11 rfl (lv_at hl 3 rfl) ?_
        refine lv_iload_n hx hb dX3_takeRooms_12 rfl (lv_at hl 1 rfl) ?_
        refine lv_iconst (v := 4) hx hb dX3_takeRooms_13 (by decide) ?_
        refine lv_iload_n hx hb dX3_takeRooms_14 rfl (lv_at hl 3 rfl) ?_
        refine lv_imul hx hb dX3_takeRooms_15 ?_
        have f2 : (4 * y2_3).toInt = (4) * (y2_3.toInt) := mulC (show (4 : Int32).toInt = 4 from rfl) rfl (by omega) (by omega)
        refine lv_ishr hx hb dX3_takeRooms_16 ?_
        refine lv_bipush (v := 15) hx hb dX3_takeRooms_17 (by decide) ?_
        refine lv_iand hx hb dX3_takeRooms_19 ?_
        have f3 := andR (a := (rw >>> ((4 * y2_3) &&& 31))) (m := 15) (M := 15) rfl (by decide)
        refine lv_topi (fun x4 ex4 => ?_)
        have ix4 : x4.toInt = ((rw >>> ((4 * y2_3) &&& 31)) &&& 15).toInt := by rw [ex4]
        have b5 : vp_in y2_3 4 := inC rfl (by omega) (by omega)
        refine va_iast hx hb hK hP hD hS 2 0 rfl rfl b5 dX3_takeRooms_20 (fun H locs hP hD hS => ?_)
        obtain ⟨tri_u6, etri_u6⟩ : ∃ f : Nat → Int32, f = upd tri_2 y2_3.toNatClampNeg x4 := ⟨_, rfl⟩
        have hP : va_P (dC, dI) vwCl (wPln cI cZ cQ a min tri_u6 bes wkd cos rst bst top str gho ghs pto cro pla wal fal tel gai day mar few doo) H := by rw [etri_u6]; exact hP
        have hD : va_D A (wPln cI cZ cQ a min tri_u6 bes wkd cos rst bst top str gho ghs pto cro pla wal fal tel gai day mar few doo) := by rw [etri_u6]; exact hD
        refine lv_aload_n hx hb dX3_takeRooms_21 rfl (lv_at hl 0 rfl) ?_
        refine va_get (D := (dC, dI)) (ci := 3) (v := .ref (a 18)) (C := RX3) (T := TX3) (N := 9) hx hb hts inX3 hown hK hP 0 rfl rfl 3 (by decide) lf15 (fun _ h9 => h9) rfl dX3_takeRooms_22 ?_
        refine lv_iload_n hx hb dX3_takeRooms_25 rfl (lv_at hl 3 rfl) ?_
        have b7 : vp_in y2_3 4 := inC rfl (by omega) (by omega)
        refine va_iald hx hb hK hP 2 0 rfl rfl b7 dX3_takeRooms_26 ?_
        have o8 : (tri_u6 y2_3.toNatClampNeg).toInt = x4.toInt := by rw [etri_u6, pk_us]
        refine lv_bipush (v := 8) hx hb dX3_takeRooms_27 (by decide) ?_
        refine lv_icmp_le (tgt := 34) hx hb dX3_takeRooms_29 (by decide) (fun c9 => ?_) (fun c9 => ?_)
        · have dc9 : (tri_u6 y2_3.toNatClampNeg).toInt ≤ 8 := leC rfl (show (8 : Int32).toInt = 8 from rfl) c9
          obtain ⟨z10, ez10⟩ : ∃ y : Int32, y = y2_3 + 1 := ⟨_, rfl⟩
          have iz10 : z10.toInt = y2_3.toInt + 1 := by rw [ez10]; exact addC rfl rfl (by omega) (by omega)
          refine lv_iinc (v := z10) (lv' := [(3, .int z10), (0, .ref (a 16)), (1, .int rw), (2, .int n)]) hx hb dX3_takeRooms_34 hl (k := 3) rfl (by rw [ez10]; rfl) (by decide) rfl (fun ls hl => ?_)
          refine lv_goto (tgt := 2) hx hb dX3_takeRooms_37 (by decide) ?_
          exact ih2 z10 tri_u6 _ _ _ (by omega) (by omega) (by (first | exact ti_s i2_2 (by assumption) (rm_at (by assumption) (by omega)) (by omega) (by omega) (by omega) | exact ti_0 (by first | rfl | omega))) (by omega) (by omega) hP hD hS (lv_sub hl [1, 2, 3, 0] rfl)
        · have dc9 : 8 < (tri_u6 y2_3.toNatClampNeg).toInt := nleC rfl (show (8 : Int32).toInt = 8 from rfl) c9
          refine lv_iconst (v := 0) hx hb dX3_takeRooms_32 (by decide) ?_
          exact W.zret (v := 0) hx hb hr (by decide) (fun tq ht hW => ⟨⟨0, (uS [tri_u6] 0 (fun _ => 0)), rfl, (Or.inr (⟨rfl, (show ∃ j : Nat, (j : Int) < n.toInt ∧ 8 < (rmW rw j).toInt from by (try rw [show (0 : Int32).toInt = 0 from (show (0 : Int32).toInt = 0 from rfl)]); (first | exact ti_c i2_2 (by omega) | exact tk_no (rm_at (y := y2_3) (by assumption) (by omega)) (by omega) (by omega)))⟩)), by rw [ht]; exact hP, hD⟩, hS.F ht⟩) hS.2.2 dX3_takeRooms_33
  have kc11 : (0 : Int32).toInt = 0 := rfl
  exact L2 _ 0 tri _ _ _ (by omega) (by omega) (by (first | exact ti_s i2_2 (by assumption) (rm_at (by assumption) (by omega)) (by omega) (by omega) (by omega) | exact ti_0 (by first | rfl | omega))) (by omega) (Nat.lt_succ_self _) hP hD hS (lv_sub hl [1, 2, 3, 0] rfl)
set_option maxHeartbeats 4000000 in
set_option maxRecDepth 100000 in
theorem k_X3_takeMinutes2 (l : Launch) (dC : Nat → ClassId) (dI : Nat → Nat → Nat) (cI cZ cQ : ClassId) (a : Nat → Nat) (min : Nat → Int32) (tri : Nat → Int32) (bes : Nat → Int32) (wkd : Nat → Int32) (cos : Nat → Int32) (rst : Nat → Int32) (bst : Int32) (top : Nat → Int32) (str : Nat → Int32) (gho : Nat → Int32) (ghs : Nat → Int32) (pto : Nat → Int32) (cro : Nat → Int32) (pla : Nat → Int32) (wal : Nat → Int32) (fal : Nat → Int32) (tel : Int32) (gai : Int32) (day : Int32) (mar : Nat → Int32) (few : Nat → Int32) (doo : Int32) (sz : Nat) (rw : Int32) (n : Int32) (r_wkd : rg 8 (0) (15) wkd) (r_top : rg 48 (-1) (23) top) (r_str : rg 48 (0) (100) str) (r_gho : rg 48 (-1) (23) gho) (r_ghs : rg 48 (0) (100) ghs) (r_cro : rg 48 (0) (6) cro) (r_pla : rg 24 (-1) (47) pla) (r_fal : rg 11 (0) (30) fal) (r_gai : 0 ≤ gai.toInt ∧ gai.toInt ≤ 100) (r_day : 0 ≤ day.toInt ∧ day.toInt ≤ 400) (r_mar : rg 24 (0) (255) mar) (q0 : 1 ≤ n.toInt) (q1 : n.toInt ≤ 4) : KW l yX3_takeMinutes wsX3_takeMinutes { frames := 0, cells := 0, slots := 0, locals := 0 } (dC, dI) (TY cI cZ cQ) (wPln cI cZ cQ a min tri bes wkd cos rst bst top str gho ghs pto cro pla wal fal tel gai day mar few doo) [.ref (a 16), .int rw, .int n] sz 0 0 (fun (r : Int32) (u : US) => ((((r = 1) ∧ (twI (mnW rw) 99 n.toInt (u.1 0))) ∨ ((r = 0) ∧ (∃ j : Nat, (j : Int) < n.toInt ∧ 99 < (mnW rw j).toInt))))) (fun u : US => (wPln cI cZ cQ a (u.1 0) tri bes wkd cos rst bst top str gho ghs pto cro pla wal fal tel gai day mar few doo)) := by
  refine Met.ofW (cc := cX3_takeMinutes) (maxL := 4) (ret := (some .boolean)) (by decide) rfl ?_
  intro p e s m args below meth c s₁ B hml hv
  obtain ⟨rfl, hsz, hP, hK, hD0, hN⟩ := hv
  have hx := B.exec
  have hb := B.bytes
  have hr := B.returns
  have hts := atoms_spec (ws := wsX3_takeMinutes) B.pre
  have hown : s.vm.findClass RX3 = some m.cls := findClass_of_methodNamed B.named
  have hlocks := B.notSynchronized
  have lf9 := hts (.fieldLink RX3 9 "PalaceOfRooms$Planner" "minutesOf" "[I") (List.mem_cons_of_mem _ (List.mem_append_left _ (List.mem_of_getElem? (i := 0) rfl)))
  have inX3 : ∀ w ∈ wsX30, w ∈ wsX3_takeMinutes := fun w h => List.mem_cons_of_mem _ (List.mem_append_right _ h)
  subst hsz
  have hD := hD0.self (sz := s.heap.size)
  generalize hAe : va_A (wPln cI cZ cQ a min tri bes wkd cos rst bst top str gho ghs pto cro pla wal fal tel gai day mar few doo) s.heap.size = A at hD ⊢
  have hA : ∀ q : Nat, s.heap.size ≤ q → A q := fun q h => by rw [← hAe]; exact Or.inr h
  have hS : va_S A s.heap s.heap [] := va_S.rf
  have hl := lv_entry ([.ref (a 16), .int rw, .int n]) (n := 4) (Nat.le_of_ble_eq_true rfl)
  rw [lg_entry_eq]
  generalize (lg_sl ([.ref (a 16), .int rw, .int n]) ++ List.replicate (4 - (lg_sl ([.ref (a 16), .int rw, .int n])).length) Slot.unset).toArray = ls at hl ⊢
  have hl : lv_has ls 4 [(0, .ref (a 16)), (1, .int rw), (2, .int n)] := hl
  refine lv_iconst (v := 0) hx hb dX3_takeMinutes_0 (by decide) ?_
  refine lv_istore_n (lv' := [(3, .int 0), (0, .ref (a 16)), (1, .int rw), (2, .int n)]) hx hb dX3_takeMinutes_1 rfl hl (by decide) rfl (fun ls hl => ?_)
  have L2 : ∀ (nn : Nat) (y2_3 : Int32) (min_2 : Nat → Int32) (H : Heap) (locs : List Loc) (ls : Array Slot), (0 ≤ (y2_3.toInt)) → ((y2_3.toInt) ≤ 4) → (twI (mnW rw) 99 (y2_3.toInt) min_2) → ((y2_3.toInt) ≤ n.toInt) → (4 - (y2_3.toInt)).toNat < nn → va_P (dC, dI) vwCl (wPln cI cZ cQ a min_2 tri bes wkd cos rst bst top str gho ghs pto cro pla wal fal tel gai day mar few doo) H → va_D A (wPln cI cZ cQ a min_2 tri bes wkd cos rst bst top str gho ghs pto cro pla wal fal tel gai day mar few doo) → va_S A s.heap H locs → lv_has ls 4 [(0, .ref (a 16)), (1, .int rw), (2, .int n), (3, .int y2_3)] → W p l e (headSpec wsX3_takeMinutes { frames := 0, cells := 0, slots := 0, locals := 0 }).room s m ([.ref (a 16), .int rw, .int n] : List Value).toArray below meth c H locs 0 0 (MQ below (va_Qi (fun (r : Int32) (u : US) => ((((r = 1) ∧ (twI (mnW rw) 99 n.toInt (u.1 0))) ∨ ((r = 0) ∧ (∃ j : Nat, (j : Int) < n.toInt ∧ 99 < (mnW rw j).toInt))))) (Bw (dC, dI) A (fun u : US => (wPln cI cZ cQ a (u.1 0) tri bes wkd cos rst bst top str gho ghs pto cro pla wal fal tel gai day mar few doo))) A) ([.ref (a 16), .int rw, .int n] : List Value).toArray s 0 0 A) (F0 m 2 ls []) := by
    intro nn
    induction nn with
    | zero =>
      intro y2_3 min_2 H locs ls i2_0 i2_1 i2_2 i2_3 hm2
      exact absurd hm2 (Nat.not_lt_zero _)
    | succ nn ih2 =>
      intro y2_3 min_2 H locs ls i2_0 i2_1 i2_2 i2_3 hm2 hP hD hS hl
      refine lv_iload_n hx hb dX3_takeMinutes_2 rfl (lv_at hl 3 rfl) ?_
      refine lv_iload_n hx hb dX3_takeMinutes_3 rfl (lv_at hl 2 rfl) ?_
      refine lv_icmp_ge (tgt := 41) hx hb dX3_takeMinutes_4 (by decide) (fun c1 => ?_) (fun c1 => ?_)
      · have dc1 : n.toInt ≤ y2_3.toInt := leC rfl rfl c1
        refine lv_iconst (v := 1) hx hb dX3_takeMinutes_41 (by decide) ?_
        exact W.zret (v := 1) hx hb hr (by decide) (fun tq ht hW => ⟨⟨1, (uS [min_2] 0 (fun _ => 0)), rfl, (Or.inl (⟨rfl, (show twI (mnW rw) 99 n.toInt min_2 from by (try rw [show (1 : Int32).toInt = 1 from (show (1 : Int32).toInt = 1 from rfl)]); (first | exact ti_c i2_2 (by omega) | exact tk_no (mn_at (y := y2_3) (by assumption) (by omega)) (by omega) (by omega)))⟩)), by rw [ht]; exact hP, hD⟩, hS.F ht⟩) hS.2.2 dX3_takeMinutes_42
      · have dc1 : y2_3.toInt < n.toInt := nleC rfl rfl c1
        refine lv_aload_n hx hb dX3_takeMinutes_7 rfl (lv_at hl 0 rfl) ?_
        refine va_get (D := (dC, dI)) (ci := 3) (v := .ref (a 17)) (C := RX3) (T := TX3) (N := 9) hx hb hts inX3 hown hK hP 0 rfl rfl 2 (by decide) lf9 (fun _ h9 => h9) rfl dX3_takeMinutes_8 ?_
        refine lv_iload_n hx hb dX3_takeMinutes_11 rfl (lv_at hl 3 rfl) ?_
        refine lv_iload_n hx hb dX3_takeMinutes_12 rfl (lv_at hl 1 rfl) ?_
        refine lv_bipush (v := 7) hx hb dX3_takeMinutes_13 (by decide) ?_
        refine lv_iload_n hx hb dX3_takeMinutes_15 rfl (lv_at hl 3 rfl) ?_
        refine lv_imul hx hb dX3_takeMinutes_16 ?_
        have f2 : (7 * y2_3).toInt = (7) * (y2_3.toInt) := mulC (show (7 : Int32).toInt = 7 from rfl) rfl (by omega) (by omega)
        refine lv_ishr hx hb dX3_takeMinutes_17 ?_
        refine lv_bipush (v := 127) hx hb dX3_takeMinutes_18 (by decide) ?_
        refine lv_iand hx hb dX3_takeMinutes_20 ?_
        have f3 := andR (a := (rw >>> ((7 * y2_3) &&& 31))) (m := 127) (M := 127) rfl (by decide)
        refine lv_topi (fun x4 ex4 => ?_)
        have ix4 : x4.toInt = ((rw >>> ((7 * y2_3) &&& 31)) &&& 127).toInt := by rw [ex4]
        have b5 : vp_in y2_3 4 := inC rfl (by omega) (by omega)
        refine va_iast hx hb hK hP hD hS 1 0 rfl rfl b5 dX3_takeMinutes_21 (fun H locs hP hD hS => ?_)
        obtain ⟨min_u6, emin_u6⟩ : ∃ f : Nat → Int32, f = upd min_2 y2_3.toNatClampNeg x4 := ⟨_, rfl⟩
        have hP : va_P (dC, dI) vwCl (wPln cI cZ cQ a min_u6 tri bes wkd cos rst bst top str gho ghs pto cro pla wal fal tel gai day mar few doo) H := by rw [emin_u6]; exact hP
        have hD : va_D A (wPln cI cZ cQ a min_u6 tri bes wkd cos rst bst top str gho ghs pto cro pla wal fal tel gai day mar few doo) := by rw [emin_u6]; exact hD
        refine lv_aload_n hx hb dX3_takeMinutes_22 rfl (lv_at hl 0 rfl) ?_
        refine va_get (D := (dC, dI)) (ci := 3) (v := .ref (a 17)) (C := RX3) (T := TX3) (N := 9) hx hb hts inX3 hown hK hP 0 rfl rfl 2 (by decide) lf9 (fun _ h9 => h9) rfl dX3_takeMinutes_23 ?_
        refine lv_iload_n hx hb dX3_takeMinutes_26 rfl (lv_at hl 3 rfl) ?_
        have b7 : vp_in y2_3 4 := inC rfl (by omega) (by omega)
        refine va_iald hx hb hK hP 1 0 rfl rfl b7 dX3_takeMinutes_27 ?_
        have o8 : (min_u6 y2_3.toNatClampNeg).toInt = x4.toInt := by rw [emin_u6, pk_us]
        refine lv_bipush (v := 99) hx hb dX3_takeMinutes_28 (by decide) ?_
        refine lv_icmp_le (tgt := 35) hx hb dX3_takeMinutes_30 (by decide) (fun c9 => ?_) (fun c9 => ?_)
        · have dc9 : (min_u6 y2_3.toNatClampNeg).toInt ≤ 99 := leC rfl (show (99 : Int32).toInt = 99 from rfl) c9
          obtain ⟨z10, ez10⟩ : ∃ y : Int32, y = y2_3 + 1 := ⟨_, rfl⟩
          have iz10 : z10.toInt = y2_3.toInt + 1 := by rw [ez10]; exact addC rfl rfl (by omega) (by omega)
          refine lv_iinc (v := z10) (lv' := [(3, .int z10), (0, .ref (a 16)), (1, .int rw), (2, .int n)]) hx hb dX3_takeMinutes_35 hl (k := 3) rfl (by rw [ez10]; rfl) (by decide) rfl (fun ls hl => ?_)
          refine lv_goto (tgt := 2) hx hb dX3_takeMinutes_38 (by decide) ?_
          exact ih2 z10 min_u6 _ _ _ (by omega) (by omega) (by (first | exact ti_s i2_2 (by assumption) (mn_at (by assumption) (by omega)) (by omega) (by omega) (by omega) | exact ti_0 (by first | rfl | omega))) (by omega) (by omega) hP hD hS (lv_sub hl [1, 2, 3, 0] rfl)
        · have dc9 : 99 < (min_u6 y2_3.toNatClampNeg).toInt := nleC rfl (show (99 : Int32).toInt = 99 from rfl) c9
          refine lv_iconst (v := 0) hx hb dX3_takeMinutes_33 (by decide) ?_
          exact W.zret (v := 0) hx hb hr (by decide) (fun tq ht hW => ⟨⟨0, (uS [min_u6] 0 (fun _ => 0)), rfl, (Or.inr (⟨rfl, (show ∃ j : Nat, (j : Int) < n.toInt ∧ 99 < (mnW rw j).toInt from by (try rw [show (0 : Int32).toInt = 0 from (show (0 : Int32).toInt = 0 from rfl)]); (first | exact ti_c i2_2 (by omega) | exact tk_no (mn_at (y := y2_3) (by assumption) (by omega)) (by omega) (by omega)))⟩)), by rw [ht]; exact hP, hD⟩, hS.F ht⟩) hS.2.2 dX3_takeMinutes_34
  have kc11 : (0 : Int32).toInt = 0 := rfl
  exact L2 _ 0 min _ _ _ (by omega) (by omega) (by (first | exact ti_s i2_2 (by assumption) (mn_at (by assumption) (by omega)) (by omega) (by omega) (by omega) | exact ti_0 (by first | rfl | omega))) (by omega) (Nat.lt_succ_self _) hP hD hS (lv_sub hl [1, 2, 3, 0] rfl)
set_option maxHeartbeats 4000000 in
set_option maxRecDepth 100000 in
theorem k_X3_walkable2 (l : Launch) (dC : Nat → ClassId) (dI : Nat → Nat → Nat) (cI cZ cQ : ClassId) (a : Nat → Nat) (min : Nat → Int32) (tri : Nat → Int32) (bes : Nat → Int32) (wkd : Nat → Int32) (cos : Nat → Int32) (rst : Nat → Int32) (bst : Int32) (top : Nat → Int32) (str : Nat → Int32) (gho : Nat → Int32) (ghs : Nat → Int32) (pto : Nat → Int32) (cro : Nat → Int32) (pla : Nat → Int32) (wal : Nat → Int32) (fal : Nat → Int32) (tel : Int32) (gai : Int32) (day : Int32) (mar : Nat → Int32) (few : Nat → Int32) (doo : Int32) (ro : Int32) (i : Int32) (r_wkd : rg 8 (0) (15) wkd) (r_top : rg 48 (-1) (23) top) (r_str : rg 48 (0) (100) str) (r_gho : rg 48 (-1) (23) gho) (r_ghs : rg 48 (0) (100) ghs) (r_cro : rg 48 (0) (6) cro) (r_pla : rg 24 (-1) (47) pla) (r_fal : rg 11 (0) (30) fal) (r_gai : 0 ≤ gai.toInt ∧ gai.toInt ≤ 100) (r_day : 0 ≤ day.toInt ∧ day.toInt ≤ 400) (r_mar : rg 24 (0) (255) mar) (q0 : 0 ≤ ro.toInt) (q1 : ro.toInt ≤ 7) (q2 : 0 ≤ i.toInt) (q3 : i.toInt ≤ 3) : KR l yX3_walkable wsX3_walkable { frames := 0, cells := 0, slots := 0, locals := 0 } (dC, dI) (TY cI cZ cQ) (wPln cI cZ cQ a min tri bes wkd cos rst bst top str gho ghs pto cro pla wal fal tel gai day mar few doo) [.ref (a 16), .int ro, .int i] (fun r : Int32 => ((((r = 1) ∧ (wkb (cos ro.toNatClampNeg) (min i.toNatClampNeg))) ∨ ((r = 0) ∧ (¬ wkb (cos ro.toNatClampNeg) (min i.toNatClampNeg)))))) := by
  refine Met.ofW (cc := cX3_walkable) (maxL := 3) (ret := (some .boolean)) (by decide) rfl ?_
  intro p e s m args below meth c s₁ B hml hv
  obtain ⟨rfl, hP, hK, hN⟩ := hv
  have hx := B.exec
  have hb := B.bytes
  have hr := B.returns
  have hts := atoms_spec (ws := wsX3_walkable) B.pre
  have hown : s.vm.findClass RX3 = some m.cls := findClass_of_methodNamed B.named
  have hlocks := B.notSynchronized
  have lf24 := hts (.fieldLink RX3 24 "PalaceOfRooms$Planner" "costs" "[I") (List.mem_cons_of_mem _ (List.mem_append_left _ (List.mem_of_getElem? (i := 0) rfl)))
  have inX3 : ∀ w ∈ wsX30, w ∈ wsX3_walkable := fun w h => List.mem_cons_of_mem _ (List.mem_append_right _ h)
  have lf9 := hts (.fieldLink RX3 9 "PalaceOfRooms$Planner" "minutesOf" "[I") (List.mem_cons_of_mem _ (List.mem_append_left _ (List.mem_of_getElem? (i := 1) rfl)))
  have hl := lv_entry ([.ref (a 16), .int ro, .int i]) (n := 3) (Nat.le_of_ble_eq_true rfl)
  rw [lg_entry_eq]
  generalize (lg_sl ([.ref (a 16), .int ro, .int i]) ++ List.replicate (3 - (lg_sl ([.ref (a 16), .int ro, .int i])).length) Slot.unset).toArray = ls at hl ⊢
  have hl : lv_has ls 3 [(0, .ref (a 16)), (1, .int ro), (2, .int i)] := hl
  refine lv_aload_n hx hb dX3_walkable_0 rfl (lv_at hl 0 rfl) ?_
  refine va_get (D := (dC, dI)) (ci := 3) (v := .ref (a 21)) (C := RX3) (T := TX3) (N := 9) hx hb hts inX3 hown hK hP 0 rfl rfl 6 (by decide) lf24 (fun _ h9 => h9) rfl dX3_walkable_1 ?_
  refine lv_iload_n hx hb dX3_walkable_4 rfl (lv_at hl 1 rfl) ?_
  have b1 : vp_in ro 8 := inC rfl (by omega) (by omega)
  refine va_iald hx hb hK hP 5 0 rfl rfl b1 dX3_walkable_5 ?_
  refine lv_iconst (v := (-1)) hx hb dX3_walkable_6 (by decide) ?_
  refine lv_icmp_eq (tgt := 29) hx hb dX3_walkable_7 (by decide) (fun c2 => ?_) (fun c2 => ?_)
  · have dc2 : (cos ro.toNatClampNeg).toInt = (-1) := eqC rfl (show ((-1) : Int32).toInt = (-1) from rfl) c2
    refine lv_iconst (v := 0) hx hb dX3_walkable_29 (by decide) ?_
    exact W.zret (v := 0) hx hb hr (by decide) (fun tq ht hW => ⟨0, rfl, (Or.inr (⟨rfl, (show ¬ wkb (cos ro.toNatClampNeg) (min i.toNatClampNeg) from by (try rw [show (0 : Int32).toInt = 0 from (show (0 : Int32).toInt = 0 from rfl)]); (first | exact ⟨by assumption, by omega⟩ | exact fun q => q.1 (by assumption) | exact fun q => absurd q.2 (by omega)))⟩)), ht⟩) (fun q h => by cases h) dX3_walkable_30
  · have dc2 : (cos ro.toNatClampNeg).toInt ≠ (-1) := neC rfl (show ((-1) : Int32).toInt = (-1) from rfl) c2
    refine lv_aload_n hx hb dX3_walkable_10 rfl (lv_at hl 0 rfl) ?_
    refine va_get (D := (dC, dI)) (ci := 3) (v := .ref (a 21)) (C := RX3) (T := TX3) (N := 9) hx hb hts inX3 hown hK hP 0 rfl rfl 6 (by decide) lf24 (fun _ h9 => h9) rfl dX3_walkable_11 ?_
    refine lv_iload_n hx hb dX3_walkable_14 rfl (lv_at hl 1 rfl) ?_
    have b3 : vp_in ro 8 := inC rfl (by omega) (by omega)
    refine va_iald hx hb hK hP 5 0 rfl rfl b3 dX3_walkable_15 ?_
    refine lv_aload_n hx hb dX3_walkable_16 rfl (lv_at hl 0 rfl) ?_
    refine va_get (D := (dC, dI)) (ci := 3) (v := .ref (a 17)) (C := RX3) (T := TX3) (N := 9) hx hb hts inX3 hown hK hP 0 rfl rfl 2 (by decide) lf9 (fun _ h9 => h9) rfl dX3_walkable_17 ?_
    refine lv_iload_n hx hb dX3_walkable_20 rfl (lv_at hl 2 rfl) ?_
    have b4 : vp_in i 4 := inC rfl (by omega) (by omega)
    refine va_iald hx hb hK hP 1 0 rfl rfl b4 dX3_walkable_21 ?_
    refine lv_icmp_gt (tgt := 29) hx hb dX3_walkable_22 (by decide) (fun c5 => ?_) (fun c5 => ?_)
    · have dc5 : (min i.toNatClampNeg).toInt < (cos ro.toNatClampNeg).toInt := ltC rfl rfl c5
      refine lv_iconst (v := 0) hx hb dX3_walkable_29 (by decide) ?_
      exact W.zret (v := 0) hx hb hr (by decide) (fun tq ht hW => ⟨0, rfl, (Or.inr (⟨rfl, (show ¬ wkb (cos ro.toNatClampNeg) (min i.toNatClampNeg) from by (try rw [show (0 : Int32).toInt = 0 from (show (0 : Int32).toInt = 0 from rfl)]); (first | exact ⟨by assumption, by omega⟩ | exact fun q => q.1 (by assumption) | exact fun q => absurd q.2 (by omega)))⟩)), ht⟩) (fun q h => by cases h) dX3_walkable_30
    · have dc5 : (cos ro.toNatClampNeg).toInt ≤ (min i.toNatClampNeg).toInt := nltC rfl rfl c5
      refine lv_iconst (v := 1) hx hb dX3_walkable_25 (by decide) ?_
      refine lv_goto (tgt := 30) hx hb dX3_walkable_26 (by decide) ?_
      exact W.zret (v := 1) hx hb hr (by decide) (fun tq ht hW => ⟨1, rfl, (Or.inl (⟨rfl, (show wkb (cos ro.toNatClampNeg) (min i.toNatClampNeg) from by (try rw [show (1 : Int32).toInt = 1 from (show (1 : Int32).toInt = 1 from rfl)]); (first | exact ⟨by assumption, by omega⟩ | exact fun q => q.1 (by assumption) | exact fun q => absurd q.2 (by omega)))⟩)), ht⟩) (fun q h => by cases h) dX3_walkable_30
set_option maxHeartbeats 4000000 in
set_option maxRecDepth 100000 in
theorem k_X3_strengthOfRoom2 (l : Launch) (dC : Nat → ClassId) (dI : Nat → Nat → Nat) (cI cZ cQ : ClassId) (a : Nat → Nat) (min : Nat → Int32) (tri : Nat → Int32) (bes : Nat → Int32) (wkd : Nat → Int32) (cos : Nat → Int32) (rst : Nat → Int32) (bst : Int32) (top : Nat → Int32) (str : Nat → Int32) (gho : Nat → Int32) (ghs : Nat → Int32) (pto : Nat → Int32) (cro : Nat → Int32) (pla : Nat → Int32) (wal : Nat → Int32) (fal : Nat → Int32) (tel : Int32) (gai : Int32) (day : Int32) (mar : Nat → Int32) (few : Nat → Int32) (doo : Int32) (ro : Int32) (n : Int32) (dy : Int32) (r_wkd : rg 8 (0) (15) wkd) (r_top : rg 48 (-1) (23) top) (r_str : rg 48 (0) (100) str) (r_gho : rg 48 (-1) (23) gho) (r_ghs : rg 48 (0) (100) ghs) (r_cro : rg 48 (0) (6) cro) (r_pla : rg 24 (-1) (47) pla) (r_fal : rg 11 (0) (30) fal) (r_gai : 0 ≤ gai.toInt ∧ gai.toInt ≤ 100) (r_day : 0 ≤ day.toInt ∧ day.toInt ≤ 400) (r_mar : rg 24 (0) (255) mar) (q0 : 0 ≤ ro.toInt) (q1 : ro.toInt ≤ 7) (q2 : 0 ≤ n.toInt) (q3 : n.toInt ≤ 60) : KR l yX3_strengthOfRoom wsX3_strengthOfRoom { frames := 3, cells := 0, slots := 0, locals := 71 } (dC, dI) (TY cI cZ cQ) (wPln cI cZ cQ a min tri bes wkd cos rst bst top str gho ghs pto cro pla wal fal tel gai day mar few doo) [.ref (a 16), .int ro, .int n, .int dy] (fun r : Int32 => (0 ≤ r.toInt) ∧ (r.toInt ≤ 600) ∧ (r.toInt = srF top (fun c => svF fal (cro c).toInt gai.toInt (bitW dy) (str c).toInt n.toInt.toNat) (ro.toInt * 6).toNat 6)) := by
  refine Met.ofW (cc := cX3_strengthOfRoom) (maxL := 7) (ret := (some .int)) (by decide) rfl ?_
  intro p e s m args below meth c s₁ B hml hv
  obtain ⟨rfl, hP, hK, hN⟩ := hv
  have hx := B.exec
  have hb := B.bytes
  have hr := B.returns
  have hts := atoms_spec (ws := wsX3_strengthOfRoom) B.pre
  have hown : s.vm.findClass RX3 = some m.cls := findClass_of_methodNamed B.named
  have hlocks := B.notSynchronized
  have lf30 := hts (.fieldLink RX3 30 "PalaceOfRooms$Planner" "corners" "LPalaceOfRooms$Corners;") (List.mem_cons_of_mem _ (List.mem_append_left _ (List.mem_append_left _ (List.mem_of_getElem? (i := 0) rfl))))
  have inX3 : ∀ w ∈ wsX30, w ∈ wsX3_strengthOfRoom := fun w h => List.mem_cons_of_mem _ (List.mem_append_left _ (List.mem_append_right _ h))
  have lf79 := hN.use (w := .fieldLinkNest "PalaceOfRooms$Planner" 79 "PalaceOfRooms$Corners" "top" "[I" "PalaceOfRooms") (List.mem_of_getElem? (i := 3) rfl) ([.ref (a 16), .int ro, .int n, .int dy] : List Value).toArray
  have inX1 : ∀ w ∈ wsX10, w ∈ wsX3_strengthOfRoom := fun w h => List.mem_cons_of_mem _ (List.mem_append_right _ h)
  have hl := lv_entry ([.ref (a 16), .int ro, .int n, .int dy]) (n := 7) (Nat.le_of_ble_eq_true rfl)
  rw [lg_entry_eq]
  generalize (lg_sl ([.ref (a 16), .int ro, .int n, .int dy]) ++ List.replicate (7 - (lg_sl ([.ref (a 16), .int ro, .int n, .int dy])).length) Slot.unset).toArray = ls at hl ⊢
  have hl : lv_has ls 7 [(0, .ref (a 16)), (1, .int ro), (2, .int n), (3, .int dy)] := hl
  refine lv_iconst (v := 0) hx hb dX3_strengthOfRoom_0 (by decide) ?_
  refine lv_istore (lv' := [(4, .int 0), (0, .ref (a 16)), (1, .int ro), (2, .int n), (3, .int dy)]) hx hb dX3_strengthOfRoom_1 hl (by decide) rfl (fun ls hl => ?_)
  refine lv_iload_n hx hb dX3_strengthOfRoom_3 rfl (lv_at hl 2 rfl) ?_
  refine lv_bipush (v := 6) hx hb dX3_strengthOfRoom_4 (by decide) ?_
  refine lv_imul hx hb dX3_strengthOfRoom_6 ?_
  have f1 : (ro * 6).toInt = (ro.toInt) * (6) := mulC rfl (show (6 : Int32).toInt = 6 from rfl) (by omega) (by omega)
  refine lv_topi (fun x2 ex2 => ?_)
  have ix2 : x2.toInt = (ro.toInt) * (6) := by rw [ex2]; exact f1
  refine lv_istore (lv' := [(5, .int x2), (4, .int 0), (0, .ref (a 16)), (1, .int ro), (2, .int n), (3, .int dy)]) hx hb dX3_strengthOfRoom_7 hl (by decide) rfl (fun ls hl => ?_)
  refine lv_iload hx hb dX3_strengthOfRoom_9 (lv_at hl 0 rfl) ?_
  refine lv_istore (lv' := [(6, .int x2), (5, .int x2), (4, .int 0), (0, .ref (a 16)), (1, .int ro), (2, .int n), (3, .int dy)]) hx hb dX3_strengthOfRoom_11 hl (by decide) rfl (fun ls hl => ?_)
  have L13 : ∀ (nn : Nat) (y13_4 : Int32) (y13_6 : Int32) (ls : Array Slot), (0 ≤ (y13_6.toInt)) → ((y13_6.toInt) ≤ 48) → ((x2.toInt) ≤ (y13_6.toInt)) → ((y13_6.toInt) ≤ (x2.toInt) + 6) → (0 ≤ (y13_4.toInt)) → ((y13_4.toInt) ≤ 600) → ((y13_4.toInt) ≤ 100 * ((y13_6.toInt) - (x2.toInt))) → ((y13_4.toInt) = srF top (fun c => svF fal (cro c).toInt gai.toInt (bitW dy) (str c).toInt n.toInt.toNat) ((x2.toInt)).toNat ((y13_6.toInt) - (x2.toInt)).toNat) → (48 - (y13_6.toInt)).toNat < nn → lv_has ls 7 [(0, .ref (a 16)), (2, .int n), (3, .int dy), (4, .int y13_4), (5, .int x2), (6, .int y13_6)] → W p l e (headSpec wsX3_strengthOfRoom { frames := 3, cells := 0, slots := 0, locals := 71 }).room s m ([.ref (a 16), .int ro, .int n, .int dy] : List Value).toArray below meth c s.heap [] 0 0 (MQ below (QR (fun r : Int32 => (0 ≤ r.toInt) ∧ (r.toInt ≤ 600) ∧ (r.toInt = srF top (fun c => svF fal (cro c).toInt gai.toInt (bitW dy) (str c).toInt n.toInt.toNat) (ro.toInt * 6).toNat 6))) ([.ref (a 16), .int ro, .int n, .int dy] : List Value).toArray s 0 0 (fun _ => False)) (F0 m 13 ls []) := by
    intro nn
    induction nn with
    | zero =>
      intro y13_4 y13_6 ls i13_0 i13_1 i13_2 i13_3 i13_4 i13_5 i13_6 i13_7 hm13
      exact absurd hm13 (Nat.not_lt_zero _)
    | succ nn ih13 =>
      intro y13_4 y13_6 ls i13_0 i13_1 i13_2 i13_3 i13_4 i13_5 i13_6 i13_7 hm13 hl
      refine lv_iload hx hb dX3_strengthOfRoom_13 (lv_at hl 5 rfl) ?_
      refine lv_iload hx hb dX3_strengthOfRoom_15 (lv_at hl 4 rfl) ?_
      refine lv_bipush (v := 6) hx hb dX3_strengthOfRoom_17 (by decide) ?_
      refine lv_iadd hx hb dX3_strengthOfRoom_19 ?_
      have f3 : (x2 + 6).toInt = (x2.toInt) + (6) := addC rfl (show (6 : Int32).toInt = 6 from rfl) (by omega) (by omega)
      refine lv_icmp_ge (tgt := 59) hx hb dX3_strengthOfRoom_20 (by decide) (fun c4 => ?_) (fun c4 => ?_)
      · have dc4 : (x2.toInt) + (6) ≤ y13_6.toInt := leC f3 rfl c4
        refine lv_iload hx hb dX3_strengthOfRoom_59 (lv_at hl 3 rfl) ?_
        exact W.iret (v := y13_4) hx hb hr (fun tq ht hW => ⟨y13_4, rfl, ⟨(show 0 ≤ y13_4.toInt from by omega), (show y13_4.toInt ≤ 600 from by omega), (show y13_4.toInt = srF top (fun c => svF fal (cro c).toInt gai.toInt (bitW dy) (str c).toInt n.toInt.toNat) (ro.toInt * 6).toNat 6 from by exact sr_e i13_7 (by omega) (by omega))⟩, ht⟩) (fun q h => by cases h) dX3_strengthOfRoom_61
      · have dc4 : y13_6.toInt < (x2.toInt) + (6) := nleC f3 rfl c4
        refine lv_aload_n hx hb dX3_strengthOfRoom_23 rfl (lv_at hl 0 rfl) ?_
        refine va_get (D := (dC, dI)) (ci := 3) (v := .ref (a 4)) (C := RX3) (T := TX3) (N := 9) hx hb hts inX3 hown hK hP 0 rfl rfl 0 (by decide) lf30 (fun _ h9 => h9) rfl dX3_strengthOfRoom_24 ?_
        refine va_getN (D := (dC, dI)) (ci := 1) (v := .ref (a 5)) (C := RX1) (T := TX1) (N := 13) hx hb hts inX1 hown hK hP 7 rfl rfl 1 (by decide) lf79 (fun _ h9 => h9) rfl dX3_strengthOfRoom_27 ?_
        refine lv_iload hx hb dX3_strengthOfRoom_30 (lv_at hl 5 rfl) ?_
        have b5 : vp_in y13_6 48 := inC rfl (by omega) (by omega)
        refine va_iald hx hb hK hP 8 0 rfl rfl b5 dX3_strengthOfRoom_32 ?_
        have g6 : -1 ≤ (top y13_6.toNatClampNeg).toInt ∧ (top y13_6.toNatClampNeg).toInt ≤ 23 := rg_at r_top b5
        refine lv_iconst (v := (-1)) hx hb dX3_strengthOfRoom_33 (by decide) ?_
        refine lv_icmp_eq (tgt := 53) hx hb dX3_strengthOfRoom_34 (by decide) (fun c7 => ?_) (fun c7 => ?_)
        · have dc7 : (top y13_6.toNatClampNeg).toInt = (-1) := eqC rfl (show ((-1) : Int32).toInt = (-1) from rfl) c7
          obtain ⟨z8, ez8⟩ : ∃ y : Int32, y = y13_6 + 1 := ⟨_, rfl⟩
          have iz8 : z8.toInt = y13_6.toInt + 1 := by rw [ez8]; exact addC rfl rfl (by omega) (by omega)
          refine lv_iinc (v := z8) (lv' := [(6, .int z8), (0, .ref (a 16)), (2, .int n), (3, .int dy), (4, .int y13_4), (5, .int x2)]) hx hb dX3_strengthOfRoom_53 hl (k := 5) rfl (by rw [ez8]; rfl) (by decide) rfl (fun ls hl => ?_)
          refine lv_goto (tgt := 13) hx hb dX3_strengthOfRoom_56 (by decide) ?_
          exact ih13 y13_4 z8 _ (by omega) (by omega) (by omega) (by omega) (by omega) (by omega) (by omega) (by (first | exact sr_s (o := y13_6) i13_7 (by rw [clC (x := y13_6) rfl]; omega) (by first | exact Or.inl ⟨by assumption, by first | rfl | omega⟩ | exact Or.inr ⟨by assumption, ad_of (by assumption) (by omega)⟩) (by omega) | exact sr_0 (by first | rfl | omega) (by first | rfl | omega))) (by omega) (lv_sub hl [1, 2, 3, 4, 5, 0] rfl)
        · have dc7 : 0 ≤ (top y13_6.toNatClampNeg).toInt := ka_lo (by omega) (neC rfl (show ((-1) : Int32).toInt = (-1) from rfl) c7)
          refine lv_iload hx hb dX3_strengthOfRoom_37 (lv_at hl 3 rfl) ?_
          refine lv_aload_n hx hb dX3_strengthOfRoom_39 rfl (lv_at hl 0 rfl) ?_
          refine va_get (D := (dC, dI)) (ci := 3) (v := .ref (a 4)) (C := RX3) (T := TX3) (N := 9) hx hb hts inX3 hown hK hP 0 rfl rfl 0 (by decide) lf30 (fun _ h9 => h9) rfl dX3_strengthOfRoom_40 ?_
          refine lv_iload hx hb dX3_strengthOfRoom_43 (lv_at hl 5 rfl) ?_
          refine lv_iload_n hx hb dX3_strengthOfRoom_45 rfl (lv_at hl 1 rfl) ?_
          refine lv_iload_n hx hb dX3_strengthOfRoom_46 rfl (lv_at hl 2 rfl) ?_
          refine rdV (As := [.int y13_6, .int n, .int dy]) (rest := [.int y13_4]) ⟨hx, hb, hml, hown, hts⟩ (k_X1_strengthBehind3 l dC dI cI cZ cQ a top str gho ghs pto cro pla wal fal tel gai day mar y13_6 n dy r_top r_str r_gho r_ghs r_cro r_pla r_fal r_gai r_day r_mar (by omega) (by omega) (by omega) (by omega)) (cwV 3 hts gX3_strengthOfRoom_X1_strengthBehind rfl rfl rfl (by decide +kernel) ⟨Nat.le_of_ble_eq_true rfl, Nat.le_of_ble_eq_true rfl⟩) hP hK hN [7, 8, 9, 10, 11, 12, 13, 14, 15, 16, 17, 18] rfl 7 1 rfl rfl rfl hl.1 rfl (Nat.le_of_ble_eq_true rfl) dX3_strengthOfRoom_47 ⟨Nat.le_of_ble_eq_true rfl, Nat.le_of_ble_eq_true rfl⟩ (fun r9 h10 => ?_)
          have h10 : (0 ≤ r9.toInt) ∧ (r9.toInt ≤ 100) ∧ (r9.toInt = svF fal (cro y13_6.toNatClampNeg).toInt gai.toInt (bitW dy) (str y13_6.toNatClampNeg).toInt n.toInt.toNat) := h10
          obtain ⟨h10_0, h10_1, h10_2⟩ := h10
          refine lv_iadd hx hb dX3_strengthOfRoom_50 ?_
          have f11 : (y13_4 + r9).toInt = (y13_4.toInt) + (r9.toInt) := addC rfl rfl (by omega) (by omega)
          refine lv_topi (fun x12 ex12 => ?_)
          have ix12 : x12.toInt = (y13_4.toInt) + (r9.toInt) := by rw [ex12]; exact f11
          refine lv_istore (lv' := [(4, .int x12), (0, .ref (a 16)), (2, .int n), (3, .int dy), (5, .int x2), (6, .int y13_6)]) hx hb dX3_strengthOfRoom_51 hl (by decide) rfl (fun ls hl => ?_)
          obtain ⟨z13, ez13⟩ : ∃ y : Int32, y = y13_6 + 1 := ⟨_, rfl⟩
          have iz13 : z13.toInt = y13_6.toInt + 1 := by rw [ez13]; exact addC rfl rfl (by omega) (by omega)
          refine lv_iinc (v := z13) (lv' := [(6, .int z13), (4, .int x12), (0, .ref (a 16)), (2, .int n), (3, .int dy), (5, .int x2)]) hx hb dX3_strengthOfRoom_53 hl (k := 5) rfl (by rw [ez13]; rfl) (by decide) rfl (fun ls hl => ?_)
          refine lv_goto (tgt := 13) hx hb dX3_strengthOfRoom_56 (by decide) ?_
          exact ih13 x12 z13 _ (by omega) (by omega) (by omega) (by omega) (by omega) (by omega) (by omega) (by (first | exact sr_s (o := y13_6) i13_7 (by rw [clC (x := y13_6) rfl]; omega) (by first | exact Or.inl ⟨by assumption, by first | rfl | omega⟩ | exact Or.inr ⟨by assumption, ad_of (by assumption) (by omega)⟩) (by omega) | exact sr_0 (by first | rfl | omega) (by first | rfl | omega))) (by omega) (lv_sub hl [2, 3, 4, 1, 5, 0] rfl)
  have kc14 : (0 : Int32).toInt = 0 := rfl
  exact L13 _ 0 x2 _ (by omega) (by omega) (by omega) (by omega) (by omega) (by omega) (by omega) (by (first | exact sr_s (o := y13_6) i13_7 (by rw [clC (x := y13_6) rfl]; omega) (by first | exact Or.inl ⟨by assumption, by first | rfl | omega⟩ | exact Or.inr ⟨by assumption, ad_of (by assumption) (by omega)⟩) (by omega) | exact sr_0 (by first | rfl | omega) (by first | rfl | omega))) (Nat.lt_succ_self _) (lv_sub hl [3, 5, 6, 2, 1, 0] rfl)
set_option maxHeartbeats 4000000 in
set_option maxRecDepth 100000 in
theorem k_X3_prepare2 (l : Launch) (dC : Nat → ClassId) (dI : Nat → Nat → Nat) (cI cZ cQ : ClassId) (a : Nat → Nat) (min : Nat → Int32) (tri : Nat → Int32) (bes : Nat → Int32) (wkd : Nat → Int32) (cos : Nat → Int32) (rst : Nat → Int32) (bst : Int32) (top : Nat → Int32) (str : Nat → Int32) (gho : Nat → Int32) (ghs : Nat → Int32) (pto : Nat → Int32) (cro : Nat → Int32) (pla : Nat → Int32) (wal : Nat → Int32) (fal : Nat → Int32) (tel : Int32) (gai : Int32) (day : Int32) (mar : Nat → Int32) (few : Nat → Int32) (doo : Int32) (sz : Nat) (r_wkd : rg 8 (0) (15) wkd) (r_top : rg 48 (-1) (23) top) (r_str : rg 48 (0) (100) str) (r_gho : rg 48 (-1) (23) gho) (r_ghs : rg 48 (0) (100) ghs) (r_cro : rg 48 (0) (6) cro) (r_pla : rg 24 (-1) (47) pla) (r_fal : rg 11 (0) (30) fal) (r_gai : 0 ≤ gai.toInt ∧ gai.toInt ≤ 100) (r_day : 0 ≤ day.toInt ∧ day.toInt ≤ 400) (r_mar : rg 24 (0) (255) mar) (q0 : mtOK few) : KV l yX3_prepare wsX3_prepare { frames := 5, cells := 0, slots := 0, locals := 109 } (dC, dI) (TY cI cZ cQ) (wPln cI cZ cQ a min tri bes wkd cos rst bst top str gho ghs pto cro pla wal fal tel gai day mar few doo) [.ref (a 16)] sz 0 0 (fun (u : US) => (∀ j : Nat, j < 48 → ((u.1 0) j).toInt = cwF mar top tel j (j - j % 6) 6) ∧ (prI few top 8 (u.1 1) (u.1 2)) ∧ (rg 48 (0) (6) (u.1 0)) ∧ (rg 8 (0) (15) (u.1 2))) (fun u : US => (wPln cI cZ cQ a min tri bes (u.1 2) (u.1 1) rst bst top str gho ghs pto (u.1 0) pla wal fal tel gai day mar few doo)) := by
  refine Met.ofW (cc := cX3_prepare) (maxL := 2) (ret := none) (by decide) rfl ?_
  intro p e s m args below meth c s₁ B hml hv
  obtain ⟨rfl, hsz, hP, hK, hD0, hN⟩ := hv
  have hx := B.exec
  have hb := B.bytes
  have hr := B.returns
  have hts := atoms_spec (ws := wsX3_prepare) B.pre
  have hown : s.vm.findClass RX3 = some m.cls := findClass_of_methodNamed B.named
  have hlocks := B.notSynchronized
  have lf30 := hts (.fieldLink RX3 30 "PalaceOfRooms$Planner" "corners" "LPalaceOfRooms$Corners;") (List.mem_cons_of_mem _ (List.mem_append_left _ (List.mem_append_left _ (List.mem_append_left _ (List.mem_append_left _ (List.mem_append_left _ (List.mem_of_getElem? (i := 0) rfl)))))))
  have inX3 : ∀ w ∈ wsX30, w ∈ wsX3_prepare := fun w h => List.mem_cons_of_mem _ (List.mem_append_left _ (List.mem_append_left _ (List.mem_append_left _ (List.mem_append_right _ h))))
  have lf24 := hts (.fieldLink RX3 24 "PalaceOfRooms$Planner" "costs" "[I") (List.mem_cons_of_mem _ (List.mem_append_left _ (List.mem_append_left _ (List.mem_append_left _ (List.mem_append_left _ (List.mem_append_left _ (List.mem_of_getElem? (i := 1) rfl)))))))
  have lf21 := hts (.fieldLink RX3 21 "PalaceOfRooms$Planner" "walkedDays" "[I") (List.mem_cons_of_mem _ (List.mem_append_left _ (List.mem_append_left _ (List.mem_append_left _ (List.mem_append_left _ (List.mem_append_left _ (List.mem_of_getElem? (i := 2) rfl)))))))
  subst hsz
  have hD := hD0.self (sz := s.heap.size)
  generalize hAe : va_A (wPln cI cZ cQ a min tri bes wkd cos rst bst top str gho ghs pto cro pla wal fal tel gai day mar few doo) s.heap.size = A at hD ⊢
  have hA : ∀ q : Nat, s.heap.size ≤ q → A q := fun q h => by rw [← hAe]; exact Or.inr h
  have hS : va_S A s.heap s.heap [] := va_S.rf
  have hl := lv_entry ([.ref (a 16)]) (n := 2) (Nat.le_of_ble_eq_true rfl)
  rw [lg_entry_eq]
  generalize (lg_sl ([.ref (a 16)]) ++ List.replicate (2 - (lg_sl ([.ref (a 16)])).length) Slot.unset).toArray = ls at hl ⊢
  have hl : lv_has ls 2 [(0, .ref (a 16))] := hl
  refine lv_aload_n hx hb dX3_prepare_0 rfl (lv_at hl 0 rfl) ?_
  refine va_get (D := (dC, dI)) (ci := 3) (v := .ref (a 4)) (C := RX3) (T := TX3) (N := 9) hx hb hts inX3 hown hK hP 0 rfl rfl 0 (by decide) lf30 (fun _ h9 => h9) rfl dX3_prepare_1 ?_
  refine wvV (As := []) (rest := []) (wr := [((a 16), .inr (3, [.ref (a 4), .ref (a 0), .ref (a 17), .ref (a 18), .ref (a 19), .ref (a 20), .ref (a 21), .ref (a 22), .int bst])), ((a 17), .inl (cI, 4, .inl min)), ((a 18), .inl (cI, 4, .inl tri)), ((a 19), .inl (cI, 4, .inl bes)), ((a 20), .inl (cI, 8, .inl wkd)), ((a 21), .inl (cI, 8, .inl cos)), ((a 22), .inl (cI, 128, .inl rst)), ((a 0), .inr (8, [.ref (a 1), .int doo])), ((a 1), .inl (cI, 64, .inl few))]) (w2 := (fun u : US => (wPln cI cZ cQ a min tri bes wkd cos rst bst top str gho ghs pto (u.1 0) pla wal fal tel gai day mar few doo))) ⟨hx, hb, hml, hown, hts⟩ (k_X1_countCrowds2 l dC dI cI cZ cQ a top str gho ghs pto cro pla wal fal tel gai day mar _ r_top r_str r_gho r_ghs r_cro r_pla r_fal r_gai r_day r_mar) (cwV 0 hts gX3_prepare_X1_countCrowds rfl rfl rfl (by decide +kernel) ⟨Nat.le_of_ble_eq_true rfl, Nat.le_of_ble_eq_true rfl⟩) hP hD hS hA hK hN [7, 8, 9, 10, 11, 12, 13, 14, 15, 16, 17, 18] [0, 1, 2, 3, 4, 5, 6, 19, 20] [0, 1, 2, 3, 4, 5, 6, 9, 10, 11, 12, 13, 14, 15, 16, 17, 18, 19, 20, 7, 8] rfl rfl (by decide) (by decide) (by decide) (fun _ => rfl) (by decide) 7 1 rfl rfl rfl hl.1 rfl (Nat.le_of_ble_eq_true rfl) dX3_prepare_4 ⟨Nat.le_of_ble_eq_true rfl, Nat.le_of_ble_eq_true rfl⟩ (fun u3 H locs h2 hP hD hS => ?_)
  obtain ⟨cro_c4, ecro_c4⟩ : ∃ f : Nat → Int32, f = (u3.1 0) := ⟨_, rfl⟩
  have hP : va_P (dC, dI) vwCl (wPln cI cZ cQ a min tri bes wkd cos rst bst top str gho ghs pto cro_c4 pla wal fal tel gai day mar few doo) H := by rw [ecro_c4]; exact hP
  have hD : va_D A (wPln cI cZ cQ a min tri bes wkd cos rst bst top str gho ghs pto cro_c4 pla wal fal tel gai day mar few doo) := by rw [ecro_c4]; exact hD
  have h2 : (∀ j : Nat, j < 48 → (cro_c4 j).toInt = cwF mar top tel j (j - j % 6) 6) ∧ (rg 48 (0) (6) cro_c4) := by (try rw [ecro_c4]); exact h2
  obtain ⟨h2_0, h2_1⟩ := h2
  refine lv_iconst (v := 0) hx hb dX3_prepare_7 (by decide) ?_
  refine lv_istore_n (lv' := [(1, .int 0), (0, .ref (a 16))]) hx hb dX3_prepare_8 rfl hl (by decide) rfl (fun ls hl => ?_)
  have L9 : ∀ (nn : Nat) (y9_1 : Int32) (cos_9 : Nat → Int32) (wkd_9 : Nat → Int32) (H : Heap) (locs : List Loc) (ls : Array Slot), (rg 8 (0) (15) wkd_9) → (0 ≤ (y9_1.toInt)) → ((y9_1.toInt) ≤ 8) → (prI few top (y9_1.toInt) cos_9 wkd_9) → (8 - (y9_1.toInt)).toNat < nn → va_P (dC, dI) vwCl (wPln cI cZ cQ a min tri bes wkd_9 cos_9 rst bst top str gho ghs pto cro_c4 pla wal fal tel gai day mar few doo) H → va_D A (wPln cI cZ cQ a min tri bes wkd_9 cos_9 rst bst top str gho ghs pto cro_c4 pla wal fal tel gai day mar few doo) → va_S A s.heap H locs → lv_has ls 2 [(0, .ref (a 16)), (1, .int y9_1)] → W p l e (headSpec wsX3_prepare { frames := 5, cells := 0, slots := 0, locals := 109 }).room s m ([.ref (a 16)] : List Value).toArray below meth c H locs 0 0 (MQ below (va_Qv (fun (u : US) => (∀ j : Nat, j < 48 → ((u.1 0) j).toInt = cwF mar top tel j (j - j % 6) 6) ∧ (prI few top 8 (u.1 1) (u.1 2)) ∧ (rg 48 (0) (6) (u.1 0)) ∧ (rg 8 (0) (15) (u.1 2))) (Bw (dC, dI) A (fun u : US => (wPln cI cZ cQ a min tri bes (u.1 2) (u.1 1) rst bst top str gho ghs pto (u.1 0) pla wal fal tel gai day mar few doo))) A) ([.ref (a 16)] : List Value).toArray s 0 0 A) (F0 m 9 ls []) := by
    intro nn
    induction nn with
    | zero =>
      intro y9_1 cos_9 wkd_9 H locs ls r_wkd_9 i9_0 i9_1 i9_2 hm9
      exact absurd hm9 (Nat.not_lt_zero _)
    | succ nn ih9 =>
      intro y9_1 cos_9 wkd_9 H locs ls r_wkd_9 i9_0 i9_1 i9_2 hm9 hP hD hS hl
      refine lv_iload_n hx hb dX3_prepare_9 rfl (lv_at hl 1 rfl) ?_
      refine lv_bipush (v := 8) hx hb dX3_prepare_10 (by decide) ?_
      refine lv_icmp_ge (tgt := 39) hx hb dX3_prepare_12 (by decide) (fun c5 => ?_) (fun c5 => ?_)
      · have dc5 : 8 ≤ y9_1.toInt := leC (show (8 : Int32).toInt = 8 from rfl) rfl c5
        exact W.vret hx hb hr (fun tq ht hW => ⟨⟨(uS [cro_c4, cos_9, wkd_9] 0 (fun _ => 0)), rfl, ⟨(show ∀ j : Nat, j < 48 → (cro_c4 j).toInt = cwF mar top tel j (j - j % 6) 6 from by assumption), (show prI few top 8 cos_9 wkd_9 from by (have e8 : _ = (8 : Int) := Int.le_antisymm i9_1 (by assumption); rw [← e8]; exact i9_2)), h2_1, r_wkd_9⟩, by rw [ht]; exact hP, hD⟩, hS.F ht⟩) hS.2.2 dX3_prepare_39
      · have dc5 : y9_1.toInt < 8 := nleC (show (8 : Int32).toInt = 8 from rfl) rfl c5
        refine lv_aload_n hx hb dX3_prepare_15 rfl (lv_at hl 0 rfl) ?_
        refine va_get (D := (dC, dI)) (ci := 3) (v := .ref (a 21)) (C := RX3) (T := TX3) (N := 9) hx hb hts inX3 hown hK hP 0 rfl rfl 6 (by decide) lf24 (fun _ h9 => h9) rfl dX3_prepare_16 ?_
        refine lv_iload_n hx hb dX3_prepare_19 rfl (lv_at hl 1 rfl) ?_
        refine lv_aload_n hx hb dX3_prepare_20 rfl (lv_at hl 0 rfl) ?_
        refine lv_iload_n hx hb dX3_prepare_21 rfl (lv_at hl 1 rfl) ?_
        refine rdV (As := [.int y9_1]) (rest := [.int y9_1, .ref (a 21)]) ⟨hx, hb, hml, hown, hts⟩ (k_X3_costOf2 l dC dI cI cZ cQ a min tri bes wkd_9 cos_9 rst bst top str gho ghs pto cro_c4 pla wal fal tel gai day mar few doo y9_1 r_wkd_9 r_top r_str r_gho r_ghs h2_1 r_pla r_fal r_gai r_day r_mar (by omega) (by omega) (by exact q0)) (cwV 1 hts gX3_prepare_X3_costOf rfl rfl rfl (by decide +kernel) ⟨Nat.le_of_ble_eq_true rfl, Nat.le_of_ble_eq_true rfl⟩) hP hK hN [0, 1, 2, 3, 4, 5, 6, 7, 8, 9, 10, 11, 12, 13, 14, 15, 16, 17, 18, 19, 20] rfl 0 3 rfl rfl rfl hl.1 rfl (Nat.le_of_ble_eq_true rfl) dX3_prepare_22 ⟨Nat.le_of_ble_eq_true rfl, Nat.le_of_ble_eq_true rfl⟩ (fun r6 h7 => ?_)
        have h7 : (-1 ≤ r6.toInt) ∧ (r6.toInt ≤ 20) ∧ (coC few top y9_1 r6) := h7
        obtain ⟨h7_0, h7_1, h7_2⟩ := h7
        have b8 : vp_in y9_1 8 := inC rfl (by omega) (by omega)
        refine va_iast hx hb hK hP hD hS 5 0 rfl rfl b8 dX3_prepare_25 (fun H locs hP hD hS => ?_)
        obtain ⟨cos_u9, ecos_u9⟩ : ∃ f : Nat → Int32, f = upd cos_9 y9_1.toNatClampNeg r6 := ⟨_, rfl⟩
        have hP : va_P (dC, dI) vwCl (wPln cI cZ cQ a min tri bes wkd_9 cos_u9 rst bst top str gho ghs pto cro_c4 pla wal fal tel gai day mar few doo) H := by rw [ecos_u9]; exact hP
        have hD : va_D A (wPln cI cZ cQ a min tri bes wkd_9 cos_u9 rst bst top str gho ghs pto cro_c4 pla wal fal tel gai day mar few doo) := by rw [ecos_u9]; exact hD
        refine lv_aload_n hx hb dX3_prepare_26 rfl (lv_at hl 0 rfl) ?_
        refine va_get (D := (dC, dI)) (ci := 3) (v := .ref (a 20)) (C := RX3) (T := TX3) (N := 9) hx hb hts inX3 hown hK hP 0 rfl rfl 5 (by decide) lf21 (fun _ h9 => h9) rfl dX3_prepare_27 ?_
        refine lv_iload_n hx hb dX3_prepare_30 rfl (lv_at hl 1 rfl) ?_
        refine lv_iconst (v := 0) hx hb dX3_prepare_31 (by decide) ?_
        have b10 : vp_in y9_1 8 := inC rfl (by omega) (by omega)
        have g11 : rg 8 (0) (15) (upd wkd_9 y9_1.toNatClampNeg 0) := rg_upd r_wkd_9 (show (0 : Int32).toInt = 0 from rfl) (by omega) (by omega)
        refine va_iast hx hb hK hP hD hS 4 0 rfl rfl b10 dX3_prepare_32 (fun H locs hP hD hS => ?_)
        obtain ⟨wkd_u12, ewkd_u12⟩ : ∃ f : Nat → Int32, f = upd wkd_9 y9_1.toNatClampNeg 0 := ⟨_, rfl⟩
        have rwkd_u12 : rg 8 (0) (15) wkd_u12 := by rw [ewkd_u12]; exact g11
        have hP : va_P (dC, dI) vwCl (wPln cI cZ cQ a min tri bes wkd_u12 cos_u9 rst bst top str gho ghs pto cro_c4 pla wal fal tel gai day mar few doo) H := by rw [ewkd_u12]; exact hP
        have hD : va_D A (wPln cI cZ cQ a min tri bes wkd_u12 cos_u9 rst bst top str gho ghs pto cro_c4 pla wal fal tel gai day mar few doo) := by rw [ewkd_u12]; exact hD
        obtain ⟨z13, ez13⟩ : ∃ y : Int32, y = y9_1 + 1 := ⟨_, rfl⟩
        have iz13 : z13.toInt = y9_1.toInt + 1 := by rw [ez13]; exact addC rfl rfl (by omega) (by omega)
        refine lv_iinc (v := z13) (lv' := [(1, .int z13), (0, .ref (a 16))]) hx hb dX3_prepare_33 hl (k := 1) rfl (by rw [ez13]; rfl) (by decide) rfl (fun ls hl => ?_)
        refine lv_goto (tgt := 9) hx hb dX3_prepare_36 (by decide) ?_
        exact ih9 z13 cos_u9 wkd_u12 _ _ _ rwkd_u12 (by omega) (by omega) (by (first | exact pr_s i9_2 (by assumption) (by assumption) (by assumption) (by omega) (by omega) | exact pr_0 (by first | rfl | omega))) (by omega) hP hD hS (lv_sub hl [1, 0] rfl)
  have kc14 : (0 : Int32).toInt = 0 := rfl
  exact L9 _ 0 cos wkd _ _ _ r_wkd (by omega) (by omega) (by (first | exact pr_s i9_2 (by assumption) (by assumption) (by assumption) (by omega) (by omega) | exact pr_0 (by first | rfl | omega))) (Nat.lt_succ_self _) hP hD hS (lv_sub hl [1, 0] rfl)
set_option maxHeartbeats 4000000 in
set_option maxRecDepth 100000 in
theorem k_X3_strengthBehindTrial2 (l : Launch) (dC : Nat → ClassId) (dI : Nat → Nat → Nat) (cI cZ cQ : ClassId) (a : Nat → Nat) (min : Nat → Int32) (tri : Nat → Int32) (bes : Nat → Int32) (wkd : Nat → Int32) (cos : Nat → Int32) (rst : Nat → Int32) (bst : Int32) (top : Nat → Int32) (str : Nat → Int32) (gho : Nat → Int32) (ghs : Nat → Int32) (pto : Nat → Int32) (cro : Nat → Int32) (pla : Nat → Int32) (wal : Nat → Int32) (fal : Nat → Int32) (tel : Int32) (gai : Int32) (day : Int32) (mar : Nat → Int32) (few : Nat → Int32) (doo : Int32) (sz : Nat) (n : Int32) (r_wkd : rg 8 (0) (15) wkd) (r_top : rg 48 (-1) (23) top) (r_str : rg 48 (0) (100) str) (r_gho : rg 48 (-1) (23) gho) (r_ghs : rg 48 (0) (100) ghs) (r_cro : rg 48 (0) (6) cro) (r_pla : rg 24 (-1) (47) pla) (r_fal : rg 11 (0) (30) fal) (r_gai : 0 ≤ gai.toInt ∧ gai.toInt ≤ 100) (r_day : 0 ≤ day.toInt ∧ day.toInt ≤ 400) (r_mar : rg 24 (0) (255) mar) (q0 : 1 ≤ n.toInt) (q1 : n.toInt ≤ 4) (q2 : mtOK few) (q3 : ∀ j : Nat, (j : Int) < n.toInt → 0 ≤ (tri j).toInt ∧ (tri j).toInt ≤ 8) : KW l yX3_strengthBehindTrial wsX3_strengthBehindTrial { frames := 6, cells := 0, slots := 0, locals := 130 } (dC, dI) (TY cI cZ cQ) (wPln cI cZ cQ a min tri bes wkd cos rst bst top str gho ghs pto cro pla wal fal tel gai day mar few doo) [.ref (a 16), .int n] sz 0 0 (fun (r : Int32) (u : US) => (jdC mar fal top str tel gai.toInt tri min (u.1 1) n.toInt r) ∧ (∀ j : Nat, j < 8 → coC few top (nI j) ((u.1 1) j)) ∧ (rg 48 (0) (6) (u.1 0)) ∧ (rg 8 (0) (15) (u.1 2))) (fun u : US => (wPln cI cZ cQ a min tri bes (u.1 2) (u.1 1) rst bst top str gho ghs pto (u.1 0) pla wal fal tel gai day mar few doo)) := by
  refine Met.ofW (cc := cX3_strengthBehindTrial) (maxL := 4) (ret := (some .int)) (by decide) rfl ?_
  intro p e s m args below meth c s₁ B hml hv
  obtain ⟨rfl, hsz, hP, hK, hD0, hN⟩ := hv
  have hx := B.exec
  have hb := B.bytes
  have hr := B.returns
  have hts := atoms_spec (ws := wsX3_strengthBehindTrial) B.pre
  have hown : s.vm.findClass RX3 = some m.cls := findClass_of_methodNamed B.named
  have hlocks := B.notSynchronized
  have lf21 := hts (.fieldLink RX3 21 "PalaceOfRooms$Planner" "walkedDays" "[I") (List.mem_cons_of_mem _ (List.mem_append_left _ (List.mem_append_left _ (List.mem_append_left _ (List.mem_append_left _ (List.mem_append_left _ (List.mem_of_getElem? (i := 1) rfl)))))))
  have inX3 : ∀ w ∈ wsX30, w ∈ wsX3_strengthBehindTrial := fun w h => List.mem_cons_of_mem _ (List.mem_append_left _ (List.mem_append_left _ (List.mem_append_left _ (List.mem_append_right _ h))))
  have lf15 := hts (.fieldLink RX3 15 "PalaceOfRooms$Planner" "trial" "[I") (List.mem_cons_of_mem _ (List.mem_append_left _ (List.mem_append_left _ (List.mem_append_left _ (List.mem_append_left _ (List.mem_append_left _ (List.mem_of_getElem? (i := 0) rfl)))))))
  subst hsz
  have hD := hD0.self (sz := s.heap.size)
  generalize hAe : va_A (wPln cI cZ cQ a min tri bes wkd cos rst bst top str gho ghs pto cro pla wal fal tel gai day mar few doo) s.heap.size = A at hD ⊢
  have hA : ∀ q : Nat, s.heap.size ≤ q → A q := fun q h => by rw [← hAe]; exact Or.inr h
  have hS : va_S A s.heap s.heap [] := va_S.rf
  have hl := lv_entry ([.ref (a 16), .int n]) (n := 4) (Nat.le_of_ble_eq_true rfl)
  rw [lg_entry_eq]
  generalize (lg_sl ([.ref (a 16), .int n]) ++ List.replicate (4 - (lg_sl ([.ref (a 16), .int n])).length) Slot.unset).toArray = ls at hl ⊢
  have hl : lv_has ls 4 [(0, .ref (a 16)), (1, .int n)] := hl
  refine lv_aload_n hx hb dX3_strengthBehindTrial_0 rfl (lv_at hl 0 rfl) ?_
  refine wvV (As := []) (rest := []) (wr := []) (w2 := (fun u : US => (wPln cI cZ cQ a min tri bes (u.1 2) (u.1 1) rst bst top str gho ghs pto (u.1 0) pla wal fal tel gai day mar few doo))) ⟨hx, hb, hml, hown, hts⟩ (k_X3_prepare2 l dC dI cI cZ cQ a min tri bes wkd cos rst bst top str gho ghs pto cro pla wal fal tel gai day mar few doo _ r_wkd r_top r_str r_gho r_ghs r_cro r_pla r_fal r_gai r_day r_mar (by exact q2)) (cwV 0 hts gX3_strengthBehindTrial_X3_prepare rfl rfl rfl (by decide +kernel) ⟨Nat.le_of_ble_eq_true rfl, Nat.le_of_ble_eq_true rfl⟩) hP hD hS hA hK hN [0, 1, 2, 3, 4, 5, 6, 7, 8, 9, 10, 11, 12, 13, 14, 15, 16, 17, 18, 19, 20] [] [0, 1, 2, 3, 4, 5, 6, 7, 8, 9, 10, 11, 12, 13, 14, 15, 16, 17, 18, 19, 20] rfl rfl (by decide) (by decide) (by decide) (fun _ => rfl) (by decide) 0 3 rfl rfl rfl hl.1 rfl (Nat.le_of_ble_eq_true rfl) dX3_strengthBehindTrial_1 ⟨Nat.le_of_ble_eq_true rfl, Nat.le_of_ble_eq_true rfl⟩ (fun u3 H locs h2 hP hD hS => ?_)
  obtain ⟨cro_c4, ecro_c4⟩ : ∃ f : Nat → Int32, f = (u3.1 0) := ⟨_, rfl⟩
  obtain ⟨cos_c5, ecos_c5⟩ : ∃ f : Nat → Int32, f = (u3.1 1) := ⟨_, rfl⟩
  obtain ⟨wkd_c6, ewkd_c6⟩ : ∃ f : Nat → Int32, f = (u3.1 2) := ⟨_, rfl⟩
  have hP : va_P (dC, dI) vwCl (wPln cI cZ cQ a min tri bes wkd_c6 cos_c5 rst bst top str gho ghs pto cro_c4 pla wal fal tel gai day mar few doo) H := by rw [ecro_c4, ecos_c5, ewkd_c6]; exact hP
  have hD : va_D A (wPln cI cZ cQ a min tri bes wkd_c6 cos_c5 rst bst top str gho ghs pto cro_c4 pla wal fal tel gai day mar few doo) := by rw [ecro_c4, ecos_c5, ewkd_c6]; exact hD
  have h2 : (∀ j : Nat, j < 48 → (cro_c4 j).toInt = cwF mar top tel j (j - j % 6) 6) ∧ (prI few top 8 cos_c5 wkd_c6) ∧ (rg 48 (0) (6) cro_c4) ∧ (rg 8 (0) (15) wkd_c6) := by (try rw [ecro_c4]); (try rw [ecos_c5]); (try rw [ewkd_c6]); exact h2
  obtain ⟨h2_0, h2_1, h2_2, h2_3⟩ := h2
  refine lv_iconst (v := 0) hx hb dX3_strengthBehindTrial_4 (by decide) ?_
  refine lv_istore_n (lv' := [(2, .int 0), (0, .ref (a 16)), (1, .int n)]) hx hb dX3_strengthBehindTrial_5 rfl hl (by decide) rfl (fun ls hl => ?_)
  have L6 : ∀ (nn : Nat) (y6_2 : Int32) (wkd_6 : Nat → Int32) (H : Heap) (locs : List Loc) (ls : Array Slot), (rg 8 (0) (15) wkd_6) → (0 ≤ (y6_2.toInt)) → ((y6_2.toInt) ≤ 4) → (wdI tri wkd_6 (y6_2.toInt)) → (wkA tri min cos_c5 (y6_2.toInt)) → ((y6_2.toInt) ≤ n.toInt) → (4 - (y6_2.toInt)).toNat < nn → va_P (dC, dI) vwCl (wPln cI cZ cQ a min tri bes wkd_6 cos_c5 rst bst top str gho ghs pto cro_c4 pla wal fal tel gai day mar few doo) H → va_D A (wPln cI cZ cQ a min tri bes wkd_6 cos_c5 rst bst top str gho ghs pto cro_c4 pla wal fal tel gai day mar few doo) → va_S A s.heap H locs → lv_has ls 4 [(0, .ref (a 16)), (1, .int n), (2, .int y6_2)] → W p l e (headSpec wsX3_strengthBehindTrial { frames := 6, cells := 0, slots := 0, locals := 130 }).room s m ([.ref (a 16), .int n] : List Value).toArray below meth c H locs 0 0 (MQ below (va_Qi (fun (r : Int32) (u : US) => (jdC mar fal top str tel gai.toInt tri min (u.1 1) n.toInt r) ∧ (∀ j : Nat, j < 8 → coC few top (nI j) ((u.1 1) j)) ∧ (rg 48 (0) (6) (u.1 0)) ∧ (rg 8 (0) (15) (u.1 2))) (Bw (dC, dI) A (fun u : US => (wPln cI cZ cQ a min tri bes (u.1 2) (u.1 1) rst bst top str gho ghs pto (u.1 0) pla wal fal tel gai day mar few doo))) A) ([.ref (a 16), .int n] : List Value).toArray s 0 0 A) (F0 m 6 ls []) := by
    intro nn
    induction nn with
    | zero =>
      intro y6_2 wkd_6 H locs ls r_wkd_6 i6_0 i6_1 i6_2 i6_3 i6_4 hm6
      exact absurd hm6 (Nat.not_lt_zero _)
    | succ nn ih6 =>
      intro y6_2 wkd_6 H locs ls r_wkd_6 i6_0 i6_1 i6_2 i6_3 i6_4 hm6 hP hD hS hl
      refine lv_iload_n hx hb dX3_strengthBehindTrial_6 rfl (lv_at hl 2 rfl) ?_
      refine lv_iload_n hx hb dX3_strengthBehindTrial_7 rfl (lv_at hl 1 rfl) ?_
      refine lv_icmp_ge (tgt := 54) hx hb dX3_strengthBehindTrial_8 (by decide) (fun c7 => ?_) (fun c7 => ?_)
      · have dc7 : n.toInt ≤ y6_2.toInt := leC rfl rfl c7
        refine lv_iconst (v := 0) hx hb dX3_strengthBehindTrial_54 (by decide) ?_
        refine lv_istore_n (lv' := [(2, .int 0), (0, .ref (a 16)), (1, .int n)]) hx hb dX3_strengthBehindTrial_55 rfl hl (by decide) rfl (fun ls hl => ?_)
        refine lv_iconst (v := 0) hx hb dX3_strengthBehindTrial_56 (by decide) ?_
        refine lv_istore_n (lv' := [(3, .int 0), (2, .int 0), (0, .ref (a 16)), (1, .int n)]) hx hb dX3_strengthBehindTrial_57 rfl hl (by decide) rfl (fun ls hl => ?_)
        have L58 : ∀ (nn : Nat) (y58_2 : Int32) (y58_3 : Int32) (H : Heap) (locs : List Loc) (ls : Array Slot), (0 ≤ (y58_3.toInt)) → ((y58_3.toInt) ≤ 8) → (0 ≤ (y58_2.toInt)) → ((y58_2.toInt) ≤ 4800) → ((y58_2.toInt) ≤ 600 * (y58_3.toInt)) → ((y58_2.toInt) = srF top (plU mar fal top str tel gai.toInt tri n.toInt.toNat) 0 (6 * (y58_3.toInt)).toNat) → (8 - (y58_3.toInt)).toNat < nn → va_P (dC, dI) vwCl (wPln cI cZ cQ a min tri bes wkd_6 cos_c5 rst bst top str gho ghs pto cro_c4 pla wal fal tel gai day mar few doo) H → va_D A (wPln cI cZ cQ a min tri bes wkd_6 cos_c5 rst bst top str gho ghs pto cro_c4 pla wal fal tel gai day mar few doo) → va_S A s.heap H locs → lv_has ls 4 [(0, .ref (a 16)), (1, .int n), (2, .int y58_2), (3, .int y58_3)] → W p l e (headSpec wsX3_strengthBehindTrial { frames := 6, cells := 0, slots := 0, locals := 130 }).room s m ([.ref (a 16), .int n] : List Value).toArray below meth c H locs 0 0 (MQ below (va_Qi (fun (r : Int32) (u : US) => (jdC mar fal top str tel gai.toInt tri min (u.1 1) n.toInt r) ∧ (∀ j : Nat, j < 8 → coC few top (nI j) ((u.1 1) j)) ∧ (rg 48 (0) (6) (u.1 0)) ∧ (rg 8 (0) (15) (u.1 2))) (Bw (dC, dI) A (fun u : US => (wPln cI cZ cQ a min tri bes (u.1 2) (u.1 1) rst bst top str gho ghs pto (u.1 0) pla wal fal tel gai day mar few doo))) A) ([.ref (a 16), .int n] : List Value).toArray s 0 0 A) (F0 m 58 ls []) := by
          intro nn
          induction nn with
          | zero =>
            intro y58_2 y58_3 H locs ls i58_0 i58_1 i58_2 i58_3 i58_4 i58_5 hm58
            exact absurd hm58 (Nat.not_lt_zero _)
          | succ nn ih58 =>
            intro y58_2 y58_3 H locs ls i58_0 i58_1 i58_2 i58_3 i58_4 i58_5 hm58 hP hD hS hl
            refine lv_iload_n hx hb dX3_strengthBehindTrial_58 rfl (lv_at hl 3 rfl) ?_
            refine lv_bipush (v := 8) hx hb dX3_strengthBehindTrial_59 (by decide) ?_
            refine lv_icmp_ge (tgt := 85) hx hb dX3_strengthBehindTrial_61 (by decide) (fun c8 => ?_) (fun c8 => ?_)
            · have dc8 : 8 ≤ y58_3.toInt := leC (show (8 : Int32).toInt = 8 from rfl) rfl c8
              refine lv_iload_n hx hb dX3_strengthBehindTrial_85 rfl (lv_at hl 2 rfl) ?_
              exact W.iret (v := y58_2) hx hb hr (fun tq ht hW => ⟨⟨y58_2, (uS [cro_c4, cos_c5, wkd_6] 0 (fun _ => 0)), rfl, ⟨(show jdC mar fal top str tel gai.toInt tri min cos_c5 n.toInt y58_2 from by (first | exact jd_n (by assumption) (by omega) (by assumption) (by omega) (by omega) | exact Or.inr ⟨wa_c i6_3 (by omega), sr_e i58_5 rfl (by omega)⟩)), (show ∀ j : Nat, j < 8 → coC few top (nI j) (cos_c5 j) from by exact pr_co (by assumption)), h2_2, r_wkd_6⟩, by rw [ht]; exact hP, hD⟩, hS.F ht⟩) hS.2.2 dX3_strengthBehindTrial_86
            · have dc8 : y58_3.toInt < 8 := nleC (show (8 : Int32).toInt = 8 from rfl) rfl c8
              refine lv_iload_n hx hb dX3_strengthBehindTrial_64 rfl (lv_at hl 2 rfl) ?_
              refine lv_aload_n hx hb dX3_strengthBehindTrial_65 rfl (lv_at hl 0 rfl) ?_
              refine lv_iload_n hx hb dX3_strengthBehindTrial_66 rfl (lv_at hl 3 rfl) ?_
              refine lv_iload_n hx hb dX3_strengthBehindTrial_67 rfl (lv_at hl 1 rfl) ?_
              refine lv_aload_n hx hb dX3_strengthBehindTrial_68 rfl (lv_at hl 0 rfl) ?_
              refine va_get (D := (dC, dI)) (ci := 3) (v := .ref (a 20)) (C := RX3) (T := TX3) (N := 9) hx hb hts inX3 hown hK hP 0 rfl rfl 5 (by decide) lf21 (fun _ h9 => h9) rfl dX3_strengthBehindTrial_69 ?_
              refine lv_iload_n hx hb dX3_strengthBehindTrial_72 rfl (lv_at hl 3 rfl) ?_
              have b9 : vp_in y58_3 8 := inC rfl (by omega) (by omega)
              refine va_iald hx hb hK hP 4 0 rfl rfl b9 dX3_strengthBehindTrial_73 ?_
              have g10 : 0 ≤ (wkd_6 y58_3.toNatClampNeg).toInt ∧ (wkd_6 y58_3.toNatClampNeg).toInt ≤ 15 := rg_at r_wkd_6 b9
              refine rdV (As := [.int y58_3, .int n, .int (wkd_6 y58_3.toNatClampNeg)]) (rest := [.int y58_2]) ⟨hx, hb, hml, hown, hts⟩ (k_X3_strengthOfRoom2 l dC dI cI cZ cQ a min tri bes wkd_6 cos_c5 rst bst top str gho ghs pto cro_c4 pla wal fal tel gai day mar few doo y58_3 n (wkd_6 y58_3.toNatClampNeg) r_wkd_6 r_top r_str r_gho r_ghs h2_2 r_pla r_fal r_gai r_day r_mar (by omega) (by omega) (by omega) (by omega)) (cwV 3 hts gX3_strengthBehindTrial_X3_strengthOfRoom rfl rfl rfl (by decide +kernel) ⟨Nat.le_of_ble_eq_true rfl, Nat.le_of_ble_eq_true rfl⟩) hP hK hN [0, 1, 2, 3, 4, 5, 6, 7, 8, 9, 10, 11, 12, 13, 14, 15, 16, 17, 18, 19, 20] rfl 0 3 rfl rfl rfl hl.1 rfl (Nat.le_of_ble_eq_true rfl) dX3_strengthBehindTrial_74 ⟨Nat.le_of_ble_eq_true rfl, Nat.le_of_ble_eq_true rfl⟩ (fun r11 h12 => ?_)
              have h12 : (0 ≤ r11.toInt) ∧ (r11.toInt ≤ 600) ∧ (r11.toInt = srF top (fun c => svF fal (cro_c4 c).toInt gai.toInt (bitW (wkd_6 y58_3.toNatClampNeg)) (str c).toInt n.toInt.toNat) (y58_3.toInt * 6).toNat 6) := h12
              obtain ⟨h12_0, h12_1, h12_2⟩ := h12
              refine lv_iadd hx hb dX3_strengthBehindTrial_77 ?_
              have f13 : (y58_2 + r11).toInt = (y58_2.toInt) + (r11.toInt) := addC rfl rfl (by omega) (by omega)
              refine lv_topi (fun x14 ex14 => ?_)
              have ix14 : x14.toInt = (y58_2.toInt) + (r11.toInt) := by rw [ex14]; exact f13
              refine lv_istore_n (lv' := [(2, .int x14), (0, .ref (a 16)), (1, .int n), (3, .int y58_3)]) hx hb dX3_strengthBehindTrial_78 rfl hl (by decide) rfl (fun ls hl => ?_)
              obtain ⟨z15, ez15⟩ : ∃ y : Int32, y = y58_3 + 1 := ⟨_, rfl⟩
              have iz15 : z15.toInt = y58_3.toInt + 1 := by rw [ez15]; exact addC rfl rfl (by omega) (by omega)
              refine lv_iinc (v := z15) (lv' := [(3, .int z15), (2, .int x14), (0, .ref (a 16)), (1, .int n)]) hx hb dX3_strengthBehindTrial_79 hl (k := 3) rfl (by rw [ez15]; rfl) (by decide) rfl (fun ls hl => ?_)
              refine lv_goto (tgt := 58) hx hb dX3_strengthBehindTrial_82 (by decide) ?_
              exact ih58 x14 z15 _ _ _ (by omega) (by omega) (by omega) (by omega) (by omega) (by (first | exact jd_sum (y := y58_3) i58_5 (by assumption) (by assumption) (wd_c i6_2 (by omega)) (by omega) (by omega) (by omega) (by omega) (by omega) (by omega) | exact sr_0 (by first | rfl | omega) (by first | rfl | omega))) (by omega) hP hD hS (lv_sub hl [2, 3, 1, 0] rfl)
        have kc16 : (0 : Int32).toInt = 0 := rfl
        exact L58 _ 0 0 _ _ _ (by omega) (by omega) (by omega) (by omega) (by omega) (by (first | exact jd_sum (y := y58_3) i58_5 (by assumption) (by assumption) (wd_c i6_2 (by omega)) (by omega) (by omega) (by omega) (by omega) (by omega) (by omega) | exact sr_0 (by first | rfl | omega) (by first | rfl | omega))) (Nat.lt_succ_self _) hP hD hS (lv_sub hl [2, 3, 1, 0] rfl)
      · have dc7 : y6_2.toInt < n.toInt := nleC rfl rfl c7
        have wtri := q3 y6_2.toNatClampNeg (by rw [clC (x := y6_2) rfl]; omega)
        refine lv_aload_n hx hb dX3_strengthBehindTrial_11 rfl (lv_at hl 0 rfl) ?_
        refine va_get (D := (dC, dI)) (ci := 3) (v := .ref (a 18)) (C := RX3) (T := TX3) (N := 9) hx hb hts inX3 hown hK hP 0 rfl rfl 3 (by decide) lf15 (fun _ h9 => h9) rfl dX3_strengthBehindTrial_12 ?_
        refine lv_iload_n hx hb dX3_strengthBehindTrial_15 rfl (lv_at hl 2 rfl) ?_
        have b17 : vp_in y6_2 4 := inC rfl (by omega) (by omega)
        refine va_iald hx hb hK hP 2 0 rfl rfl b17 dX3_strengthBehindTrial_16 ?_
        refine lv_topi (fun x18 ex18 => ?_)
        have ix18 : x18.toInt = (tri y6_2.toNatClampNeg).toInt := by rw [ex18]
        refine lv_istore_n (lv' := [(3, .int x18), (0, .ref (a 16)), (1, .int n), (2, .int y6_2)]) hx hb dX3_strengthBehindTrial_17 rfl hl (by decide) rfl (fun ls hl => ?_)
        refine lv_iload_n hx hb dX3_strengthBehindTrial_18 rfl (lv_at hl 0 rfl) ?_
        refine rdSN (As := [.int x18]) (rest := []) ⟨hx, hb, hml, hown, hts⟩ (k_X9_isRoom l dC dI cI cZ cQ x18) ⟨va_cnB (host := "PalaceOfRooms") 1 hts gX3_strengthBehindTrial_X9_isRoom_n53 rfl rfl rfl (hN _ (by decide +kernel)) (hts (.initialized RX9) (List.mem_cons_of_mem _ (List.mem_append_left _ (List.mem_append_left _ (List.mem_append_left _ (List.mem_append_left _ (List.mem_append_right _ (List.mem_append_right _ (List.mem_append_left _ (List.mem_of_getElem? (i := 7) rfl)))))))))) (by decide +kernel) ⟨Nat.le_of_ble_eq_true rfl, Nat.le_of_ble_eq_true rfl⟩, hts (.static yX9_isRoom) (List.mem_cons_of_mem _ (List.mem_append_left _ (List.mem_append_left _ (List.mem_append_left _ (List.mem_append_left _ (List.mem_append_right _ (List.mem_append_right _ (List.mem_append_left _ (List.mem_of_getElem? (i := 6) rfl))))))))), trivial⟩ hP hK hN [] rfl rfl hl.1 rfl (Nat.le_of_ble_eq_true rfl) dX3_strengthBehindTrial_19 ⟨Nat.le_of_ble_eq_true rfl, Nat.le_of_ble_eq_true rfl⟩ (fun r19 h20 => ?_)
        have h20 : ((((r19 = 1) ∧ (0 ≤ x18.toInt) ∧ (x18.toInt ≤ 7)) ∨ ((r19 = 0) ∧ (x18.toInt < 0 ∨ 7 < x18.toInt)))) := h20
        rcases h20 with (⟨rfl, h20_a0, h20_a1⟩ | ⟨rfl, h20_a0⟩)
        · refine lv_if_eq (tgt := 48) hx hb dX3_strengthBehindTrial_22 (by decide) (fun c9 => absurd c9 (by decide)) (fun _ => ?_)
          refine lv_aload_n hx hb dX3_strengthBehindTrial_25 rfl (lv_at hl 1 rfl) ?_
          refine lv_iload_n hx hb dX3_strengthBehindTrial_26 rfl (lv_at hl 0 rfl) ?_
          refine lv_iload_n hx hb dX3_strengthBehindTrial_27 rfl (lv_at hl 3 rfl) ?_
          refine rdV (As := [.int x18, .int y6_2]) (rest := []) ⟨hx, hb, hml, hown, hts⟩ (k_X3_walkable2 l dC dI cI cZ cQ a min tri bes wkd_6 cos_c5 rst bst top str gho ghs pto cro_c4 pla wal fal tel gai day mar few doo x18 y6_2 r_wkd_6 r_top r_str r_gho r_ghs h2_2 r_pla r_fal r_gai r_day r_mar (by omega) (by omega) (by omega) (by omega)) (cwV 2 hts gX3_strengthBehindTrial_X3_walkable rfl rfl rfl (by decide +kernel) ⟨Nat.le_of_ble_eq_true rfl, Nat.le_of_ble_eq_true rfl⟩) hP hK hN [0, 1, 2, 3, 4, 5, 6, 7, 8, 9, 10, 11, 12, 13, 14, 15, 16, 17, 18, 19, 20] rfl 0 3 rfl rfl rfl hl.1 rfl (Nat.le_of_ble_eq_true rfl) dX3_strengthBehindTrial_28 ⟨Nat.le_of_ble_eq_true rfl, Nat.le_of_ble_eq_true rfl⟩ (fun r21 h22 => ?_)
          have h22 : ((((r21 = 1) ∧ (wkb (cos_c5 x18.toNatClampNeg) (min y6_2.toNatClampNeg))) ∨ ((r21 = 0) ∧ (¬ wkb (cos_c5 x18.toNatClampNeg) (min y6_2.toNatClampNeg))))) := h22
          rcases h22 with (⟨rfl, h22_a0⟩ | ⟨rfl, h22_a0⟩)
          · refine lv_if_ne (tgt := 36) hx hb dX3_strengthBehindTrial_31 (by decide) (fun _ => ?_) (fun c9 => absurd c9 (by decide))
            refine lv_aload_n hx hb dX3_strengthBehindTrial_36 rfl (lv_at hl 1 rfl) ?_
            refine va_get (D := (dC, dI)) (ci := 3) (v := .ref (a 20)) (C := RX3) (T := TX3) (N := 9) hx hb hts inX3 hown hK hP 0 rfl rfl 5 (by decide) lf21 (fun _ h9 => h9) rfl dX3_strengthBehindTrial_37 ?_
            refine lv_iload_n hx hb dX3_strengthBehindTrial_40 rfl (lv_at hl 0 rfl) ?_
            refine lv_dup2_11 hx hb dX3_strengthBehindTrial_41 rfl rfl ?_
            have b23 : vp_in x18 8 := inC rfl (by omega) (by omega)
            refine va_iald hx hb hK hP 4 0 rfl rfl b23 dX3_strengthBehindTrial_42 ?_
            have g24 : 0 ≤ (wkd_6 x18.toNatClampNeg).toInt ∧ (wkd_6 x18.toNatClampNeg).toInt ≤ 15 := rg_at r_wkd_6 b23
            refine lv_iconst (v := 1) hx hb dX3_strengthBehindTrial_43 (by decide) ?_
            refine lv_iload_n hx hb dX3_strengthBehindTrial_44 rfl (lv_at hl 3 rfl) ?_
            refine lv_ishl hx hb dX3_strengthBehindTrial_45 ?_
            have f25 : 1 ≤ ((1 : Int32) <<< (y6_2 &&& 31)).toInt ∧ ((1 : Int32) <<< (y6_2 &&& 31)).toInt ≤ 8 := shl1 rfl (by omega) 3 (by omega) (by decide)
            refine lv_ior hx hb dX3_strengthBehindTrial_46 ?_
            have f26 : 0 ≤ ((wkd_6 x18.toNatClampNeg) ||| ((1 : Int32) <<< (y6_2 &&& 31))).toInt ∧ ((wkd_6 x18.toNatClampNeg) ||| ((1 : Int32) <<< (y6_2 &&& 31))).toInt ≤ 15 := orB rfl rfl 4 (by omega) (by omega) (by omega) (by omega) (by decide)
            refine lv_topi (fun x27 ex27 => ?_)
            have ix27 : x27.toInt = ((wkd_6 x18.toNatClampNeg) ||| ((1 : Int32) <<< (y6_2 &&& 31))).toInt := by rw [ex27]
            have b28 : vp_in x18 8 := inC rfl (by omega) (by omega)
            have g29 : rg 8 (0) (15) (upd wkd_6 x18.toNatClampNeg x27) := rg_upd r_wkd_6 rfl (by omega) (by omega)
            refine va_iast hx hb hK hP hD hS 4 0 rfl rfl b28 dX3_strengthBehindTrial_47 (fun H locs hP hD hS => ?_)
            obtain ⟨wkd_u30, ewkd_u30⟩ : ∃ f : Nat → Int32, f = upd wkd_6 x18.toNatClampNeg x27 := ⟨_, rfl⟩
            have rwkd_u30 : rg 8 (0) (15) wkd_u30 := by rw [ewkd_u30]; exact g29
            have hP : va_P (dC, dI) vwCl (wPln cI cZ cQ a min tri bes wkd_u30 cos_c5 rst bst top str gho ghs pto cro_c4 pla wal fal tel gai day mar few doo) H := by rw [ewkd_u30]; exact hP
            have hD : va_D A (wPln cI cZ cQ a min tri bes wkd_u30 cos_c5 rst bst top str gho ghs pto cro_c4 pla wal fal tel gai day mar few doo) := by rw [ewkd_u30]; exact hD
            obtain ⟨z31, ez31⟩ : ∃ y : Int32, y = y6_2 + 1 := ⟨_, rfl⟩
            have iz31 : z31.toInt = y6_2.toInt + 1 := by rw [ez31]; exact addC rfl rfl (by omega) (by omega)
            refine lv_iinc (v := z31) (lv' := [(2, .int z31), (3, .int x18), (0, .ref (a 16)), (1, .int n)]) hx hb dX3_strengthBehindTrial_48 hl (k := 3) rfl (by rw [ez31]; rfl) (by decide) rfl (fun ls hl => ?_)
            refine lv_goto (tgt := 6) hx hb dX3_strengthBehindTrial_51 (by decide) ?_
            exact ih6 z31 wkd_u30 _ _ _ rwkd_u30 (by omega) (by omega) (by (first | exact wd_y i6_2 r_wkd_6 (by assumption) (by assumption) (by omega) (by assumption) (by omega) (by omega) (by omega) | exact wd_n i6_2 (by assumption) (by omega) (by omega) (by omega) | exact wd_P (by assumption) (by first | rfl | omega))) (by (first | exact wa_y i6_3 (by assumption) (by assumption) (by omega) (by omega) | exact wa_n i6_3 (by assumption) (by omega) (by omega) (by omega) | exact wa_0 (by first | rfl | omega))) (by omega) (by omega) hP hD hS (lv_sub hl [2, 3, 0] rfl)
          · refine lv_if_ne (tgt := 36) hx hb dX3_strengthBehindTrial_31 (by decide) (fun c9 => absurd (by decide) c9) (fun _ => ?_)
            refine lv_iconst (v := (-1)) hx hb dX3_strengthBehindTrial_34 (by decide) ?_
            exact W.iret (v := (-1)) hx hb hr (fun tq ht hW => ⟨⟨(-1), (uS [cro_c4, cos_c5, wkd_6] 0 (fun _ => 0)), rfl, ⟨(show jdC mar fal top str tel gai.toInt tri min cos_c5 n.toInt ((-1) : Int32) from by (try rw [show ((-1) : Int32).toInt = (-1) from (show ((-1) : Int32).toInt = (-1) from rfl)]); (first | exact jd_n (by assumption) (by omega) (by assumption) (by omega) (by omega) | exact Or.inr ⟨wa_c i6_3 (by omega), sr_e i58_5 rfl (by omega)⟩)), (show ∀ j : Nat, j < 8 → coC few top (nI j) (cos_c5 j) from by (try rw [show ((-1) : Int32).toInt = (-1) from (show ((-1) : Int32).toInt = (-1) from rfl)]); exact pr_co (by assumption)), h2_2, r_wkd_6⟩, by rw [ht]; exact hP, hD⟩, hS.F ht⟩) hS.2.2 dX3_strengthBehindTrial_35
        · refine lv_if_eq (tgt := 48) hx hb dX3_strengthBehindTrial_22 (by decide) (fun _ => ?_) (fun c9 => absurd (by decide) c9)
          obtain ⟨z32, ez32⟩ : ∃ y : Int32, y = y6_2 + 1 := ⟨_, rfl⟩
          have iz32 : z32.toInt = y6_2.toInt + 1 := by rw [ez32]; exact addC rfl rfl (by omega) (by omega)
          refine lv_iinc (v := z32) (lv' := [(2, .int z32), (3, .int x18), (0, .ref (a 16)), (1, .int n)]) hx hb dX3_strengthBehindTrial_48 hl (k := 3) rfl (by rw [ez32]; rfl) (by decide) rfl (fun ls hl => ?_)
          refine lv_goto (tgt := 6) hx hb dX3_strengthBehindTrial_51 (by decide) ?_
          exact ih6 z32 wkd_6 _ _ _ r_wkd_6 (by omega) (by omega) (by (first | exact wd_y i6_2 r_wkd_6 (by assumption) (by assumption) (by omega) (by assumption) (by omega) (by omega) (by omega) | exact wd_n i6_2 (by assumption) (by omega) (by omega) (by omega) | exact wd_P (by assumption) (by first | rfl | omega))) (by (first | exact wa_y i6_3 (by assumption) (by assumption) (by omega) (by omega) | exact wa_n i6_3 (by assumption) (by omega) (by omega) (by omega) | exact wa_0 (by first | rfl | omega))) (by omega) (by omega) hP hD hS (lv_sub hl [2, 3, 0] rfl)
  have kc33 : (0 : Int32).toInt = 0 := rfl
  exact L6 _ 0 wkd_c6 _ _ _ h2_3 (by omega) (by omega) (by (first | exact wd_y i6_2 r_wkd_6 (by assumption) (by assumption) (by omega) (by assumption) (by omega) (by omega) (by omega) | exact wd_n i6_2 (by assumption) (by omega) (by omega) (by omega) | exact wd_P (by assumption) (by first | rfl | omega))) (by (first | exact wa_y i6_3 (by assumption) (by assumption) (by omega) (by omega) | exact wa_n i6_3 (by assumption) (by omega) (by omega) (by omega) | exact wa_0 (by first | rfl | omega))) (by omega) (Nat.lt_succ_self _) hP hD hS (lv_sub hl [1, 2, 0] rfl)
set_option maxHeartbeats 4000000 in
set_option maxRecDepth 100000 in
theorem k_X9_judge2 (l : Launch) (dC : Nat → ClassId) (dI : Nat → Nat → Nat) (cI cZ cQ : ClassId) (a : Nat → Nat) (rb0 : Nat) (rb1 : Nat) (rb2 : Nat) (db0 : Nat) (db1 : Nat) (db2 : Nat) (min : Nat → Int32) (tri : Nat → Int32) (bes : Nat → Int32) (wkd : Nat → Int32) (cos : Nat → Int32) (rst : Nat → Int32) (bst : Int32) (top : Nat → Int32) (str : Nat → Int32) (gho : Nat → Int32) (ghs : Nat → Int32) (pto : Nat → Int32) (cro : Nat → Int32) (pla : Nat → Int32) (wal : Nat → Int32) (fal : Nat → Int32) (tel : Int32) (gai : Int32) (day : Int32) (mar : Nat → Int32) (few : Nat → Int32) (doo : Int32) (sz : Nat) (row : Int32) (n : Int32) (mi : Int32) (r_wkd : rg 8 (0) (15) wkd) (r_top : rg 48 (-1) (23) top) (r_str : rg 48 (0) (100) str) (r_gho : rg 48 (-1) (23) gho) (r_ghs : rg 48 (0) (100) ghs) (r_cro : rg 48 (0) (6) cro) (r_pla : rg 24 (-1) (47) pla) (r_fal : rg 11 (0) (30) fal) (r_gai : 0 ≤ gai.toInt ∧ gai.toInt ≤ 100) (r_day : 0 ≤ day.toInt ∧ day.toInt ≤ 400) (r_mar : rg 24 (0) (255) mar) (q0 : mtOK few) : KW l yX9_judge wsX9_judge { frames := 7, cells := 0, slots := 0, locals := 153 } (dC, dI) (TY cI cZ cQ) (wsPl cI cZ cQ a rb0 rb1 rb2 db0 db1 db2 min tri bes wkd cos rst bst top str gho ghs pto cro pla wal fal tel gai day mar few doo) [.ref (a 43), .int row, .int n, .int mi] sz 0 0 (fun (r : Int32) (u : US) => (spJdgC few mar fal top str tel gai.toInt row n mi r) ∧ (rg 48 (0) (6) (u.1 2)) ∧ (rg 8 (0) (15) (u.1 4))) (fun u : US => (wsPl cI cZ cQ a rb0 rb1 rb2 db0 db1 db2 (u.1 0) (u.1 1) bes (u.1 4) (u.1 3) rst bst top str gho ghs pto (u.1 2) pla wal fal tel gai day mar few doo)) := by
  refine Met.ofW (cc := cX9_judge) (maxL := 4) (ret := (some .int)) (by decide) rfl ?_
  intro p e s m args below meth c s₁ B hml hv
  obtain ⟨rfl, hsz, hP, hK, hD0, hN⟩ := hv
  have hx := B.exec
  have hb := B.bytes
  have hr := B.returns
  have hts := atoms_spec (ws := wsX9_judge) B.pre
  have hown : s.vm.findClass RX9 = some m.cls := findClass_of_methodNamed B.named
  have hlocks := B.notSynchronized
  have lf44 := hts (.fieldLink RX9 44 "PalaceOfRooms" "planner" "LPalaceOfRooms$Planner;") (List.mem_cons_of_mem _ (List.mem_append_left _ (List.mem_append_left _ (List.mem_append_left _ (List.mem_append_left _ (List.mem_append_left _ (List.mem_append_left _ (List.mem_of_getElem? (i := 0) rfl))))))))
  have inX9 : ∀ w ∈ wsX90, w ∈ wsX9_judge := fun w h => List.mem_cons_of_mem _ (List.mem_append_left _ (List.mem_append_left _ (List.mem_append_left _ (List.mem_append_left _ (List.mem_append_right _ h)))))
  subst hsz
  have hD := hD0.self (sz := s.heap.size)
  generalize hAe : va_A (wsPl cI cZ cQ a rb0 rb1 rb2 db0 db1 db2 min tri bes wkd cos rst bst top str gho ghs pto cro pla wal fal tel gai day mar few doo) s.heap.size = A at hD ⊢
  have hA : ∀ q : Nat, s.heap.size ≤ q → A q := fun q h => by rw [← hAe]; exact Or.inr h
  have hS : va_S A s.heap s.heap [] := va_S.rf
  have hl := lv_entry ([.ref (a 43), .int row, .int n, .int mi]) (n := 4) (Nat.le_of_ble_eq_true rfl)
  rw [lg_entry_eq]
  generalize (lg_sl ([.ref (a 43), .int row, .int n, .int mi]) ++ List.replicate (4 - (lg_sl ([.ref (a 43), .int row, .int n, .int mi])).length) Slot.unset).toArray = ls at hl ⊢
  have hl : lv_has ls 4 [(0, .ref (a 43)), (1, .int row), (2, .int n), (3, .int mi)] := hl
  refine lv_iload_n hx hb dX9_judge_0 rfl (lv_at hl 2 rfl) ?_
  refine lv_iconst (v := 1) hx hb dX9_judge_1 (by decide) ?_
  refine lv_iconst (v := 4) hx hb dX9_judge_2 (by decide) ?_
  refine rdS (As := [.int n, .int 1, .int 4]) (rest := []) ⟨hx, hb, hml, hown, hts⟩ (k_X9_within l dC dI cI cZ cQ n (1 : Int32) (4 : Int32)) (va_cwS 3 hts gX9_judge_X9_within rfl rfl rfl (by decide +kernel) ⟨Nat.le_of_ble_eq_true rfl, Nat.le_of_ble_eq_true rfl⟩) hP hK hN [] rfl rfl hl.1 rfl (Nat.le_of_ble_eq_true rfl) dX9_judge_3 ⟨Nat.le_of_ble_eq_true rfl, Nat.le_of_ble_eq_true rfl⟩ (fun r1 h2 => ?_)
  have h2 : ((((r1 = 1) ∧ ((1) ≤ n.toInt) ∧ (n.toInt ≤ (4))) ∨ ((r1 = 0) ∧ (n.toInt < (1) ∨ (4) < n.toInt)))) := h2
  rcases h2 with (⟨rfl, h2_a0, h2_a1⟩ | ⟨rfl, h2_a0⟩)
  · refine lv_if_eq (tgt := 33) hx hb dX9_judge_6 (by decide) (fun c9 => absurd c9 (by decide)) (fun _ => ?_)
    refine lv_aload_n hx hb dX9_judge_9 rfl (lv_at hl 0 rfl) ?_
    refine va_get (D := (dC, dI)) (ci := 9) (v := .ref (a 16)) (C := RX9) (T := TX9) (N := 11) hx hb hts inX9 hown hK hP 0 rfl rfl 4 (by decide) lf44 (fun _ h9 => h9) rfl dX9_judge_10 ?_
    refine lv_iload_n hx hb dX9_judge_13 rfl (lv_at hl 1 rfl) ?_
    refine lv_iload_n hx hb dX9_judge_14 rfl (lv_at hl 2 rfl) ?_
    refine wrV (As := [.int row, .int n]) (rest := []) (wr := [((a 43), .inr (9, [.ref (a 0), .ref (a 2), .ref (a 4), .ref (a 14), .ref (a 16), .ref (a 23), .ref (a 28), .ref (a 33), .ref (a 42), .ref rb0, .ref db0]))]) (w2 := (fun u : US => (wsPl cI cZ cQ a rb0 rb1 rb2 db0 db1 db2 min (u.1 0) bes wkd cos rst bst top str gho ghs pto cro pla wal fal tel gai day mar few doo))) ⟨hx, hb, hml, hown, hts⟩ (k_X3_takeRooms2 l dC dI cI cZ cQ a min tri bes wkd cos rst bst top str gho ghs pto cro pla wal fal tel gai day mar few doo _ row n r_wkd r_top r_str r_gho r_ghs r_cro r_pla r_fal r_gai r_day r_mar (by omega) (by omega)) (cwV 2 hts gX9_judge_X3_takeRooms rfl rfl rfl (by decide +kernel) ⟨Nat.le_of_ble_eq_true rfl, Nat.le_of_ble_eq_true rfl⟩) hP hD hS hA hK hN [1, 2, 3, 4, 5, 6, 7, 8, 9, 10, 11, 12, 13, 14, 15, 16, 17, 18, 19, 20, 21] [0] [0, 1, 2, 3, 4, 5, 6, 7, 8, 9, 10, 11, 12, 13, 14, 15, 16, 17, 18, 19, 20, 21] rfl rfl (by decide) (by decide) (by decide) (fun _ => rfl) (by decide) 1 3 rfl rfl rfl hl.1 rfl (Nat.le_of_ble_eq_true rfl) dX9_judge_15 ⟨Nat.le_of_ble_eq_true rfl, Nat.le_of_ble_eq_true rfl⟩ (fun r3 u5 H locs h4 hP hD hS => ?_)
    obtain ⟨tri_c6, etri_c6⟩ : ∃ f : Nat → Int32, f = (u5.1 0) := ⟨_, rfl⟩
    have hP : va_P (dC, dI) vwCl (wsPl cI cZ cQ a rb0 rb1 rb2 db0 db1 db2 min tri_c6 bes wkd cos rst bst top str gho ghs pto cro pla wal fal tel gai day mar few doo) H := by rw [etri_c6]; exact hP
    have hD : va_D A (wsPl cI cZ cQ a rb0 rb1 rb2 db0 db1 db2 min tri_c6 bes wkd cos rst bst top str gho ghs pto cro pla wal fal tel gai day mar few doo) := by rw [etri_c6]; exact hD
    have h4 : ((((r3 = 1) ∧ (twI (rmW row) 8 n.toInt tri_c6)) ∨ ((r3 = 0) ∧ (∃ j : Nat, (j : Int) < n.toInt ∧ 8 < (rmW row j).toInt)))) := by (try rw [etri_c6]); exact h4
    rcases h4 with (⟨rfl, h4_a0⟩ | ⟨rfl, h4_a0⟩)
    · refine lv_if_eq (tgt := 33) hx hb dX9_judge_18 (by decide) (fun c9 => absurd c9 (by decide)) (fun _ => ?_)
      refine lv_aload_n hx hb dX9_judge_21 rfl (lv_at hl 0 rfl) ?_
      refine va_get (D := (dC, dI)) (ci := 9) (v := .ref (a 16)) (C := RX9) (T := TX9) (N := 11) hx hb hts inX9 hown hK hP 0 rfl rfl 4 (by decide) lf44 (fun _ h9 => h9) rfl dX9_judge_22 ?_
      refine lv_iload_n hx hb dX9_judge_25 rfl (lv_at hl 3 rfl) ?_
      refine lv_iload_n hx hb dX9_judge_26 rfl (lv_at hl 2 rfl) ?_
      refine wrV (As := [.int mi, .int n]) (rest := []) (wr := [((a 43), .inr (9, [.ref (a 0), .ref (a 2), .ref (a 4), .ref (a 14), .ref (a 16), .ref (a 23), .ref (a 28), .ref (a 33), .ref (a 42), .ref rb0, .ref db0]))]) (w2 := (fun u : US => (wsPl cI cZ cQ a rb0 rb1 rb2 db0 db1 db2 (u.1 0) tri_c6 bes wkd cos rst bst top str gho ghs pto cro pla wal fal tel gai day mar few doo))) ⟨hx, hb, hml, hown, hts⟩ (k_X3_takeMinutes2 l dC dI cI cZ cQ a min tri_c6 bes wkd cos rst bst top str gho ghs pto cro pla wal fal tel gai day mar few doo _ mi n r_wkd r_top r_str r_gho r_ghs r_cro r_pla r_fal r_gai r_day r_mar (by omega) (by omega)) (cwV 2 hts gX9_judge_X3_takeMinutes rfl rfl rfl (by decide +kernel) ⟨Nat.le_of_ble_eq_true rfl, Nat.le_of_ble_eq_true rfl⟩) hP hD hS hA hK hN [1, 2, 3, 4, 5, 6, 7, 8, 9, 10, 11, 12, 13, 14, 15, 16, 17, 18, 19, 20, 21] [0] [0, 1, 2, 3, 4, 5, 6, 7, 8, 9, 10, 11, 12, 13, 14, 15, 16, 17, 18, 19, 20, 21] rfl rfl (by decide) (by decide) (by decide) (fun _ => rfl) (by decide) 1 3 rfl rfl rfl hl.1 rfl (Nat.le_of_ble_eq_true rfl) dX9_judge_27 ⟨Nat.le_of_ble_eq_true rfl, Nat.le_of_ble_eq_true rfl⟩ (fun r7 u9 H locs h8 hP hD hS => ?_)
      obtain ⟨min_c10, emin_c10⟩ : ∃ f : Nat → Int32, f = (u9.1 0) := ⟨_, rfl⟩
      have hP : va_P (dC, dI) vwCl (wsPl cI cZ cQ a rb0 rb1 rb2 db0 db1 db2 min_c10 tri_c6 bes wkd cos rst bst top str gho ghs pto cro pla wal fal tel gai day mar few doo) H := by rw [emin_c10]; exact hP
      have hD : va_D A (wsPl cI cZ cQ a rb0 rb1 rb2 db0 db1 db2 min_c10 tri_c6 bes wkd cos rst bst top str gho ghs pto cro pla wal fal tel gai day mar few doo) := by rw [emin_c10]; exact hD
      have h8 : ((((r7 = 1) ∧ (twI (mnW mi) 99 n.toInt min_c10)) ∨ ((r7 = 0) ∧ (∃ j : Nat, (j : Int) < n.toInt ∧ 99 < (mnW mi j).toInt)))) := by (try rw [emin_c10]); exact h8
      rcases h8 with (⟨rfl, h8_a0⟩ | ⟨rfl, h8_a0⟩)
      · refine lv_if_ne (tgt := 36) hx hb dX9_judge_30 (by decide) (fun _ => ?_) (fun c9 => absurd c9 (by decide))
        refine lv_aload_n hx hb dX9_judge_36 rfl (lv_at hl 0 rfl) ?_
        refine va_get (D := (dC, dI)) (ci := 9) (v := .ref (a 16)) (C := RX9) (T := TX9) (N := 11) hx hb hts inX9 hown hK hP 0 rfl rfl 4 (by decide) lf44 (fun _ h9 => h9) rfl dX9_judge_37 ?_
        refine lv_iload_n hx hb dX9_judge_40 rfl (lv_at hl 2 rfl) ?_
        refine wrV (As := [.int n]) (rest := []) (wr := [((a 43), .inr (9, [.ref (a 0), .ref (a 2), .ref (a 4), .ref (a 14), .ref (a 16), .ref (a 23), .ref (a 28), .ref (a 33), .ref (a 42), .ref rb0, .ref db0]))]) (w2 := (fun u : US => (wsPl cI cZ cQ a rb0 rb1 rb2 db0 db1 db2 min_c10 tri_c6 bes (u.1 2) (u.1 1) rst bst top str gho ghs pto (u.1 0) pla wal fal tel gai day mar few doo))) ⟨hx, hb, hml, hown, hts⟩ (k_X3_strengthBehindTrial2 l dC dI cI cZ cQ a min_c10 tri_c6 bes wkd cos rst bst top str gho ghs pto cro pla wal fal tel gai day mar few doo _ n r_wkd r_top r_str r_gho r_ghs r_cro r_pla r_fal r_gai r_day r_mar (by omega) (by omega) (by exact q0) (by exact tw_pre (by assumption))) (cwV 1 hts gX9_judge_X3_strengthBehindTrial rfl rfl rfl (by decide +kernel) ⟨Nat.le_of_ble_eq_true rfl, Nat.le_of_ble_eq_true rfl⟩) hP hD hS hA hK hN [1, 2, 3, 4, 5, 6, 7, 8, 9, 10, 11, 12, 13, 14, 15, 16, 17, 18, 19, 20, 21] [0] [0, 1, 2, 3, 4, 5, 6, 7, 8, 9, 10, 11, 12, 13, 14, 15, 16, 17, 18, 19, 20, 21] rfl rfl (by decide) (by decide) (by decide) (fun _ => rfl) (by decide) 1 3 rfl rfl rfl hl.1 rfl (Nat.le_of_ble_eq_true rfl) dX9_judge_41 ⟨Nat.le_of_ble_eq_true rfl, Nat.le_of_ble_eq_true rfl⟩ (fun r11 u13 H locs h12 hP hD hS => ?_)
        obtain ⟨cro_c14, ecro_c14⟩ : ∃ f : Nat → Int32, f = (u13.1 0) := ⟨_, rfl⟩
        obtain ⟨cos_c15, ecos_c15⟩ : ∃ f : Nat → Int32, f = (u13.1 1) := ⟨_, rfl⟩
        obtain ⟨wkd_c16, ewkd_c16⟩ : ∃ f : Nat → Int32, f = (u13.1 2) := ⟨_, rfl⟩
        have hP : va_P (dC, dI) vwCl (wsPl cI cZ cQ a rb0 rb1 rb2 db0 db1 db2 min_c10 tri_c6 bes wkd_c16 cos_c15 rst bst top str gho ghs pto cro_c14 pla wal fal tel gai day mar few doo) H := by rw [ecro_c14, ecos_c15, ewkd_c16]; exact hP
        have hD : va_D A (wsPl cI cZ cQ a rb0 rb1 rb2 db0 db1 db2 min_c10 tri_c6 bes wkd_c16 cos_c15 rst bst top str gho ghs pto cro_c14 pla wal fal tel gai day mar few doo) := by rw [ecro_c14, ecos_c15, ewkd_c16]; exact hD
        have h12 : (jdC mar fal top str tel gai.toInt tri_c6 min_c10 cos_c15 n.toInt r11) ∧ (∀ j : Nat, j < 8 → coC few top (nI j) (cos_c15 j)) ∧ (rg 48 (0) (6) cro_c14) ∧ (rg 8 (0) (15) wkd_c16) := by (try rw [ecro_c14]); (try rw [ecos_c15]); (try rw [ewkd_c16]); exact h12
        obtain ⟨h12_0, h12_1, h12_2, h12_3⟩ := h12
        exact W.iret (v := r11) hx hb hr (fun tq ht hW => ⟨⟨r11, (uS [min_c10, tri_c6, cro_c14, cos_c15, wkd_c16] 0 (fun _ => 0)), rfl, ⟨(show spJdgC few mar fal top str tel gai.toInt row n mi r11 from by (first | exact Or.inl ⟨Or.inl (by omega), rfl⟩ | exact Or.inl ⟨Or.inr (Or.inl (by omega)), rfl⟩ | exact Or.inl ⟨(by first | exact jb_1 (by omega) | exact Or.inr (Or.inr (Or.inl (by assumption))) | exact Or.inr (Or.inr (Or.inr (by assumption)))), rfl⟩ | exact Or.inr ⟨jo_k (by omega) (by assumption) (by assumption), _, by assumption, jd_conv (by assumption) (by assumption) (by assumption) (by omega)⟩)), h12_2, h12_3⟩, by rw [ht]; exact hP, hD⟩, hS.F ht⟩) hS.2.2 dX9_judge_44
      · refine lv_if_ne (tgt := 36) hx hb dX9_judge_30 (by decide) (fun c9 => absurd (by decide) c9) (fun _ => ?_)
        refine lv_bipush (v := (-3)) hx hb dX9_judge_33 (by decide) ?_
        exact W.iret (v := (-3)) hx hb hr (fun tq ht hW => ⟨⟨(-3), (uS [min_c10, tri_c6, cro, cos, wkd] 0 (fun _ => 0)), rfl, ⟨(show spJdgC few mar fal top str tel gai.toInt row n mi ((-3) : Int32) from by (try rw [show ((-3) : Int32).toInt = (-3) from (show ((-3) : Int32).toInt = (-3) from rfl)]); (first | exact Or.inl ⟨Or.inl (by omega), rfl⟩ | exact Or.inl ⟨Or.inr (Or.inl (by omega)), rfl⟩ | exact Or.inl ⟨(by first | exact jb_1 (by omega) | exact Or.inr (Or.inr (Or.inl (by assumption))) | exact Or.inr (Or.inr (Or.inr (by assumption)))), rfl⟩ | exact Or.inr ⟨jo_k (by omega) (by assumption) (by assumption), _, by assumption, jd_conv (by assumption) (by assumption) (by assumption) (by omega)⟩)), r_cro, r_wkd⟩, by rw [ht]; exact hP, hD⟩, hS.F ht⟩) hS.2.2 dX9_judge_35
    · refine lv_if_eq (tgt := 33) hx hb dX9_judge_18 (by decide) (fun _ => ?_) (fun c9 => absurd (by decide) c9)
      refine lv_bipush (v := (-3)) hx hb dX9_judge_33 (by decide) ?_
      exact W.iret (v := (-3)) hx hb hr (fun tq ht hW => ⟨⟨(-3), (uS [min, tri_c6, cro, cos, wkd] 0 (fun _ => 0)), rfl, ⟨(show spJdgC few mar fal top str tel gai.toInt row n mi ((-3) : Int32) from by (try rw [show ((-3) : Int32).toInt = (-3) from (show ((-3) : Int32).toInt = (-3) from rfl)]); (first | exact Or.inl ⟨Or.inl (by omega), rfl⟩ | exact Or.inl ⟨Or.inr (Or.inl (by omega)), rfl⟩ | exact Or.inl ⟨(by first | exact jb_1 (by omega) | exact Or.inr (Or.inr (Or.inl (by assumption))) | exact Or.inr (Or.inr (Or.inr (by assumption)))), rfl⟩ | exact Or.inr ⟨jo_k (by omega) (by assumption) (by assumption), _, by assumption, jd_conv (by assumption) (by assumption) (by assumption) (by omega)⟩)), r_cro, r_wkd⟩, by rw [ht]; exact hP, hD⟩, hS.F ht⟩) hS.2.2 dX9_judge_35
  · refine lv_if_eq (tgt := 33) hx hb dX9_judge_6 (by decide) (fun _ => ?_) (fun c9 => absurd (by decide) c9)
    refine lv_bipush (v := (-3)) hx hb dX9_judge_33 (by decide) ?_
    exact W.iret (v := (-3)) hx hb hr (fun tq ht hW => ⟨⟨(-3), (uS [min, tri, cro, cos, wkd] 0 (fun _ => 0)), rfl, ⟨(show spJdgC few mar fal top str tel gai.toInt row n mi ((-3) : Int32) from by (try rw [show ((-3) : Int32).toInt = (-3) from (show ((-3) : Int32).toInt = (-3) from rfl)]); (first | exact Or.inl ⟨Or.inl (by omega), rfl⟩ | exact Or.inl ⟨Or.inr (Or.inl (by omega)), rfl⟩ | exact Or.inl ⟨(by first | exact jb_1 (by omega) | exact Or.inr (Or.inr (Or.inl (by assumption))) | exact Or.inr (Or.inr (Or.inr (by assumption)))), rfl⟩ | exact Or.inr ⟨jo_k (by omega) (by assumption) (by assumption), _, by assumption, jd_conv (by assumption) (by assumption) (by assumption) (by omega)⟩)), r_cro, r_wkd⟩, by rw [ht]; exact hP, hD⟩, hS.F ht⟩) hS.2.2 dX9_judge_35
end
section
theorem am_k {n mi f : Int32} {i : Int} (q : amI n mi i f) (h : ¬ f = 0) : 1 ≤ n.toInt ∧ n.toInt ≤ 4 := by
  rcases q with ⟨_, a, _⟩ | ⟨a, _⟩
  · exact a
  · exact absurd a h
theorem am_f {n mi f : Int32} {i : Int} (q : amI n mi i f) : f = 1 ∨ f = 0 := q.imp (fun a => a.1) (fun a => a.1)
theorem am_e {n mi f : Int32} {i : Int} (q : amI n mi i f) (h : f = 0 ∨ n.toInt ≤ i ∨ f.toInt = 0) : (f = 1 ∧ 1 ≤ n.toInt ∧ n.toInt ≤ 4 ∧ ∀ j : Nat, (j : Int) < n.toInt → (mnW mi j).toInt < 100) ∨ (f = 0 ∧ (n.toInt < 1 ∨ 4 < n.toInt ∨ ∃ j : Nat, (j : Int) < n.toInt ∧ 99 < (mnW mi j).toInt)) := by
  rcases q with ⟨a, b, c⟩ | ⟨a, b⟩
  · rcases h with h | h | h
    · rw [a] at h; exact absurd h (by decide)
    · exact .inl ⟨a, b.1, b.2, fun j hj => c j (by omega)⟩
    · rw [a] at h; exact absurd h (by decide)
  · exact .inr ⟨a, b⟩
theorem aa_of {A : Nat → Int32} {x t y : Int32} {R L : Int} (h : R = L + (A x.toNatClampNeg).toInt) (hx : x.toInt = t.toInt + y.toInt) (h0 : 0 ≤ t.toInt) (h1 : 0 ≤ y.toInt) : R = L + (A (t.toInt.toNat + y.toNatClampNeg)).toInt := by
  rw [show t.toInt.toNat + y.toNatClampNeg = x.toNatClampNeg by rw [clC hx, clC (x := y) rfl]; omega]; exact h
theorem ig_st {A A1 : Nat → Int32} {b i : Int} (q : cpL A A1 b i) (hb : 0 ≤ b) (hb2 : b ≤ 144) : ∀ j : Nat, (j : Int) < b + 48 → A1 j = A j := fun j hj => (q j (by omega)).2 (by omega)
theorem jb_m {row n mi : Int32} (h : n.toInt < 1 ∨ 4 < n.toInt ∨ ∃ j : Nat, (j : Int) < n.toInt ∧ 99 < (mnW mi j).toInt) : bdJ row n mi := by
  rcases h with h | h | h
  · exact .inl h
  · exact .inr (.inl h)
  · exact .inr (.inr (.inr h))
theorem jo_m {row n mi : Int32} (h : 1 ≤ n.toInt ∧ n.toInt ≤ 4) (t : rwL row n.toInt) (m : ∀ j : Nat, (j : Int) < n.toInt → (mnW mi j).toInt < 100) : okJ row n mi := ⟨h, t, m⟩
set_option maxHeartbeats 4000000 in
set_option maxRecDepth 100000 in
theorem k_X10_areMinutes2 (l : Launch) (dC : Nat → ClassId) (dI : Nat → Nat → Nat) (cI cZ cQ : ClassId) (n : Int32) (mi : Int32)  : KR l yX10_areMinutes wsX10_areMinutes { frames := 1, cells := 0, slots := 0, locals := 22 } (dC, dI) (TY cI cZ cQ) (wNil cI cZ cQ) [.int n, .int mi] (fun r : Int32 => ((((r = 1) ∧ (1 ≤ n.toInt) ∧ (n.toInt ≤ 4) ∧ (∀ j : Nat, (j : Int) < n.toInt → (mnW mi j).toInt < 100)) ∨ ((r = 0) ∧ (n.toInt < 1 ∨ 4 < n.toInt ∨ ∃ j : Nat, (j : Int) < n.toInt ∧ 99 < (mnW mi j).toInt))))) := by
  refine Met.ofW (cc := cX10_areMinutes) (maxL := 4) (ret := (some .boolean)) (by decide) rfl ?_
  intro p e s m args below meth c s₁ B hml hv
  obtain ⟨rfl, hP, hK, hN⟩ := hv
  have hx := B.exec
  have hb := B.bytes
  have hr := B.returns
  have hts := atoms_spec (ws := wsX10_areMinutes) B.pre
  have hown : s.vm.findClass RX10 = some m.cls := findClass_of_methodNamed B.named
  have hlocks := B.notSynchronized
  have hl := lv_entry ([.int n, .int mi]) (n := 4) (Nat.le_of_ble_eq_true rfl)
  rw [lg_entry_eq]
  generalize (lg_sl ([.int n, .int mi]) ++ List.replicate (4 - (lg_sl ([.int n, .int mi])).length) Slot.unset).toArray = ls at hl ⊢
  have hl : lv_has ls 4 [(0, .int n), (1, .int mi)] := hl
  refine lv_iload_n hx hb dX10_areMinutes_0 rfl (lv_at hl 0 rfl) ?_
  refine lv_iconst (v := 1) hx hb dX10_areMinutes_1 (by decide) ?_
  refine lv_iconst (v := 4) hx hb dX10_areMinutes_2 (by decide) ?_
  refine rdS (As := [.int n, .int 1, .int 4]) (rest := []) ⟨hx, hb, hml, hown, hts⟩ (k_X10_in l dC dI cI cZ cQ n (1 : Int32) (4 : Int32)) (va_cwS 3 hts gX10_areMinutes_X10_in rfl rfl rfl (by decide +kernel) ⟨Nat.le_of_ble_eq_true rfl, Nat.le_of_ble_eq_true rfl⟩) hP hK hN [] rfl rfl hl.1 rfl (Nat.le_of_ble_eq_true rfl) dX10_areMinutes_3 ⟨Nat.le_of_ble_eq_true rfl, Nat.le_of_ble_eq_true rfl⟩ (fun r1 h2 => ?_)
  have h2 : ((((r1 = 1) ∧ ((1) ≤ n.toInt) ∧ (n.toInt ≤ (4))) ∨ ((r1 = 0) ∧ (n.toInt < (1) ∨ (4) < n.toInt)))) := h2
  rcases h2 with (⟨rfl, h2_a0, h2_a1⟩ | ⟨rfl, h2_a0⟩)
  · refine lv_istore_n (lv' := [(2, .int 1), (0, .int n), (1, .int mi)]) hx hb dX10_areMinutes_6 rfl hl (by decide) rfl (fun ls hl => ?_)
    refine lv_iconst (v := 0) hx hb dX10_areMinutes_7 (by decide) ?_
    refine lv_istore_n (lv' := [(3, .int 0), (2, .int 1), (0, .int n), (1, .int mi)]) hx hb dX10_areMinutes_8 rfl hl (by decide) rfl (fun ls hl => ?_)
    have L9 : ∀ (nn : Nat) (y9_2 : Int32) (y9_3 : Int32) (ls : Array Slot), (0 ≤ (y9_3.toInt)) → ((y9_3.toInt) ≤ 4) → (amI n mi (y9_3.toInt) y9_2) → ((y9_3.toInt) = 0 ∨ (y9_3.toInt) ≤ n.toInt) → (4 - (y9_3.toInt)).toNat < nn → lv_has ls 4 [(0, .int n), (1, .int mi), (2, .int y9_2), (3, .int y9_3)] → W p l e (headSpec wsX10_areMinutes { frames := 1, cells := 0, slots := 0, locals := 22 }).room s m ([.int n, .int mi] : List Value).toArray below meth c s.heap [] 0 0 (MQ below (QR (fun r : Int32 => ((((r = 1) ∧ (1 ≤ n.toInt) ∧ (n.toInt ≤ 4) ∧ (∀ j : Nat, (j : Int) < n.toInt → (mnW mi j).toInt < 100)) ∨ ((r = 0) ∧ (n.toInt < 1 ∨ 4 < n.toInt ∨ ∃ j : Nat, (j : Int) < n.toInt ∧ 99 < (mnW mi j).toInt)))))) ([.int n, .int mi] : List Value).toArray s 0 0 (fun _ => False)) (F0 m 9 ls []) := by
      intro nn
      induction nn with
      | zero =>
        intro y9_2 y9_3 ls i9_0 i9_1 i9_2 i9_3 hm9
        exact absurd hm9 (Nat.not_lt_zero _)
      | succ nn ih9 =>
        intro y9_2 y9_3 ls i9_0 i9_1 i9_2 i9_3 hm9 hl
        refine lv_iload_n hx hb dX10_areMinutes_9 rfl (lv_at hl 3 rfl) ?_
        refine lv_iload_n hx hb dX10_areMinutes_10 rfl (lv_at hl 0 rfl) ?_
        refine lv_icmp_ge (tgt := 44) hx hb dX10_areMinutes_11 (by decide) (fun c3 => ?_) (fun c3 => ?_)
        · have dc3 : n.toInt ≤ y9_3.toInt := leC rfl rfl c3
          refine lv_iload_n hx hb dX10_areMinutes_44 rfl (lv_at hl 2 rfl) ?_
          exact W.zret (v := y9_2) hx hb hr (by (rcases am_f i9_2 with h | h <;> rw [h] <;> rfl)) (fun tq ht hW => ⟨y9_2, rfl, (by (first | exact am_e i9_2 (Or.inr (Or.inl (by omega))) | exact am_e i9_2 (Or.inl (by assumption)))), ht⟩) (fun q h => by cases h) dX10_areMinutes_45
        · have dc3 : y9_3.toInt < n.toInt := nleC rfl rfl c3
          refine lv_iload_n hx hb dX10_areMinutes_14 rfl (lv_at hl 2 rfl) ?_
          refine lv_if_eq (tgt := 44) hx hb dX10_areMinutes_15 (by decide) (fun c4 => ?_) (fun c4 => ?_)
          · have dc4 : y9_2.toInt = 0 := eqC rfl (show (0 : Int32).toInt = 0 from rfl) c4
            refine lv_iload_n hx hb dX10_areMinutes_44 rfl (lv_at hl 2 rfl) ?_
            exact W.zret (v := y9_2) hx hb hr (by (rcases am_f i9_2 with h | h <;> rw [h] <;> rfl)) (fun tq ht hW => ⟨y9_2, rfl, (by (first | exact am_e i9_2 (Or.inr (Or.inl (by omega))) | exact am_e i9_2 (Or.inl (by assumption)))), ht⟩) (fun q h => by cases h) dX10_areMinutes_45
          · have dc4 : y9_2.toInt ≠ 0 := neC rfl (show (0 : Int32).toInt = 0 from rfl) c4
            have kk := am_k i9_2 (by assumption)
            refine lv_iload_n hx hb dX10_areMinutes_18 rfl (lv_at hl 1 rfl) ?_
            refine lv_bipush (v := 7) hx hb dX10_areMinutes_19 (by decide) ?_
            refine lv_iload_n hx hb dX10_areMinutes_21 rfl (lv_at hl 3 rfl) ?_
            refine lv_imul hx hb dX10_areMinutes_22 ?_
            have f5 : (7 * y9_3).toInt = (7) * (y9_3.toInt) := mulC (show (7 : Int32).toInt = 7 from rfl) rfl (by omega) (by omega)
            refine lv_ishr hx hb dX10_areMinutes_23 ?_
            refine lv_bipush (v := 127) hx hb dX10_areMinutes_24 (by decide) ?_
            refine lv_iand hx hb dX10_areMinutes_26 ?_
            have f6 := andR (a := (mi >>> ((7 * y9_3) &&& 31))) (m := 127) (M := 127) rfl (by decide)
            refine lv_bipush (v := 100) hx hb dX10_areMinutes_27 (by decide) ?_
            refine lv_icmp_ge (tgt := 36) hx hb dX10_areMinutes_29 (by decide) (fun c7 => ?_) (fun c7 => ?_)
            · have dc7 : 100 ≤ ((mi >>> ((7 * y9_3) &&& 31)) &&& 127).toInt := leC (show (100 : Int32).toInt = 100 from rfl) rfl c7
              refine lv_iconst (v := 0) hx hb dX10_areMinutes_36 (by decide) ?_
              refine lv_istore_n (lv' := [(2, .int 0), (0, .int n), (1, .int mi), (3, .int y9_3)]) hx hb dX10_areMinutes_37 rfl hl (by decide) rfl (fun ls hl => ?_)
              obtain ⟨z8, ez8⟩ : ∃ y : Int32, y = y9_3 + 1 := ⟨_, rfl⟩
              have iz8 : z8.toInt = y9_3.toInt + 1 := by rw [ez8]; exact addC rfl rfl (by omega) (by omega)
              refine lv_iinc (v := z8) (lv' := [(3, .int z8), (2, .int 0), (0, .int n), (1, .int mi)]) hx hb dX10_areMinutes_38 hl (k := 3) rfl (by rw [ez8]; rfl) (by decide) rfl (fun ls hl => ?_)
              refine lv_goto (tgt := 9) hx hb dX10_areMinutes_41 (by decide) ?_
              have kc9 : (0 : Int32).toInt = 0 := rfl
              exact ih9 0 z8 _ (by omega) (by omega) (by (first | exact am_y i9_2 (by assumption) (mn_at (y := y9_3) (by rfl) (by omega)) (by omega) (by omega) (by omega) | exact am_z (mn_at (y := y9_3) (by rfl) (by omega)) (by omega) (by omega) (by omega) | exact am_0 (by omega) (by first | rfl | omega) | exact am_n (by omega))) (by omega) (by omega) (lv_sub hl [2, 3, 1, 0] rfl)
            · have dc7 : ((mi >>> ((7 * y9_3) &&& 31)) &&& 127).toInt < 100 := nleC (show (100 : Int32).toInt = 100 from rfl) rfl c7
              refine lv_iconst (v := 1) hx hb dX10_areMinutes_32 (by decide) ?_
              refine lv_goto (tgt := 37) hx hb dX10_areMinutes_33 (by decide) ?_
              refine lv_istore_n (lv' := [(2, .int 1), (0, .int n), (1, .int mi), (3, .int y9_3)]) hx hb dX10_areMinutes_37 rfl hl (by decide) rfl (fun ls hl => ?_)
              obtain ⟨z10, ez10⟩ : ∃ y : Int32, y = y9_3 + 1 := ⟨_, rfl⟩
              have iz10 : z10.toInt = y9_3.toInt + 1 := by rw [ez10]; exact addC rfl rfl (by omega) (by omega)
              refine lv_iinc (v := z10) (lv' := [(3, .int z10), (2, .int 1), (0, .int n), (1, .int mi)]) hx hb dX10_areMinutes_38 hl (k := 3) rfl (by rw [ez10]; rfl) (by decide) rfl (fun ls hl => ?_)
              refine lv_goto (tgt := 9) hx hb dX10_areMinutes_41 (by decide) ?_
              have kc11 : (1 : Int32).toInt = 1 := rfl
              exact ih9 1 z10 _ (by omega) (by omega) (by (first | exact am_y i9_2 (by assumption) (mn_at (y := y9_3) (by rfl) (by omega)) (by omega) (by omega) (by omega) | exact am_z (mn_at (y := y9_3) (by rfl) (by omega)) (by omega) (by omega) (by omega) | exact am_0 (by omega) (by first | rfl | omega) | exact am_n (by omega))) (by omega) (by omega) (lv_sub hl [2, 3, 1, 0] rfl)
    have kc12 : (1 : Int32).toInt = 1 := rfl
    have kc13 : (0 : Int32).toInt = 0 := rfl
    exact L9 _ 1 0 _ (by omega) (by omega) (by (first | exact am_y i9_2 (by assumption) (mn_at (y := y9_3) (by rfl) (by omega)) (by omega) (by omega) (by omega) | exact am_z (mn_at (y := y9_3) (by rfl) (by omega)) (by omega) (by omega) (by omega) | exact am_0 (by omega) (by first | rfl | omega) | exact am_n (by omega))) (by omega) (Nat.lt_succ_self _) (lv_sub hl [2, 3, 1, 0] rfl)
  · refine lv_istore_n (lv' := [(2, .int 0), (0, .int n), (1, .int mi)]) hx hb dX10_areMinutes_6 rfl hl (by decide) rfl (fun ls hl => ?_)
    refine lv_iconst (v := 0) hx hb dX10_areMinutes_7 (by decide) ?_
    refine lv_istore_n (lv' := [(3, .int 0), (2, .int 0), (0, .int n), (1, .int mi)]) hx hb dX10_areMinutes_8 rfl hl (by decide) rfl (fun ls hl => ?_)
    have L9 : ∀ (nn : Nat) (y9_2 : Int32) (y9_3 : Int32) (ls : Array Slot), (0 ≤ (y9_3.toInt)) → ((y9_3.toInt) ≤ 4) → (amI n mi (y9_3.toInt) y9_2) → ((y9_3.toInt) = 0 ∨ (y9_3.toInt) ≤ n.toInt) → (4 - (y9_3.toInt)).toNat < nn → lv_has ls 4 [(0, .int n), (1, .int mi), (2, .int y9_2), (3, .int y9_3)] → W p l e (headSpec wsX10_areMinutes { frames := 1, cells := 0, slots := 0, locals := 22 }).room s m ([.int n, .int mi] : List Value).toArray below meth c s.heap [] 0 0 (MQ below (QR (fun r : Int32 => ((((r = 1) ∧ (1 ≤ n.toInt) ∧ (n.toInt ≤ 4) ∧ (∀ j : Nat, (j : Int) < n.toInt → (mnW mi j).toInt < 100)) ∨ ((r = 0) ∧ (n.toInt < 1 ∨ 4 < n.toInt ∨ ∃ j : Nat, (j : Int) < n.toInt ∧ 99 < (mnW mi j).toInt)))))) ([.int n, .int mi] : List Value).toArray s 0 0 (fun _ => False)) (F0 m 9 ls []) := by
      intro nn
      induction nn with
      | zero =>
        intro y9_2 y9_3 ls i9_0 i9_1 i9_2 i9_3 hm9
        exact absurd hm9 (Nat.not_lt_zero _)
      | succ nn ih9 =>
        intro y9_2 y9_3 ls i9_0 i9_1 i9_2 i9_3 hm9 hl
        refine lv_iload_n hx hb dX10_areMinutes_9 rfl (lv_at hl 3 rfl) ?_
        refine lv_iload_n hx hb dX10_areMinutes_10 rfl (lv_at hl 0 rfl) ?_
        refine lv_icmp_ge (tgt := 44) hx hb dX10_areMinutes_11 (by decide) (fun c14 => ?_) (fun c14 => ?_)
        · have dc14 : n.toInt ≤ y9_3.toInt := leC rfl rfl c14
          refine lv_iload_n hx hb dX10_areMinutes_44 rfl (lv_at hl 2 rfl) ?_
          exact W.zret (v := y9_2) hx hb hr (by (rcases am_f i9_2 with h | h <;> rw [h] <;> rfl)) (fun tq ht hW => ⟨y9_2, rfl, (by (first | exact am_e i9_2 (Or.inr (Or.inl (by omega))) | exact am_e i9_2 (Or.inl (by assumption)))), ht⟩) (fun q h => by cases h) dX10_areMinutes_45
        · have dc14 : y9_3.toInt < n.toInt := nleC rfl rfl c14
          refine lv_iload_n hx hb dX10_areMinutes_14 rfl (lv_at hl 2 rfl) ?_
          refine lv_if_eq (tgt := 44) hx hb dX10_areMinutes_15 (by decide) (fun c15 => ?_) (fun c15 => ?_)
          · have dc15 : y9_2.toInt = 0 := eqC rfl (show (0 : Int32).toInt = 0 from rfl) c15
            refine lv_iload_n hx hb dX10_areMinutes_44 rfl (lv_at hl 2 rfl) ?_
            exact W.zret (v := y9_2) hx hb hr (by (rcases am_f i9_2 with h | h <;> rw [h] <;> rfl)) (fun tq ht hW => ⟨y9_2, rfl, (by (first | exact am_e i9_2 (Or.inr (Or.inl (by omega))) | exact am_e i9_2 (Or.inl (by assumption)))), ht⟩) (fun q h => by cases h) dX10_areMinutes_45
          · have dc15 : y9_2.toInt ≠ 0 := neC rfl (show (0 : Int32).toInt = 0 from rfl) c15
            have kk := am_k i9_2 (by assumption)
            refine lv_iload_n hx hb dX10_areMinutes_18 rfl (lv_at hl 1 rfl) ?_
            refine lv_bipush (v := 7) hx hb dX10_areMinutes_19 (by decide) ?_
            refine lv_iload_n hx hb dX10_areMinutes_21 rfl (lv_at hl 3 rfl) ?_
            refine lv_imul hx hb dX10_areMinutes_22 ?_
            have f16 : (7 * y9_3).toInt = (7) * (y9_3.toInt) := mulC (show (7 : Int32).toInt = 7 from rfl) rfl (by omega) (by omega)
            refine lv_ishr hx hb dX10_areMinutes_23 ?_
            refine lv_bipush (v := 127) hx hb dX10_areMinutes_24 (by decide) ?_
            refine lv_iand hx hb dX10_areMinutes_26 ?_
            have f17 := andR (a := (mi >>> ((7 * y9_3) &&& 31))) (m := 127) (M := 127) rfl (by decide)
            refine lv_bipush (v := 100) hx hb dX10_areMinutes_27 (by decide) ?_
            refine lv_icmp_ge (tgt := 36) hx hb dX10_areMinutes_29 (by decide) (fun c18 => ?_) (fun c18 => ?_)
            · have dc18 : 100 ≤ ((mi >>> ((7 * y9_3) &&& 31)) &&& 127).toInt := leC (show (100 : Int32).toInt = 100 from rfl) rfl c18
              refine lv_iconst (v := 0) hx hb dX10_areMinutes_36 (by decide) ?_
              refine lv_istore_n (lv' := [(2, .int 0), (0, .int n), (1, .int mi), (3, .int y9_3)]) hx hb dX10_areMinutes_37 rfl hl (by decide) rfl (fun ls hl => ?_)
              obtain ⟨z19, ez19⟩ : ∃ y : Int32, y = y9_3 + 1 := ⟨_, rfl⟩
              have iz19 : z19.toInt = y9_3.toInt + 1 := by rw [ez19]; exact addC rfl rfl (by omega) (by omega)
              refine lv_iinc (v := z19) (lv' := [(3, .int z19), (2, .int 0), (0, .int n), (1, .int mi)]) hx hb dX10_areMinutes_38 hl (k := 3) rfl (by rw [ez19]; rfl) (by decide) rfl (fun ls hl => ?_)
              refine lv_goto (tgt := 9) hx hb dX10_areMinutes_41 (by decide) ?_
              have kc20 : (0 : Int32).toInt = 0 := rfl
              exact ih9 0 z19 _ (by omega) (by omega) (by (first | exact am_y i9_2 (by assumption) (mn_at (y := y9_3) (by rfl) (by omega)) (by omega) (by omega) (by omega) | exact am_z (mn_at (y := y9_3) (by rfl) (by omega)) (by omega) (by omega) (by omega) | exact am_0 (by omega) (by first | rfl | omega) | exact am_n (by omega))) (by omega) (by omega) (lv_sub hl [2, 3, 1, 0] rfl)
            · have dc18 : ((mi >>> ((7 * y9_3) &&& 31)) &&& 127).toInt < 100 := nleC (show (100 : Int32).toInt = 100 from rfl) rfl c18
              refine lv_iconst (v := 1) hx hb dX10_areMinutes_32 (by decide) ?_
              refine lv_goto (tgt := 37) hx hb dX10_areMinutes_33 (by decide) ?_
              refine lv_istore_n (lv' := [(2, .int 1), (0, .int n), (1, .int mi), (3, .int y9_3)]) hx hb dX10_areMinutes_37 rfl hl (by decide) rfl (fun ls hl => ?_)
              obtain ⟨z21, ez21⟩ : ∃ y : Int32, y = y9_3 + 1 := ⟨_, rfl⟩
              have iz21 : z21.toInt = y9_3.toInt + 1 := by rw [ez21]; exact addC rfl rfl (by omega) (by omega)
              refine lv_iinc (v := z21) (lv' := [(3, .int z21), (2, .int 1), (0, .int n), (1, .int mi)]) hx hb dX10_areMinutes_38 hl (k := 3) rfl (by rw [ez21]; rfl) (by decide) rfl (fun ls hl => ?_)
              refine lv_goto (tgt := 9) hx hb dX10_areMinutes_41 (by decide) ?_
              have kc22 : (1 : Int32).toInt = 1 := rfl
              exact ih9 1 z21 _ (by omega) (by omega) (by (first | exact am_y i9_2 (by assumption) (mn_at (y := y9_3) (by rfl) (by omega)) (by omega) (by omega) (by omega) | exact am_z (mn_at (y := y9_3) (by rfl) (by omega)) (by omega) (by omega) (by omega) | exact am_0 (by omega) (by first | rfl | omega) | exact am_n (by omega))) (by omega) (by omega) (lv_sub hl [2, 3, 1, 0] rfl)
    have kc23 : (0 : Int32).toInt = 0 := rfl
    exact L9 _ 0 0 _ (by omega) (by omega) (by (first | exact am_y i9_2 (by assumption) (mn_at (y := y9_3) (by rfl) (by omega)) (by omega) (by omega) (by omega) | exact am_z (mn_at (y := y9_3) (by rfl) (by omega)) (by omega) (by omega) (by omega) | exact am_0 (by omega) (by first | rfl | omega) | exact am_n (by omega))) (by omega) (Nat.lt_succ_self _) (lv_sub hl [2, 3, 1, 0] rfl)
set_option maxHeartbeats 4000000 in
set_option maxRecDepth 100000 in
theorem k_X10_isGone2 (l : Launch) (dC : Nat → ClassId) (dI : Nat → Nat → Nat) (cI cZ cQ : ClassId) (b : Nat → Nat) (mday : Int32) (mdoo : Int32) (mdA : Nat → Int32) (mdB : Nat → Int32) (mfar : Nat → Int32) (mmar : Nat → Int32) (mtel : Int32) (mgai : Int32) (mfal : Nat → Int32) (mtop : Nat → Int32) (mstr : Nat → Int32) (mgho : Nat → Int32) (mfai : Nat → Int32) (mpto : Nat → Int32) (mwal : Nat → Int32) (mahd : Nat → Int32) (mahf : Nat → Int32) (mcho : Nat → Int32) (mbes : Nat → Int32) (mbyt : Int32) (mtxt : Nat → Int32) (mpos : Int32) (mtka : Int32) (mtok : Int64) (mdig : Int32) (mnum : Int32) (mfau : Int32) (mrdm : Int32) (mrea : Nat → Int32) (mlin : Int32) (mlne : Nat → Int32) (mthg : Nat → Int32) (mord : Nat → Int32) (mbor : Nat → Int32) (mbsm : Int32) (mans : Nat → Int32) (mand : Nat → Int32) (manr : Nat → Int32) (mali : Nat → Int32) (sz : Nat) (k : Int32) (ro : Int32) (mi : Int32) (r_mday : 0 ≤ mday.toInt ∧ mday.toInt ≤ 400) (r_mdoo : 0 ≤ mdoo.toInt ∧ mdoo.toInt ≤ 14) (r_mdA : rg 14 (0) (7) mdA) (r_mdB : rg 14 (0) (7) mdB) (r_mmar : rg 24 (0) (255) mmar) (r_mgai : 0 ≤ mgai.toInt ∧ mgai.toInt ≤ 100) (r_mfal : rg 11 (0) (30) mfal) (r_mtop : rg 48 (-1) (23) mtop) (r_mstr : rg 48 (0) (100) mstr) (r_mgho : rg 48 (-1) (23) mgho) (r_mfai : rg 48 (0) (100) mfai) (r_mahd : rg 240 (0) (100) mahd) (r_mahf : rg 240 (0) (100) mahf) (r_mcho : rg 5 (-1) (9) mcho) (r_mbyt : 0 ≤ mbyt.toInt ∧ mbyt.toInt ≤ 160) (r_mpos : 0 ≤ mpos.toInt ∧ mpos.toInt ≤ 160) (r_mrdm : 0 ≤ mrdm.toInt ∧ mrdm.toInt ≤ 10) (r_mlin : 0 ≤ mlin.toInt ∧ mlin.toInt ≤ 10) (r_mthg : rg 8 (0) (31) mthg) (r_mord : rg 8 (-1) (8) mord) (r_mans : rg 4 (0) (12) mans) (q0 : 0 ≤ k.toInt) (q1 : k.toInt ≤ 3) (q2 : 0 ≤ ro.toInt) (q3 : ro.toInt ≤ 8) : KW l yX10_isGone wsX10_isGone { frames := 3, cells := 0, slots := 0, locals := 73 } (dC, dI) (TY cI cZ cQ) (wMod cI cZ cQ b mday mdoo mdA mdB mfar mmar mtel mgai mfal mtop mstr mgho mfai mpto mwal mahd mahf mcho mbes mbyt mtxt mpos mtka mtok mdig mnum mfau mrdm mrea mlin mlne mthg mord mbor mbsm mans mand manr mali) [.ref (b 39), .int k, .int ro, .int mi] sz 0 0 (fun (r : Int32) (u : US) => ((((r = 1) ∧ (igT mdA mdB mtop mfal mmar mdoo.toInt mtel mgai.toInt k ro mi mahd (u.1 0))) ∨ ((r = 0) ∧ (igN mdA mdB mtop mdoo.toInt k ro mi) ∧ (∀ j : Nat, (j : Int) < 48 * k.toInt + 48 → (u.1 0) j = mahd j)))) ∧ (rg 240 (0) (100) (u.1 0)) ∧ (rg 240 (0) (100) (u.1 1))) (fun u : US => (wMod cI cZ cQ b mday mdoo mdA mdB (u.1 2) mmar mtel mgai mfal mtop mstr mgho mfai mpto mwal (u.1 0) (u.1 1) mcho mbes mbyt mtxt mpos mtka mtok mdig mnum mfau mrdm mrea mlin mlne mthg mord mbor mbsm mans mand manr mali)) := by
  refine Met.ofW (cc := cX10_isGone) (maxL := 5) (ret := (some .boolean)) (by decide) rfl ?_
  intro p e s m args below meth c s₁ B hml hv
  obtain ⟨rfl, hsz, hP, hK, hD0, hN⟩ := hv
  have hx := B.exec
  have hb := B.bytes
  have hr := B.returns
  have hts := atoms_spec (ws := wsX10_isGone) B.pre
  have hown : s.vm.findClass RX10 = some m.cls := findClass_of_methodNamed B.named
  have hlocks := B.notSynchronized
  have lf50 := hts (.fieldLink RX10 50 "PalaceOfRoomsModel" "ahead" "[I") (List.mem_cons_of_mem _ (List.mem_append_left _ (List.mem_append_left _ (List.mem_of_getElem? (i := 0) rfl))))
  have inX10 : ∀ w ∈ wsX100, w ∈ wsX10_isGone := fun w h => List.mem_cons_of_mem _ (List.mem_append_right _ h)
  have lf53 := hts (.fieldLink RX10 53 "PalaceOfRoomsModel" "aheadFaint" "[I") (List.mem_cons_of_mem _ (List.mem_append_left _ (List.mem_append_left _ (List.mem_of_getElem? (i := 1) rfl))))
  subst hsz
  have hD := hD0.self (sz := s.heap.size)
  generalize hAe : va_A (wMod cI cZ cQ b mday mdoo mdA mdB mfar mmar mtel mgai mfal mtop mstr mgho mfai mpto mwal mahd mahf mcho mbes mbyt mtxt mpos mtka mtok mdig mnum mfau mrdm mrea mlin mlne mthg mord mbor mbsm mans mand manr mali) s.heap.size = A at hD ⊢
  have hA : ∀ q : Nat, s.heap.size ≤ q → A q := fun q h => by rw [← hAe]; exact Or.inr h
  have hS : va_S A s.heap s.heap [] := va_S.rf
  have hl := lv_entry ([.ref (b 39), .int k, .int ro, .int mi]) (n := 5) (Nat.le_of_ble_eq_true rfl)
  rw [lg_entry_eq]
  generalize (lg_sl ([.ref (b 39), .int k, .int ro, .int mi]) ++ List.replicate (5 - (lg_sl ([.ref (b 39), .int k, .int ro, .int mi])).length) Slot.unset).toArray = ls at hl ⊢
  have hl : lv_has ls 5 [(0, .ref (b 39)), (1, .int k), (2, .int ro), (3, .int mi)] := hl
  refine lv_iconst (v := 0) hx hb dX10_isGone_0 (by decide) ?_
  refine lv_istore (lv' := [(4, .int 0), (0, .ref (b 39)), (1, .int k), (2, .int ro), (3, .int mi)]) hx hb dX10_isGone_1 hl (by decide) rfl (fun ls hl => ?_)
  have L3 : ∀ (nn : Nat) (y3_4 : Int32) (mahd_3 : Nat → Int32) (mahf_3 : Nat → Int32) (H : Heap) (locs : List Loc) (ls : Array Slot), (rg 240 (0) (100) mahd_3) → (rg 240 (0) (100) mahf_3) → (0 ≤ (y3_4.toInt)) → ((y3_4.toInt) ≤ 48) → (cpL mahd mahd_3 (48 * k.toInt) (y3_4.toInt)) → (48 - (y3_4.toInt)).toNat < nn → va_P (dC, dI) vwCl (wMod cI cZ cQ b mday mdoo mdA mdB mfar mmar mtel mgai mfal mtop mstr mgho mfai mpto mwal mahd_3 mahf_3 mcho mbes mbyt mtxt mpos mtka mtok mdig mnum mfau mrdm mrea mlin mlne mthg mord mbor mbsm mans mand manr mali) H → va_D A (wMod cI cZ cQ b mday mdoo mdA mdB mfar mmar mtel mgai mfal mtop mstr mgho mfai mpto mwal mahd_3 mahf_3 mcho mbes mbyt mtxt mpos mtka mtok mdig mnum mfau mrdm mrea mlin mlne mthg mord mbor mbsm mans mand manr mali) → va_S A s.heap H locs → lv_has ls 5 [(0, .ref (b 39)), (1, .int k), (2, .int ro), (3, .int mi), (4, .int y3_4)] → W p l e (headSpec wsX10_isGone { frames := 3, cells := 0, slots := 0, locals := 73 }).room s m ([.ref (b 39), .int k, .int ro, .int mi] : List Value).toArray below meth c H locs 0 0 (MQ below (va_Qi (fun (r : Int32) (u : US) => ((((r = 1) ∧ (igT mdA mdB mtop mfal mmar mdoo.toInt mtel mgai.toInt k ro mi mahd (u.1 0))) ∨ ((r = 0) ∧ (igN mdA mdB mtop mdoo.toInt k ro mi) ∧ (∀ j : Nat, (j : Int) < 48 * k.toInt + 48 → (u.1 0) j = mahd j)))) ∧ (rg 240 (0) (100) (u.1 0)) ∧ (rg 240 (0) (100) (u.1 1))) (Bw (dC, dI) A (fun u : US => (wMod cI cZ cQ b mday mdoo mdA mdB (u.1 2) mmar mtel mgai mfal mtop mstr mgho mfai mpto mwal (u.1 0) (u.1 1) mcho mbes mbyt mtxt mpos mtka mtok mdig mnum mfau mrdm mrea mlin mlne mthg mord mbor mbsm mans mand manr mali))) A) ([.ref (b 39), .int k, .int ro, .int mi] : List Value).toArray s 0 0 A) (F0 m 3 ls []) := by
    intro nn
    induction nn with
    | zero =>
      intro y3_4 mahd_3 mahf_3 H locs ls r_mahd_3 r_mahf_3 i3_0 i3_1 i3_2 hm3
      exact absurd hm3 (Nat.not_lt_zero _)
    | succ nn ih3 =>
      intro y3_4 mahd_3 mahf_3 H locs ls r_mahd_3 r_mahf_3 i3_0 i3_1 i3_2 hm3 hP hD hS hl
      refine lv_iload hx hb dX10_isGone_3 (lv_at hl 4 rfl) ?_
      refine lv_bipush (v := 48) hx hb dX10_isGone_5 (by decide) ?_
      refine lv_icmp_ge (tgt := 70) hx hb dX10_isGone_7 (by decide) (fun c1 => ?_) (fun c1 => ?_)
      · have dc1 : 48 ≤ y3_4.toInt := leC (show (48 : Int32).toInt = 48 from rfl) rfl c1
        refine lv_iload_n hx hb dX10_isGone_70 rfl (lv_at hl 2 rfl) ?_
        refine lv_bipush (v := 8) hx hb dX10_isGone_71 (by decide) ?_
        refine lv_icmp_ne (tgt := 80) hx hb dX10_isGone_73 (by decide) (fun c2 => ?_) (fun c2 => ?_)
        · have dc2 : ro.toInt ≤ 7 := ka_hi (by omega) (neC rfl (show (8 : Int32).toInt = 8 from rfl) c2)
          refine lv_aload_n hx hb dX10_isGone_80 rfl (lv_at hl 0 rfl) ?_
          refine lv_iload_n hx hb dX10_isGone_81 rfl (lv_at hl 2 rfl) ?_
          refine wrV (As := [.int ro]) (rest := []) (wr := []) (w2 := (fun u : US => (wMod cI cZ cQ b mday mdoo mdA mdB (u.1 0) mmar mtel mgai mfal mtop mstr mgho mfai mpto mwal mahd_3 mahf_3 mcho mbes mbyt mtxt mpos mtka mtok mdig mnum mfau mrdm mrea mlin mlne mthg mord mbor mbsm mans mand manr mali))) ⟨hx, hb, hml, hown, hts⟩ (k_X10_costOf2 l dC dI cI cZ cQ b mday mdoo mdA mdB mfar mmar mtel mgai mfal mtop mstr mgho mfai mpto mwal mahd_3 mahf_3 mcho mbes mbyt mtxt mpos mtka mtok mdig mnum mfau mrdm mrea mlin mlne mthg mord mbor mbsm mans mand manr mali _ ro r_mday r_mdoo r_mdA r_mdB r_mmar r_mgai r_mfal r_mtop r_mstr r_mgho r_mfai r_mahd_3 r_mahf_3 r_mcho r_mbyt r_mpos r_mrdm r_mlin r_mthg r_mord r_mans (by omega) (by omega)) (cwV 1 hts gX10_isGone_X10_costOf rfl rfl rfl (by decide +kernel) ⟨Nat.le_of_ble_eq_true rfl, Nat.le_of_ble_eq_true rfl⟩) hP hD hS hA hK hN [0, 1, 2, 3, 4, 5, 6, 7, 8, 9, 10, 11, 12, 13, 14, 15, 16, 17, 18, 19, 20, 21, 22, 23, 24, 25] [] [0, 1, 2, 3, 4, 5, 6, 7, 8, 9, 10, 11, 12, 13, 14, 15, 16, 17, 18, 19, 20, 21, 22, 23, 24, 25] rfl rfl (by decide) (by decide) (by decide) (fun _ => rfl) (by decide) 0 10 rfl rfl rfl hl.1 rfl (Nat.le_of_ble_eq_true rfl) dX10_isGone_82 ⟨Nat.le_of_ble_eq_true rfl, Nat.le_of_ble_eq_true rfl⟩ (fun r3 u5 H locs h4 hP hD hS => ?_)
          obtain ⟨mfar_c6, emfar_c6⟩ : ∃ f : Nat → Int32, f = (u5.1 0) := ⟨_, rfl⟩
          have hP : va_P (dC, dI) vwCl (wMod cI cZ cQ b mday mdoo mdA mdB mfar_c6 mmar mtel mgai mfal mtop mstr mgho mfai mpto mwal mahd_3 mahf_3 mcho mbes mbyt mtxt mpos mtka mtok mdig mnum mfau mrdm mrea mlin mlne mthg mord mbor mbsm mans mand manr mali) H := by rw [emfar_c6]; exact hP
          have hD : va_D A (wMod cI cZ cQ b mday mdoo mdA mdB mfar_c6 mmar mtel mgai mfal mtop mstr mgho mfai mpto mwal mahd_3 mahf_3 mcho mbes mbyt mtxt mpos mtka mtok mdig mnum mfau mrdm mrea mlin mlne mthg mord mbor mbsm mans mand manr mali) := by rw [emfar_c6]; exact hD
          have h4 : (coM mdA mdB mdoo.toInt mtop ro r3) ∧ (-1 ≤ r3.toInt) ∧ (r3.toInt ≤ 204) := by (try rw [emfar_c6]); exact h4
          obtain ⟨h4_0, h4_1, h4_2⟩ := h4
          refine lv_istore (lv' := [(4, .int r3), (0, .ref (b 39)), (1, .int k), (2, .int ro), (3, .int mi)]) hx hb dX10_isGone_85 hl (by decide) rfl (fun ls hl => ?_)
          refine lv_iload hx hb dX10_isGone_87 (lv_at hl 0 rfl) ?_
          refine lv_iconst (v := (-1)) hx hb dX10_isGone_89 (by decide) ?_
          refine lv_icmp_eq (tgt := 113) hx hb dX10_isGone_90 (by decide) (fun c7 => ?_) (fun c7 => ?_)
          · have dc7 : r3.toInt = (-1) := eqC rfl (show ((-1) : Int32).toInt = (-1) from rfl) c7
            refine lv_iconst (v := 0) hx hb dX10_isGone_113 (by decide) ?_
            exact W.zret (v := 0) hx hb hr (by decide) (fun tq ht hW => ⟨⟨0, (uS [mahd_3, mahf_3, mfar_c6] 0 (fun _ => 0)), rfl, ⟨(Or.inr (⟨rfl, (show igN mdA mdB mtop mdoo.toInt k ro mi from by (try rw [show (0 : Int32).toInt = 0 from (show (0 : Int32).toInt = 0 from rfl)]); (first | exact ⟨Or.inl (by omega), ly_0 i3_2 (by omega) (by assumption) (by omega) (by omega) (by omega) (by omega)⟩ | exact ⟨ig_y (by assumption) (by assumption) (mn_at (by rfl) (by omega)) (by omega), ly_w i3_2 (by omega) (by assumption) (by assumption) (by omega) (by omega) (by omega) (by omega) (by omega)⟩ | exact ig_n1 (by omega) (by assumption) (by assumption) | exact ig_n2 (by omega) (by assumption) (mn_at (by rfl) (by omega)) (by omega))), (show ∀ j : Nat, (j : Int) < 48 * k.toInt + 48 → mahd_3 j = mahd j from by (try rw [show (0 : Int32).toInt = 0 from (show (0 : Int32).toInt = 0 from rfl)]); exact ig_st i3_2 (by omega) (by omega))⟩)), r_mahd_3, r_mahf_3⟩, by rw [ht]; exact hP, hD⟩, hS.F ht⟩) hS.2.2 dX10_isGone_114
          · have dc7 : 0 ≤ r3.toInt := ka_lo (by omega) (neC rfl (show ((-1) : Int32).toInt = (-1) from rfl) c7)
            refine lv_iload hx hb dX10_isGone_93 (lv_at hl 0 rfl) ?_
            refine lv_iload_n hx hb dX10_isGone_95 rfl (lv_at hl 4 rfl) ?_
            refine lv_bipush (v := 7) hx hb dX10_isGone_96 (by decide) ?_
            refine lv_iload_n hx hb dX10_isGone_98 rfl (lv_at hl 2 rfl) ?_
            refine lv_imul hx hb dX10_isGone_99 ?_
            have f8 : (7 * k).toInt = (7) * (k.toInt) := mulC (show (7 : Int32).toInt = 7 from rfl) rfl (by omega) (by omega)
            refine lv_ishr hx hb dX10_isGone_100 ?_
            refine lv_bipush (v := 127) hx hb dX10_isGone_101 (by decide) ?_
            refine lv_iand hx hb dX10_isGone_103 ?_
            have f9 := andR (a := (mi >>> ((7 * k) &&& 31))) (m := 127) (M := 127) rfl (by decide)
            refine lv_icmp_le (tgt := 115) hx hb dX10_isGone_104 (by decide) (fun c10 => ?_) (fun c10 => ?_)
            · have dc10 : r3.toInt ≤ ((mi >>> ((7 * k) &&& 31)) &&& 127).toInt := leC rfl rfl c10
              refine lv_iload_n hx hb dX10_isGone_115 rfl (lv_at hl 3 rfl) ?_
              refine lv_bipush (v := 8) hx hb dX10_isGone_116 (by decide) ?_
              refine lv_icmp_ge (tgt := 134) hx hb dX10_isGone_118 (by decide) (fun c11 => ?_) (fun c11 => ?_)
              · have dc11 : 8 ≤ ro.toInt := leC (show (8 : Int32).toInt = 8 from rfl) rfl c11
                exfalso
                omega
              · have dc11 : ro.toInt < 8 := nleC (show (8 : Int32).toInt = 8 from rfl) rfl c11
                refine lv_aload_n hx hb dX10_isGone_121 rfl (lv_at hl 1 rfl) ?_
                refine lv_iload_n hx hb dX10_isGone_122 rfl (lv_at hl 3 rfl) ?_
                refine lv_bipush (v := 48) hx hb dX10_isGone_123 (by decide) ?_
                refine lv_iload_n hx hb dX10_isGone_125 rfl (lv_at hl 2 rfl) ?_
                refine lv_imul hx hb dX10_isGone_126 ?_
                have f12 : (48 * k).toInt = (48) * (k.toInt) := mulC (show (48 : Int32).toInt = 48 from rfl) rfl (by omega) (by omega)
                refine lv_bipush (v := 48) hx hb dX10_isGone_127 (by decide) ?_
                refine lv_iadd hx hb dX10_isGone_129 ?_
                have f13 : ((48 * k) + 48).toInt = ((48) * (k.toInt)) + (48) := addC f12 (show (48 : Int32).toInt = 48 from rfl) (by omega) (by omega)
                refine wrV (As := [.int ro, .int ((48 * k) + 48)]) (rest := []) (wr := []) (w2 := (fun u : US => (wMod cI cZ cQ b mday mdoo mdA mdB mfar_c6 mmar mtel mgai mfal mtop mstr mgho mfai mpto mwal (u.1 0) mahf_3 mcho mbes mbyt mtxt mpos mtka mtok mdig mnum mfau mrdm mrea mlin mlne mthg mord mbor mbsm mans mand manr mali))) ⟨hx, hb, hml, hown, hts⟩ (k_X10_goWalk2 l dC dI cI cZ cQ b mday mdoo mdA mdB mfar_c6 mmar mtel mgai mfal mtop mstr mgho mfai mpto mwal mahd_3 mahf_3 mcho mbes mbyt mtxt mpos mtka mtok mdig mnum mfau mrdm mrea mlin mlne mthg mord mbor mbsm mans mand manr mali _ ro ((48 * k) + 48) r_mday r_mdoo r_mdA r_mdB r_mmar r_mgai r_mfal r_mtop r_mstr r_mgho r_mfai r_mahd_3 r_mahf_3 r_mcho r_mbyt r_mpos r_mrdm r_mlin r_mthg r_mord r_mans (by omega) (by omega) (by omega) (by omega)) (cwV 2 hts gX10_isGone_X10_goWalk rfl rfl rfl (by decide +kernel) ⟨Nat.le_of_ble_eq_true rfl, Nat.le_of_ble_eq_true rfl⟩) hP hD hS hA hK hN [0, 1, 2, 3, 4, 5, 6, 7, 8, 9, 10, 11, 12, 13, 14, 15, 16, 17, 18, 19, 20, 21, 22, 23, 24, 25] [] [0, 1, 2, 3, 4, 5, 6, 7, 8, 9, 10, 11, 12, 13, 14, 15, 16, 17, 18, 19, 20, 21, 22, 23, 24, 25] rfl rfl (by decide) (by decide) (by decide) (fun _ => rfl) (by decide) 0 10 rfl rfl rfl hl.1 rfl (Nat.le_of_ble_eq_true rfl) dX10_isGone_130 ⟨Nat.le_of_ble_eq_true rfl, Nat.le_of_ble_eq_true rfl⟩ (fun r14 u16 H locs h15 hP hD hS => ?_)
                obtain ⟨mahd_c17, emahd_c17⟩ : ∃ f : Nat → Int32, f = (u16.1 0) := ⟨_, rfl⟩
                have hP : va_P (dC, dI) vwCl (wMod cI cZ cQ b mday mdoo mdA mdB mfar_c6 mmar mtel mgai mfal mtop mstr mgho mfai mpto mwal mahd_c17 mahf_3 mcho mbes mbyt mtxt mpos mtka mtok mdig mnum mfau mrdm mrea mlin mlne mthg mord mbor mbsm mans mand manr mali) H := by rw [emahd_c17]; exact hP
                have hD : va_D A (wMod cI cZ cQ b mday mdoo mdA mdB mfar_c6 mmar mtel mgai mfal mtop mstr mgho mfai mpto mwal mahd_c17 mahf_3 mcho mbes mbyt mtxt mpos mtka mtok mdig mnum mfau mrdm mrea mlin mlne mthg mord mbor mbsm mans mand manr mali) := by rw [emahd_c17]; exact hD
                have h15 : (gwS mtop mgai.toInt ((48 * k) + 48).toInt (ro.toInt * 6) (ro.toInt * 6 + 6) mahd_3 mahd_c17 r14.toInt) ∧ (rg 240 (0) (100) mahd_c17) := by (try rw [emahd_c17]); exact h15
                obtain ⟨h15_0, h15_1⟩ := h15
                refine lv_pop hx hb dX10_isGone_133 rfl ?_
                refine lv_aload_n hx hb dX10_isGone_134 rfl (lv_at hl 1 rfl) ?_
                refine lv_bipush (v := 48) hx hb dX10_isGone_135 (by decide) ?_
                refine lv_iload_n hx hb dX10_isGone_137 rfl (lv_at hl 2 rfl) ?_
                refine lv_imul hx hb dX10_isGone_138 ?_
                have f18 : (48 * k).toInt = (48) * (k.toInt) := mulC (show (48 : Int32).toInt = 48 from rfl) rfl (by omega) (by omega)
                refine lv_bipush (v := 48) hx hb dX10_isGone_139 (by decide) ?_
                refine lv_iadd hx hb dX10_isGone_141 ?_
                have f19 : ((48 * k) + 48).toInt = ((48) * (k.toInt)) + (48) := addC f18 (show (48 : Int32).toInt = 48 from rfl) (by omega) (by omega)
                refine lv_bipush (v := 48) hx hb dX10_isGone_142 (by decide) ?_
                refine lv_iload_n hx hb dX10_isGone_144 rfl (lv_at hl 2 rfl) ?_
                refine lv_imul hx hb dX10_isGone_145 ?_
                have f20 : (48 * k).toInt = (48) * (k.toInt) := mulC (show (48 : Int32).toInt = 48 from rfl) rfl (by omega) (by omega)
                refine lv_bipush (v := 48) hx hb dX10_isGone_146 (by decide) ?_
                refine lv_iadd hx hb dX10_isGone_148 ?_
                have f21 : ((48 * k) + 48).toInt = ((48) * (k.toInt)) + (48) := addC f20 (show (48 : Int32).toInt = 48 from rfl) (by omega) (by omega)
                refine wvV (As := [.int ((48 * k) + 48), .int ((48 * k) + 48)]) (rest := []) (wr := []) (w2 := (fun u : US => (wMod cI cZ cQ b mday mdoo mdA mdB mfar_c6 mmar mtel mgai mfal mtop mstr mgho mfai mpto mwal (u.1 0) (u.1 1) mcho mbes mbyt mtxt mpos mtka mtok mdig mnum mfau mrdm mrea mlin mlne mthg mord mbor mbsm mans mand manr mali))) ⟨hx, hb, hml, hown, hts⟩ (k_X10_goDay2 l dC dI cI cZ cQ b mday mdoo mdA mdB mfar_c6 mmar mtel mgai mfal mtop mstr mgho mfai mpto mwal mahd_c17 mahf_3 mcho mbes mbyt mtxt mpos mtka mtok mdig mnum mfau mrdm mrea mlin mlne mthg mord mbor mbsm mans mand manr mali _ ((48 * k) + 48) ((48 * k) + 48) r_mday r_mdoo r_mdA r_mdB r_mmar r_mgai r_mfal r_mtop r_mstr r_mgho r_mfai h15_1 r_mahf_3 r_mcho r_mbyt r_mpos r_mrdm r_mlin r_mthg r_mord r_mans (by omega) (by omega) (by omega) (by omega) (by omega)) (cwV 2 hts gX10_isGone_X10_goDay rfl rfl rfl (by decide +kernel) ⟨Nat.le_of_ble_eq_true rfl, Nat.le_of_ble_eq_true rfl⟩) hP hD hS hA hK hN [0, 1, 2, 3, 4, 5, 6, 7, 8, 9, 10, 11, 12, 13, 14, 15, 16, 17, 18, 19, 20, 21, 22, 23, 24, 25] [] [0, 1, 2, 3, 4, 5, 6, 7, 8, 9, 10, 11, 12, 13, 14, 15, 16, 17, 18, 19, 20, 21, 22, 23, 24, 25] rfl rfl (by decide) (by decide) (by decide) (fun _ => rfl) (by decide) 0 10 rfl rfl rfl hl.1 rfl (Nat.le_of_ble_eq_true rfl) dX10_isGone_149 ⟨Nat.le_of_ble_eq_true rfl, Nat.le_of_ble_eq_true rfl⟩ (fun u24 H locs h23 hP hD hS => ?_)
                obtain ⟨mahd_c25, emahd_c25⟩ : ∃ f : Nat → Int32, f = (u24.1 0) := ⟨_, rfl⟩
                obtain ⟨mahf_c26, emahf_c26⟩ : ∃ f : Nat → Int32, f = (u24.1 1) := ⟨_, rfl⟩
                have hP : va_P (dC, dI) vwCl (wMod cI cZ cQ b mday mdoo mdA mdB mfar_c6 mmar mtel mgai mfal mtop mstr mgho mfai mpto mwal mahd_c25 mahf_c26 mcho mbes mbyt mtxt mpos mtka mtok mdig mnum mfau mrdm mrea mlin mlne mthg mord mbor mbsm mans mand manr mali) H := by rw [emahd_c25, emahf_c26]; exact hP
                have hD : va_D A (wMod cI cZ cQ b mday mdoo mdA mdB mfar_c6 mmar mtel mgai mfal mtop mstr mgho mfai mpto mwal mahd_c25 mahf_c26 mcho mbes mbyt mtxt mpos mtka mtok mdig mnum mfau mrdm mrea mlin mlne mthg mord mbor mbsm mans mand manr mali) := by rw [emahd_c25, emahf_c26]; exact hD
                have h23 : (gdS mfal mmar mtop mtel ((48 * k) + 48).toInt 48 mahd_c17 mahf_3 mahd_c25 mahf_c26) ∧ (rg 240 (0) (100) mahd_c25) ∧ (rg 240 (0) (100) mahf_c26) := by (try rw [emahd_c25]); (try rw [emahf_c26]); exact h23
                obtain ⟨h23_0, h23_1, h23_2⟩ := h23
                refine lv_iconst (v := 1) hx hb dX10_isGone_152 (by decide) ?_
                exact W.zret (v := 1) hx hb hr (by decide) (fun tq ht hW => ⟨⟨1, (uS [mahd_c25, mahf_c26, mfar_c6] 0 (fun _ => 0)), rfl, ⟨(Or.inl (⟨rfl, (show igT mdA mdB mtop mfal mmar mdoo.toInt mtel mgai.toInt k ro mi mahd mahd_c25 from by (try rw [show (1 : Int32).toInt = 1 from (show (1 : Int32).toInt = 1 from rfl)]); (first | exact ⟨Or.inl (by omega), ly_0 i3_2 (by omega) (by assumption) (by omega) (by omega) (by omega) (by omega)⟩ | exact ⟨ig_y (by assumption) (by assumption) (mn_at (by rfl) (by omega)) (by omega), ly_w i3_2 (by omega) (by assumption) (by assumption) (by omega) (by omega) (by omega) (by omega) (by omega)⟩ | exact ig_n1 (by omega) (by assumption) (by assumption) | exact ig_n2 (by omega) (by assumption) (mn_at (by rfl) (by omega)) (by omega)))⟩)), h23_1, h23_2⟩, by rw [ht]; exact hP, hD⟩, hS.F ht⟩) hS.2.2 dX10_isGone_153
            · have dc10 : ((mi >>> ((7 * k) &&& 31)) &&& 127).toInt < r3.toInt := nleC rfl rfl c10
              refine lv_iload_n hx hb dX10_isGone_107 rfl (lv_at hl 3 rfl) ?_
              refine lv_bipush (v := 8) hx hb dX10_isGone_108 (by decide) ?_
              refine lv_icmp_ge (tgt := 115) hx hb dX10_isGone_110 (by decide) (fun c27 => ?_) (fun c27 => ?_)
              · have dc27 : 8 ≤ ro.toInt := leC (show (8 : Int32).toInt = 8 from rfl) rfl c27
                exfalso
                omega
              · have dc27 : ro.toInt < 8 := nleC (show (8 : Int32).toInt = 8 from rfl) rfl c27
                refine lv_iconst (v := 0) hx hb dX10_isGone_113 (by decide) ?_
                exact W.zret (v := 0) hx hb hr (by decide) (fun tq ht hW => ⟨⟨0, (uS [mahd_3, mahf_3, mfar_c6] 0 (fun _ => 0)), rfl, ⟨(Or.inr (⟨rfl, (show igN mdA mdB mtop mdoo.toInt k ro mi from by (try rw [show (0 : Int32).toInt = 0 from (show (0 : Int32).toInt = 0 from rfl)]); (first | exact ⟨Or.inl (by omega), ly_0 i3_2 (by omega) (by assumption) (by omega) (by omega) (by omega) (by omega)⟩ | exact ⟨ig_y (by assumption) (by assumption) (mn_at (by rfl) (by omega)) (by omega), ly_w i3_2 (by omega) (by assumption) (by assumption) (by omega) (by omega) (by omega) (by omega) (by omega)⟩ | exact ig_n1 (by omega) (by assumption) (by assumption) | exact ig_n2 (by omega) (by assumption) (mn_at (by rfl) (by omega)) (by omega))), (show ∀ j : Nat, (j : Int) < 48 * k.toInt + 48 → mahd_3 j = mahd j from by (try rw [show (0 : Int32).toInt = 0 from (show (0 : Int32).toInt = 0 from rfl)]); exact ig_st i3_2 (by omega) (by omega))⟩)), r_mahd_3, r_mahf_3⟩, by rw [ht]; exact hP, hD⟩, hS.F ht⟩) hS.2.2 dX10_isGone_114
        · have dc2 : ro.toInt = 8 := eqC rfl (show (8 : Int32).toInt = 8 from rfl) c2
          refine lv_iconst (v := 0) hx hb dX10_isGone_76 (by decide) ?_
          refine lv_goto (tgt := 85) hx hb dX10_isGone_77 (by decide) ?_
          refine lv_istore (lv' := [(4, .int 0), (0, .ref (b 39)), (1, .int k), (2, .int ro), (3, .int mi)]) hx hb dX10_isGone_85 hl (by decide) rfl (fun ls hl => ?_)
          refine lv_iload hx hb dX10_isGone_87 (lv_at hl 0 rfl) ?_
          refine lv_iconst (v := (-1)) hx hb dX10_isGone_89 (by decide) ?_
          refine lv_icmp_eq (tgt := 113) hx hb dX10_isGone_90 (by decide) (fun c9 => absurd c9 (by decide)) (fun _ => ?_)
          refine lv_iload hx hb dX10_isGone_93 (lv_at hl 0 rfl) ?_
          refine lv_iload_n hx hb dX10_isGone_95 rfl (lv_at hl 4 rfl) ?_
          refine lv_bipush (v := 7) hx hb dX10_isGone_96 (by decide) ?_
          refine lv_iload_n hx hb dX10_isGone_98 rfl (lv_at hl 2 rfl) ?_
          refine lv_imul hx hb dX10_isGone_99 ?_
          have f28 : (7 * k).toInt = (7) * (k.toInt) := mulC (show (7 : Int32).toInt = 7 from rfl) rfl (by omega) (by omega)
          refine lv_ishr hx hb dX10_isGone_100 ?_
          refine lv_bipush (v := 127) hx hb dX10_isGone_101 (by decide) ?_
          refine lv_iand hx hb dX10_isGone_103 ?_
          have f29 := andR (a := (mi >>> ((7 * k) &&& 31))) (m := 127) (M := 127) rfl (by decide)
          refine lv_icmp_le (tgt := 115) hx hb dX10_isGone_104 (by decide) (fun c30 => ?_) (fun c30 => ?_)
          · have dc30 : 0 ≤ ((mi >>> ((7 * k) &&& 31)) &&& 127).toInt := leC (show (0 : Int32).toInt = 0 from rfl) rfl c30
            refine lv_iload_n hx hb dX10_isGone_115 rfl (lv_at hl 3 rfl) ?_
            refine lv_bipush (v := 8) hx hb dX10_isGone_116 (by decide) ?_
            refine lv_icmp_ge (tgt := 134) hx hb dX10_isGone_118 (by decide) (fun c31 => ?_) (fun c31 => ?_)
            · have dc31 : 8 ≤ ro.toInt := leC (show (8 : Int32).toInt = 8 from rfl) rfl c31
              refine lv_aload_n hx hb dX10_isGone_134 rfl (lv_at hl 1 rfl) ?_
              refine lv_bipush (v := 48) hx hb dX10_isGone_135 (by decide) ?_
              refine lv_iload_n hx hb dX10_isGone_137 rfl (lv_at hl 2 rfl) ?_
              refine lv_imul hx hb dX10_isGone_138 ?_
              have f32 : (48 * k).toInt = (48) * (k.toInt) := mulC (show (48 : Int32).toInt = 48 from rfl) rfl (by omega) (by omega)
              refine lv_bipush (v := 48) hx hb dX10_isGone_139 (by decide) ?_
              refine lv_iadd hx hb dX10_isGone_141 ?_
              have f33 : ((48 * k) + 48).toInt = ((48) * (k.toInt)) + (48) := addC f32 (show (48 : Int32).toInt = 48 from rfl) (by omega) (by omega)
              refine lv_bipush (v := 48) hx hb dX10_isGone_142 (by decide) ?_
              refine lv_iload_n hx hb dX10_isGone_144 rfl (lv_at hl 2 rfl) ?_
              refine lv_imul hx hb dX10_isGone_145 ?_
              have f34 : (48 * k).toInt = (48) * (k.toInt) := mulC (show (48 : Int32).toInt = 48 from rfl) rfl (by omega) (by omega)
              refine lv_bipush (v := 48) hx hb dX10_isGone_146 (by decide) ?_
              refine lv_iadd hx hb dX10_isGone_148 ?_
              have f35 : ((48 * k) + 48).toInt = ((48) * (k.toInt)) + (48) := addC f34 (show (48 : Int32).toInt = 48 from rfl) (by omega) (by omega)
              refine wvV (As := [.int ((48 * k) + 48), .int ((48 * k) + 48)]) (rest := []) (wr := []) (w2 := (fun u : US => (wMod cI cZ cQ b mday mdoo mdA mdB mfar mmar mtel mgai mfal mtop mstr mgho mfai mpto mwal (u.1 0) (u.1 1) mcho mbes mbyt mtxt mpos mtka mtok mdig mnum mfau mrdm mrea mlin mlne mthg mord mbor mbsm mans mand manr mali))) ⟨hx, hb, hml, hown, hts⟩ (k_X10_goDay2 l dC dI cI cZ cQ b mday mdoo mdA mdB mfar mmar mtel mgai mfal mtop mstr mgho mfai mpto mwal mahd_3 mahf_3 mcho mbes mbyt mtxt mpos mtka mtok mdig mnum mfau mrdm mrea mlin mlne mthg mord mbor mbsm mans mand manr mali _ ((48 * k) + 48) ((48 * k) + 48) r_mday r_mdoo r_mdA r_mdB r_mmar r_mgai r_mfal r_mtop r_mstr r_mgho r_mfai r_mahd_3 r_mahf_3 r_mcho r_mbyt r_mpos r_mrdm r_mlin r_mthg r_mord r_mans (by omega) (by omega) (by omega) (by omega) (by omega)) (cwV 2 hts gX10_isGone_X10_goDay rfl rfl rfl (by decide +kernel) ⟨Nat.le_of_ble_eq_true rfl, Nat.le_of_ble_eq_true rfl⟩) hP hD hS hA hK hN [0, 1, 2, 3, 4, 5, 6, 7, 8, 9, 10, 11, 12, 13, 14, 15, 16, 17, 18, 19, 20, 21, 22, 23, 24, 25] [] [0, 1, 2, 3, 4, 5, 6, 7, 8, 9, 10, 11, 12, 13, 14, 15, 16, 17, 18, 19, 20, 21, 22, 23, 24, 25] rfl rfl (by decide) (by decide) (by decide) (fun _ => rfl) (by decide) 0 10 rfl rfl rfl hl.1 rfl (Nat.le_of_ble_eq_true rfl) dX10_isGone_149 ⟨Nat.le_of_ble_eq_true rfl, Nat.le_of_ble_eq_true rfl⟩ (fun u38 H locs h37 hP hD hS => ?_)
              obtain ⟨mahd_c39, emahd_c39⟩ : ∃ f : Nat → Int32, f = (u38.1 0) := ⟨_, rfl⟩
              obtain ⟨mahf_c40, emahf_c40⟩ : ∃ f : Nat → Int32, f = (u38.1 1) := ⟨_, rfl⟩
              have hP : va_P (dC, dI) vwCl (wMod cI cZ cQ b mday mdoo mdA mdB mfar mmar mtel mgai mfal mtop mstr mgho mfai mpto mwal mahd_c39 mahf_c40 mcho mbes mbyt mtxt mpos mtka mtok mdig mnum mfau mrdm mrea mlin mlne mthg mord mbor mbsm mans mand manr mali) H := by rw [emahd_c39, emahf_c40]; exact hP
              have hD : va_D A (wMod cI cZ cQ b mday mdoo mdA mdB mfar mmar mtel mgai mfal mtop mstr mgho mfai mpto mwal mahd_c39 mahf_c40 mcho mbes mbyt mtxt mpos mtka mtok mdig mnum mfau mrdm mrea mlin mlne mthg mord mbor mbsm mans mand manr mali) := by rw [emahd_c39, emahf_c40]; exact hD
              have h37 : (gdS mfal mmar mtop mtel ((48 * k) + 48).toInt 48 mahd_3 mahf_3 mahd_c39 mahf_c40) ∧ (rg 240 (0) (100) mahd_c39) ∧ (rg 240 (0) (100) mahf_c40) := by (try rw [emahd_c39]); (try rw [emahf_c40]); exact h37
              obtain ⟨h37_0, h37_1, h37_2⟩ := h37
              refine lv_iconst (v := 1) hx hb dX10_isGone_152 (by decide) ?_
              exact W.zret (v := 1) hx hb hr (by decide) (fun tq ht hW => ⟨⟨1, (uS [mahd_c39, mahf_c40, mfar] 0 (fun _ => 0)), rfl, ⟨(Or.inl (⟨rfl, (show igT mdA mdB mtop mfal mmar mdoo.toInt mtel mgai.toInt k ro mi mahd mahd_c39 from by (try rw [show (1 : Int32).toInt = 1 from (show (1 : Int32).toInt = 1 from rfl)]); (first | exact ⟨Or.inl (by omega), ly_0 i3_2 (by omega) (by assumption) (by omega) (by omega) (by omega) (by omega)⟩ | exact ⟨ig_y (by assumption) (by assumption) (mn_at (by rfl) (by omega)) (by omega), ly_w i3_2 (by omega) (by assumption) (by assumption) (by omega) (by omega) (by omega) (by omega) (by omega)⟩ | exact ig_n1 (by omega) (by assumption) (by assumption) | exact ig_n2 (by omega) (by assumption) (mn_at (by rfl) (by omega)) (by omega)))⟩)), h37_1, h37_2⟩, by rw [ht]; exact hP, hD⟩, hS.F ht⟩) hS.2.2 dX10_isGone_153
            · have dc31 : ro.toInt < 8 := nleC (show (8 : Int32).toInt = 8 from rfl) rfl c31
              exfalso
              omega
          · have dc30 : ((mi >>> ((7 * k) &&& 31)) &&& 127).toInt < 0 := nleC (show (0 : Int32).toInt = 0 from rfl) rfl c30
            exfalso
            omega
      · have dc1 : y3_4.toInt < 48 := nleC (show (48 : Int32).toInt = 48 from rfl) rfl c1
        refine lv_aload_n hx hb dX10_isGone_10 rfl (lv_at hl 0 rfl) ?_
        refine va_get (D := (dC, dI)) (ci := 10) (v := .ref (b 15)) (C := RX10) (T := TX10) (N := 39) hx hb hts inX10 hown hK hP 0 rfl rfl 15 (by decide) lf50 (fun _ h9 => h9) rfl dX10_isGone_11 ?_
        refine lv_bipush (v := 48) hx hb dX10_isGone_14 (by decide) ?_
        refine lv_iload_n hx hb dX10_isGone_16 rfl (lv_at hl 1 rfl) ?_
        refine lv_imul hx hb dX10_isGone_17 ?_
        have f41 : (48 * k).toInt = (48) * (k.toInt) := mulC (show (48 : Int32).toInt = 48 from rfl) rfl (by omega) (by omega)
        refine lv_bipush (v := 48) hx hb dX10_isGone_18 (by decide) ?_
        refine lv_iadd hx hb dX10_isGone_20 ?_
        have f42 : ((48 * k) + 48).toInt = ((48) * (k.toInt)) + (48) := addC f41 (show (48 : Int32).toInt = 48 from rfl) (by omega) (by omega)
        refine lv_iload hx hb dX10_isGone_21 (lv_at hl 4 rfl) ?_
        refine lv_iadd hx hb dX10_isGone_23 ?_
        have f43 : (((48 * k) + 48) + y3_4).toInt = (((48) * (k.toInt)) + (48)) + (y3_4.toInt) := addC f42 rfl (by omega) (by omega)
        refine lv_aload_n hx hb dX10_isGone_24 rfl (lv_at hl 0 rfl) ?_
        refine va_get (D := (dC, dI)) (ci := 10) (v := .ref (b 15)) (C := RX10) (T := TX10) (N := 39) hx hb hts inX10 hown hK hP 0 rfl rfl 15 (by decide) lf50 (fun _ h9 => h9) rfl dX10_isGone_25 ?_
        refine lv_bipush (v := 48) hx hb dX10_isGone_28 (by decide) ?_
        refine lv_iload_n hx hb dX10_isGone_30 rfl (lv_at hl 1 rfl) ?_
        refine lv_imul hx hb dX10_isGone_31 ?_
        have f44 : (48 * k).toInt = (48) * (k.toInt) := mulC (show (48 : Int32).toInt = 48 from rfl) rfl (by omega) (by omega)
        refine lv_iload hx hb dX10_isGone_32 (lv_at hl 4 rfl) ?_
        refine lv_iadd hx hb dX10_isGone_34 ?_
        have f45 : ((48 * k) + y3_4).toInt = ((48) * (k.toInt)) + (y3_4.toInt) := addC f44 rfl (by omega) (by omega)
        have b46 : vp_in ((48 * k) + y3_4) 240 := inC f45 (by omega) (by omega)
        refine va_iald hx hb hK hP 12 0 rfl rfl b46 dX10_isGone_35 ?_
        have g47 : 0 ≤ (mahd_3 ((48 * k) + y3_4).toNatClampNeg).toInt ∧ (mahd_3 ((48 * k) + y3_4).toNatClampNeg).toInt ≤ 100 := rg_at r_mahd_3 b46
        refine lv_topi (fun x48 ex48 => ?_)
        have ix48 : x48.toInt = (mahd_3 ((48 * k) + y3_4).toNatClampNeg).toInt := by rw [ex48]
        have b49 : vp_in (((48 * k) + 48) + y3_4) 240 := inC f43 (by omega) (by omega)
        have g50 : rg 240 (0) (100) (upd mahd_3 (((48 * k) + 48) + y3_4).toNatClampNeg x48) := rg_upd r_mahd_3 rfl (by omega) (by omega)
        refine va_iast hx hb hK hP hD hS 12 0 rfl rfl b49 dX10_isGone_36 (fun H locs hP hD hS => ?_)
        obtain ⟨mahd_u51, emahd_u51⟩ : ∃ f : Nat → Int32, f = upd mahd_3 (((48 * k) + 48) + y3_4).toNatClampNeg x48 := ⟨_, rfl⟩
        have rmahd_u51 : rg 240 (0) (100) mahd_u51 := by rw [emahd_u51]; exact g50
        have hP : va_P (dC, dI) vwCl (wMod cI cZ cQ b mday mdoo mdA mdB mfar mmar mtel mgai mfal mtop mstr mgho mfai mpto mwal mahd_u51 mahf_3 mcho mbes mbyt mtxt mpos mtka mtok mdig mnum mfau mrdm mrea mlin mlne mthg mord mbor mbsm mans mand manr mali) H := by rw [emahd_u51]; exact hP
        have hD : va_D A (wMod cI cZ cQ b mday mdoo mdA mdB mfar mmar mtel mgai mfal mtop mstr mgho mfai mpto mwal mahd_u51 mahf_3 mcho mbes mbyt mtxt mpos mtka mtok mdig mnum mfau mrdm mrea mlin mlne mthg mord mbor mbsm mans mand manr mali) := by rw [emahd_u51]; exact hD
        refine lv_aload_n hx hb dX10_isGone_37 rfl (lv_at hl 0 rfl) ?_
        refine va_get (D := (dC, dI)) (ci := 10) (v := .ref (b 16)) (C := RX10) (T := TX10) (N := 39) hx hb hts inX10 hown hK hP 0 rfl rfl 16 (by decide) lf53 (fun _ h9 => h9) rfl dX10_isGone_38 ?_
        refine lv_bipush (v := 48) hx hb dX10_isGone_41 (by decide) ?_
        refine lv_iload_n hx hb dX10_isGone_43 rfl (lv_at hl 1 rfl) ?_
        refine lv_imul hx hb dX10_isGone_44 ?_
        have f52 : (48 * k).toInt = (48) * (k.toInt) := mulC (show (48 : Int32).toInt = 48 from rfl) rfl (by omega) (by omega)
        refine lv_bipush (v := 48) hx hb dX10_isGone_45 (by decide) ?_
        refine lv_iadd hx hb dX10_isGone_47 ?_
        have f53 : ((48 * k) + 48).toInt = ((48) * (k.toInt)) + (48) := addC f52 (show (48 : Int32).toInt = 48 from rfl) (by omega) (by omega)
        refine lv_iload hx hb dX10_isGone_48 (lv_at hl 4 rfl) ?_
        refine lv_iadd hx hb dX10_isGone_50 ?_
        have f54 : (((48 * k) + 48) + y3_4).toInt = (((48) * (k.toInt)) + (48)) + (y3_4.toInt) := addC f53 rfl (by omega) (by omega)
        refine lv_aload_n hx hb dX10_isGone_51 rfl (lv_at hl 0 rfl) ?_
        refine va_get (D := (dC, dI)) (ci := 10) (v := .ref (b 16)) (C := RX10) (T := TX10) (N := 39) hx hb hts inX10 hown hK hP 0 rfl rfl 16 (by decide) lf53 (fun _ h9 => h9) rfl dX10_isGone_52 ?_
        refine lv_bipush (v := 48) hx hb dX10_isGone_55 (by decide) ?_
        refine lv_iload_n hx hb dX10_isGone_57 rfl (lv_at hl 1 rfl) ?_
        refine lv_imul hx hb dX10_isGone_58 ?_
        have f55 : (48 * k).toInt = (48) * (k.toInt) := mulC (show (48 : Int32).toInt = 48 from rfl) rfl (by omega) (by omega)
        refine lv_iload hx hb dX10_isGone_59 (lv_at hl 4 rfl) ?_
        refine lv_iadd hx hb dX10_isGone_61 ?_
        have f56 : ((48 * k) + y3_4).toInt = ((48) * (k.toInt)) + (y3_4.toInt) := addC f55 rfl (by omega) (by omega)
        have b57 : vp_in ((48 * k) + y3_4) 240 := inC f56 (by omega) (by omega)
        refine va_iald hx hb hK hP 13 0 rfl rfl b57 dX10_isGone_62 ?_
        have g58 : 0 ≤ (mahf_3 ((48 * k) + y3_4).toNatClampNeg).toInt ∧ (mahf_3 ((48 * k) + y3_4).toNatClampNeg).toInt ≤ 100 := rg_at r_mahf_3 b57
        refine lv_topi (fun x59 ex59 => ?_)
        have ix59 : x59.toInt = (mahf_3 ((48 * k) + y3_4).toNatClampNeg).toInt := by rw [ex59]
        have b60 : vp_in (((48 * k) + 48) + y3_4) 240 := inC f54 (by omega) (by omega)
        have g61 : rg 240 (0) (100) (upd mahf_3 (((48 * k) + 48) + y3_4).toNatClampNeg x59) := rg_upd r_mahf_3 rfl (by omega) (by omega)
        refine va_iast hx hb hK hP hD hS 13 0 rfl rfl b60 dX10_isGone_63 (fun H locs hP hD hS => ?_)
        obtain ⟨mahf_u62, emahf_u62⟩ : ∃ f : Nat → Int32, f = upd mahf_3 (((48 * k) + 48) + y3_4).toNatClampNeg x59 := ⟨_, rfl⟩
        have rmahf_u62 : rg 240 (0) (100) mahf_u62 := by rw [emahf_u62]; exact g61
        have hP : va_P (dC, dI) vwCl (wMod cI cZ cQ b mday mdoo mdA mdB mfar mmar mtel mgai mfal mtop mstr mgho mfai mpto mwal mahd_u51 mahf_u62 mcho mbes mbyt mtxt mpos mtka mtok mdig mnum mfau mrdm mrea mlin mlne mthg mord mbor mbsm mans mand manr mali) H := by rw [emahf_u62]; exact hP
        have hD : va_D A (wMod cI cZ cQ b mday mdoo mdA mdB mfar mmar mtel mgai mfal mtop mstr mgho mfai mpto mwal mahd_u51 mahf_u62 mcho mbes mbyt mtxt mpos mtka mtok mdig mnum mfau mrdm mrea mlin mlne mthg mord mbor mbsm mans mand manr mali) := by rw [emahf_u62]; exact hD
        obtain ⟨z63, ez63⟩ : ∃ y : Int32, y = y3_4 + 1 := ⟨_, rfl⟩
        have iz63 : z63.toInt = y3_4.toInt + 1 := by rw [ez63]; exact addC rfl rfl (by omega) (by omega)
        refine lv_iinc (v := z63) (lv' := [(4, .int z63), (0, .ref (b 39)), (1, .int k), (2, .int ro), (3, .int mi)]) hx hb dX10_isGone_64 hl (k := 4) rfl (by rw [ez63]; rfl) (by decide) rfl (fun ls hl => ?_)
        refine lv_goto (tgt := 3) hx hb dX10_isGone_67 (by decide) ?_
        exact ih3 z63 mahd_u51 mahf_u62 _ _ _ rmahd_u51 rmahf_u62 (by omega) (by omega) (by (first | exact cl_s (d := 48 * k + 48 + y3_4) (s := 48 * k + y3_4) i3_2 (by assumption) (by assumption) (by omega) (by omega) (by omega) (by omega) (by omega) (by omega) (by omega) | exact cl_0 (by first | rfl | omega))) (by omega) hP hD hS (lv_sub hl [1, 2, 3, 4, 0] rfl)
  have kc64 : (0 : Int32).toInt = 0 := rfl
  exact L3 _ 0 mahd mahf _ _ _ r_mahd r_mahf (by omega) (by omega) (by (first | exact cl_s (d := 48 * k + 48 + y3_4) (s := 48 * k + y3_4) i3_2 (by assumption) (by assumption) (by omega) (by omega) (by omega) (by omega) (by omega) (by omega) (by omega) | exact cl_0 (by first | rfl | omega))) (Nat.lt_succ_self _) hP hD hS (lv_sub hl [1, 2, 3, 4, 0] rfl)
set_option maxHeartbeats 4000000 in
set_option maxRecDepth 100000 in
theorem k_X10_allAt2 (l : Launch) (dC : Nat → ClassId) (dI : Nat → Nat → Nat) (cI cZ cQ : ClassId) (b : Nat → Nat) (mday : Int32) (mdoo : Int32) (mdA : Nat → Int32) (mdB : Nat → Int32) (mfar : Nat → Int32) (mmar : Nat → Int32) (mtel : Int32) (mgai : Int32) (mfal : Nat → Int32) (mtop : Nat → Int32) (mstr : Nat → Int32) (mgho : Nat → Int32) (mfai : Nat → Int32) (mpto : Nat → Int32) (mwal : Nat → Int32) (mahd : Nat → Int32) (mahf : Nat → Int32) (mcho : Nat → Int32) (mbes : Nat → Int32) (mbyt : Int32) (mtxt : Nat → Int32) (mpos : Int32) (mtka : Int32) (mtok : Int64) (mdig : Int32) (mnum : Int32) (mfau : Int32) (mrdm : Int32) (mrea : Nat → Int32) (mlin : Int32) (mlne : Nat → Int32) (mthg : Nat → Int32) (mord : Nat → Int32) (mbor : Nat → Int32) (mbsm : Int32) (mans : Nat → Int32) (mand : Nat → Int32) (manr : Nat → Int32) (mali : Nat → Int32) (at_ : Int32) (r_mday : 0 ≤ mday.toInt ∧ mday.toInt ≤ 400) (r_mdoo : 0 ≤ mdoo.toInt ∧ mdoo.toInt ≤ 14) (r_mdA : rg 14 (0) (7) mdA) (r_mdB : rg 14 (0) (7) mdB) (r_mmar : rg 24 (0) (255) mmar) (r_mgai : 0 ≤ mgai.toInt ∧ mgai.toInt ≤ 100) (r_mfal : rg 11 (0) (30) mfal) (r_mtop : rg 48 (-1) (23) mtop) (r_mstr : rg 48 (0) (100) mstr) (r_mgho : rg 48 (-1) (23) mgho) (r_mfai : rg 48 (0) (100) mfai) (r_mahd : rg 240 (0) (100) mahd) (r_mahf : rg 240 (0) (100) mahf) (r_mcho : rg 5 (-1) (9) mcho) (r_mbyt : 0 ≤ mbyt.toInt ∧ mbyt.toInt ≤ 160) (r_mpos : 0 ≤ mpos.toInt ∧ mpos.toInt ≤ 160) (r_mrdm : 0 ≤ mrdm.toInt ∧ mrdm.toInt ≤ 10) (r_mlin : 0 ≤ mlin.toInt ∧ mlin.toInt ≤ 10) (r_mthg : rg 8 (0) (31) mthg) (r_mord : rg 8 (-1) (8) mord) (r_mans : rg 4 (0) (12) mans) (q0 : 0 ≤ at_.toInt) (q1 : at_.toInt ≤ 192) : KR l yX10_allAt wsX10_allAt { frames := 0, cells := 0, slots := 0, locals := 0 } (dC, dI) (TY cI cZ cQ) (wMod cI cZ cQ b mday mdoo mdA mdB mfar mmar mtel mgai mfal mtop mstr mgho mfai mpto mwal mahd mahf mcho mbes mbyt mtxt mpos mtka mtok mdig mnum mfau mrdm mrea mlin mlne mthg mord mbor mbsm mans mand manr mali) [.ref (b 39), .int at_] (fun r : Int32 => (r.toInt = srF mtop (fun c => (mahd (at_.toInt.toNat + c)).toInt) 0 48) ∧ (0 ≤ r.toInt)) := by
  refine Met.ofW (cc := cX10_allAt) (maxL := 4) (ret := (some .int)) (by decide) rfl ?_
  intro p e s m args below meth c s₁ B hml hv
  obtain ⟨rfl, hP, hK, hN⟩ := hv
  have hx := B.exec
  have hb := B.bytes
  have hr := B.returns
  have hts := atoms_spec (ws := wsX10_allAt) B.pre
  have hown : s.vm.findClass RX10 = some m.cls := findClass_of_methodNamed B.named
  have hlocks := B.notSynchronized
  have lf32 := hts (.fieldLink RX10 32 "PalaceOfRoomsModel" "top" "[I") (List.mem_cons_of_mem _ (List.mem_append_left _ (List.mem_of_getElem? (i := 0) rfl)))
  have inX10 : ∀ w ∈ wsX100, w ∈ wsX10_allAt := fun w h => List.mem_cons_of_mem _ (List.mem_append_right _ h)
  have lf50 := hts (.fieldLink RX10 50 "PalaceOfRoomsModel" "ahead" "[I") (List.mem_cons_of_mem _ (List.mem_append_left _ (List.mem_of_getElem? (i := 1) rfl)))
  have hl := lv_entry ([.ref (b 39), .int at_]) (n := 4) (Nat.le_of_ble_eq_true rfl)
  rw [lg_entry_eq]
  generalize (lg_sl ([.ref (b 39), .int at_]) ++ List.replicate (4 - (lg_sl ([.ref (b 39), .int at_])).length) Slot.unset).toArray = ls at hl ⊢
  have hl : lv_has ls 4 [(0, .ref (b 39)), (1, .int at_)] := hl
  refine lv_iconst (v := 0) hx hb dX10_allAt_0 (by decide) ?_
  refine lv_istore_n (lv' := [(2, .int 0), (0, .ref (b 39)), (1, .int at_)]) hx hb dX10_allAt_1 rfl hl (by decide) rfl (fun ls hl => ?_)
  refine lv_iconst (v := 0) hx hb dX10_allAt_2 (by decide) ?_
  refine lv_istore_n (lv' := [(3, .int 0), (2, .int 0), (0, .ref (b 39)), (1, .int at_)]) hx hb dX10_allAt_3 rfl hl (by decide) rfl (fun ls hl => ?_)
  have L4 : ∀ (nn : Nat) (y4_2 : Int32) (y4_3 : Int32) (ls : Array Slot), (0 ≤ (y4_3.toInt)) → ((y4_3.toInt) ≤ 48) → (0 ≤ (y4_2.toInt)) → ((y4_2.toInt) ≤ 4800) → ((y4_2.toInt) ≤ 100 * (y4_3.toInt)) → ((y4_2.toInt) = srF mtop (fun c => (mahd (at_.toInt.toNat + c)).toInt) 0 ((y4_3.toInt)).toNat) → (48 - (y4_3.toInt)).toNat < nn → lv_has ls 4 [(0, .ref (b 39)), (1, .int at_), (2, .int y4_2), (3, .int y4_3)] → W p l e (headSpec wsX10_allAt { frames := 0, cells := 0, slots := 0, locals := 0 }).room s m ([.ref (b 39), .int at_] : List Value).toArray below meth c s.heap [] 0 0 (MQ below (QR (fun r : Int32 => (r.toInt = srF mtop (fun c => (mahd (at_.toInt.toNat + c)).toInt) 0 48) ∧ (0 ≤ r.toInt))) ([.ref (b 39), .int at_] : List Value).toArray s 0 0 (fun _ => False)) (F0 m 4 ls []) := by
    intro nn
    induction nn with
    | zero =>
      intro y4_2 y4_3 ls i4_0 i4_1 i4_2 i4_3 i4_4 i4_5 hm4
      exact absurd hm4 (Nat.not_lt_zero _)
    | succ nn ih4 =>
      intro y4_2 y4_3 ls i4_0 i4_1 i4_2 i4_3 i4_4 i4_5 hm4 hl
      refine lv_iload_n hx hb dX10_allAt_4 rfl (lv_at hl 3 rfl) ?_
      refine lv_bipush (v := 48) hx hb dX10_allAt_5 (by decide) ?_
      refine lv_icmp_ge (tgt := 41) hx hb dX10_allAt_7 (by decide) (fun c1 => ?_) (fun c1 => ?_)
      · have dc1 : 48 ≤ y4_3.toInt := leC (show (48 : Int32).toInt = 48 from rfl) rfl c1
        refine lv_iload_n hx hb dX10_allAt_41 rfl (lv_at hl 2 rfl) ?_
        exact W.iret (v := y4_2) hx hb hr (fun tq ht hW => ⟨y4_2, rfl, ⟨(show y4_2.toInt = srF mtop (fun c => (mahd (at_.toInt.toNat + c)).toInt) 0 48 from by exact sr_e i4_5 rfl (by omega)), (show 0 ≤ y4_2.toInt from by omega)⟩, ht⟩) (fun q h => by cases h) dX10_allAt_42
      · have dc1 : y4_3.toInt < 48 := nleC (show (48 : Int32).toInt = 48 from rfl) rfl c1
        refine lv_iload_n hx hb dX10_allAt_10 rfl (lv_at hl 2 rfl) ?_
        refine lv_aload_n hx hb dX10_allAt_11 rfl (lv_at hl 0 rfl) ?_
        refine va_get (D := (dC, dI)) (ci := 10) (v := .ref (b 9)) (C := RX10) (T := TX10) (N := 39) hx hb hts inX10 hown hK hP 0 rfl rfl 9 (by decide) lf32 (fun _ h9 => h9) rfl dX10_allAt_12 ?_
        refine lv_iload_n hx hb dX10_allAt_15 rfl (lv_at hl 3 rfl) ?_
        have b2 : vp_in y4_3 48 := inC rfl (by omega) (by omega)
        refine va_iald hx hb hK hP 6 0 rfl rfl b2 dX10_allAt_16 ?_
        have g3 : -1 ≤ (mtop y4_3.toNatClampNeg).toInt ∧ (mtop y4_3.toNatClampNeg).toInt ≤ 23 := rg_at r_mtop b2
        refine lv_iconst (v := (-1)) hx hb dX10_allAt_17 (by decide) ?_
        refine lv_icmp_ne (tgt := 25) hx hb dX10_allAt_18 (by decide) (fun c4 => ?_) (fun c4 => ?_)
        · have dc4 : 0 ≤ (mtop y4_3.toNatClampNeg).toInt := ka_lo (by omega) (neC rfl (show ((-1) : Int32).toInt = (-1) from rfl) c4)
          refine lv_aload_n hx hb dX10_allAt_25 rfl (lv_at hl 0 rfl) ?_
          refine va_get (D := (dC, dI)) (ci := 10) (v := .ref (b 15)) (C := RX10) (T := TX10) (N := 39) hx hb hts inX10 hown hK hP 0 rfl rfl 15 (by decide) lf50 (fun _ h9 => h9) rfl dX10_allAt_26 ?_
          refine lv_iload_n hx hb dX10_allAt_29 rfl (lv_at hl 1 rfl) ?_
          refine lv_iload_n hx hb dX10_allAt_30 rfl (lv_at hl 3 rfl) ?_
          refine lv_iadd hx hb dX10_allAt_31 ?_
          have f5 : (at_ + y4_3).toInt = (at_.toInt) + (y4_3.toInt) := addC rfl rfl (by omega) (by omega)
          have b6 : vp_in (at_ + y4_3) 240 := inC f5 (by omega) (by omega)
          refine va_iald hx hb hK hP 12 0 rfl rfl b6 dX10_allAt_32 ?_
          have g7 : 0 ≤ (mahd (at_ + y4_3).toNatClampNeg).toInt ∧ (mahd (at_ + y4_3).toNatClampNeg).toInt ≤ 100 := rg_at r_mahd b6
          refine lv_iadd hx hb dX10_allAt_33 ?_
          have f8 : (y4_2 + (mahd (at_ + y4_3).toNatClampNeg)).toInt = (y4_2.toInt) + ((mahd (at_ + y4_3).toNatClampNeg).toInt) := addC rfl rfl (by omega) (by omega)
          refine lv_topi (fun x9 ex9 => ?_)
          have ix9 : x9.toInt = (y4_2.toInt) + ((mahd (at_ + y4_3).toNatClampNeg).toInt) := by rw [ex9]; exact f8
          refine lv_istore_n (lv' := [(2, .int x9), (0, .ref (b 39)), (1, .int at_), (3, .int y4_3)]) hx hb dX10_allAt_34 rfl hl (by decide) rfl (fun ls hl => ?_)
          obtain ⟨z10, ez10⟩ : ∃ y : Int32, y = y4_3 + 1 := ⟨_, rfl⟩
          have iz10 : z10.toInt = y4_3.toInt + 1 := by rw [ez10]; exact addC rfl rfl (by omega) (by omega)
          refine lv_iinc (v := z10) (lv' := [(3, .int z10), (2, .int x9), (0, .ref (b 39)), (1, .int at_)]) hx hb dX10_allAt_35 hl (k := 3) rfl (by rw [ez10]; rfl) (by decide) rfl (fun ls hl => ?_)
          refine lv_goto (tgt := 4) hx hb dX10_allAt_38 (by decide) ?_
          exact ih4 x9 z10 _ (by omega) (by omega) (by omega) (by omega) (by omega) (by (first | exact sr_s (o := y4_3) i4_5 (by rw [clC (x := y4_3) rfl]; omega) (by first | exact Or.inl ⟨by assumption, by first | rfl | omega⟩ | exact Or.inr ⟨by assumption, aa_of (x := at_ + y4_3) (by omega) (by omega) (by omega) (by omega)⟩) (by omega) | exact sr_0 (by first | rfl | omega) (by first | rfl | omega))) (by omega) (lv_sub hl [2, 3, 1, 0] rfl)
        · have dc4 : (mtop y4_3.toNatClampNeg).toInt = (-1) := eqC rfl (show ((-1) : Int32).toInt = (-1) from rfl) c4
          refine lv_iconst (v := 0) hx hb dX10_allAt_21 (by decide) ?_
          refine lv_goto (tgt := 33) hx hb dX10_allAt_22 (by decide) ?_
          refine lv_iadd hx hb dX10_allAt_33 ?_
          have f11 : (y4_2 + 0).toInt = (y4_2.toInt) + (0) := addC rfl (show (0 : Int32).toInt = 0 from rfl) (by omega) (by omega)
          refine lv_topi (fun x12 ex12 => ?_)
          have ix12 : x12.toInt = (y4_2.toInt) + (0) := by rw [ex12]; exact f11
          refine lv_istore_n (lv' := [(2, .int x12), (0, .ref (b 39)), (1, .int at_), (3, .int y4_3)]) hx hb dX10_allAt_34 rfl hl (by decide) rfl (fun ls hl => ?_)
          obtain ⟨z13, ez13⟩ : ∃ y : Int32, y = y4_3 + 1 := ⟨_, rfl⟩
          have iz13 : z13.toInt = y4_3.toInt + 1 := by rw [ez13]; exact addC rfl rfl (by omega) (by omega)
          refine lv_iinc (v := z13) (lv' := [(3, .int z13), (2, .int x12), (0, .ref (b 39)), (1, .int at_)]) hx hb dX10_allAt_35 hl (k := 3) rfl (by rw [ez13]; rfl) (by decide) rfl (fun ls hl => ?_)
          refine lv_goto (tgt := 4) hx hb dX10_allAt_38 (by decide) ?_
          exact ih4 x12 z13 _ (by omega) (by omega) (by omega) (by omega) (by omega) (by (first | exact sr_s (o := y4_3) i4_5 (by rw [clC (x := y4_3) rfl]; omega) (by first | exact Or.inl ⟨by assumption, by first | rfl | omega⟩ | exact Or.inr ⟨by assumption, aa_of (x := at_ + y4_3) (by omega) (by omega) (by omega) (by omega)⟩) (by omega) | exact sr_0 (by first | rfl | omega) (by first | rfl | omega))) (by omega) (lv_sub hl [2, 3, 1, 0] rfl)
  have kc14 : (0 : Int32).toInt = 0 := rfl
  exact L4 _ 0 0 _ (by omega) (by omega) (by omega) (by omega) (by omega) (by (first | exact sr_s (o := y4_3) i4_5 (by rw [clC (x := y4_3) rfl]; omega) (by first | exact Or.inl ⟨by assumption, by first | rfl | omega⟩ | exact Or.inr ⟨by assumption, aa_of (x := at_ + y4_3) (by omega) (by omega) (by omega) (by omega)⟩) (by omega) | exact sr_0 (by first | rfl | omega) (by first | rfl | omega))) (Nat.lt_succ_self _) (lv_sub hl [2, 3, 1, 0] rfl)
set_option maxHeartbeats 4000000 in
set_option maxRecDepth 100000 in
theorem k_X10_judge2 (l : Launch) (dC : Nat → ClassId) (dI : Nat → Nat → Nat) (cI cZ cQ : ClassId) (b : Nat → Nat) (mday : Int32) (mdoo : Int32) (mdA : Nat → Int32) (mdB : Nat → Int32) (mfar : Nat → Int32) (mmar : Nat → Int32) (mtel : Int32) (mgai : Int32) (mfal : Nat → Int32) (mtop : Nat → Int32) (mstr : Nat → Int32) (mgho : Nat → Int32) (mfai : Nat → Int32) (mpto : Nat → Int32) (mwal : Nat → Int32) (mahd : Nat → Int32) (mahf : Nat → Int32) (mcho : Nat → Int32) (mbes : Nat → Int32) (mbyt : Int32) (mtxt : Nat → Int32) (mpos : Int32) (mtka : Int32) (mtok : Int64) (mdig : Int32) (mnum : Int32) (mfau : Int32) (mrdm : Int32) (mrea : Nat → Int32) (mlin : Int32) (mlne : Nat → Int32) (mthg : Nat → Int32) (mord : Nat → Int32) (mbor : Nat → Int32) (mbsm : Int32) (mans : Nat → Int32) (mand : Nat → Int32) (manr : Nat → Int32) (mali : Nat → Int32) (sz : Nat) (row : Int32) (n : Int32) (mi : Int32) (r_mday : 0 ≤ mday.toInt ∧ mday.toInt ≤ 400) (r_mdoo : 0 ≤ mdoo.toInt ∧ mdoo.toInt ≤ 14) (r_mdA : rg 14 (0) (7) mdA) (r_mdB : rg 14 (0) (7) mdB) (r_mmar : rg 24 (0) (255) mmar) (r_mgai : 0 ≤ mgai.toInt ∧ mgai.toInt ≤ 100) (r_mfal : rg 11 (0) (30) mfal) (r_mtop : rg 48 (-1) (23) mtop) (r_mstr : rg 48 (0) (100) mstr) (r_mgho : rg 48 (-1) (23) mgho) (r_mfai : rg 48 (0) (100) mfai) (r_mahd : rg 240 (0) (100) mahd) (r_mahf : rg 240 (0) (100) mahf) (r_mcho : rg 5 (-1) (9) mcho) (r_mbyt : 0 ≤ mbyt.toInt ∧ mbyt.toInt ≤ 160) (r_mpos : 0 ≤ mpos.toInt ∧ mpos.toInt ≤ 160) (r_mrdm : 0 ≤ mrdm.toInt ∧ mrdm.toInt ≤ 10) (r_mlin : 0 ≤ mlin.toInt ∧ mlin.toInt ≤ 10) (r_mthg : rg 8 (0) (31) mthg) (r_mord : rg 8 (-1) (8) mord) (r_mans : rg 4 (0) (12) mans) : KW l yX10_judge wsX10_judge { frames := 4, cells := 0, slots := 0, locals := 97 } (dC, dI) (TY cI cZ cQ) (wMod cI cZ cQ b mday mdoo mdA mdB mfar mmar mtel mgai mfal mtop mstr mgho mfai mpto mwal mahd mahf mcho mbes mbyt mtxt mpos mtka mtok mdig mnum mfau mrdm mrea mlin mlne mthg mord mbor mbsm mans mand manr mali) [.ref (b 39), .int row, .int n, .int mi] sz 0 0 (fun (r : Int32) (u : US) => (spJdgM mdA mdB mmar mfal mtop mstr mdoo mtel mgai.toInt row n mi r) ∧ (rg 240 (0) (100) (u.1 0)) ∧ (rg 240 (0) (100) (u.1 1))) (fun u : US => (wMod cI cZ cQ b mday mdoo mdA mdB (u.1 2) mmar mtel mgai mfal mtop mstr mgho mfai mpto mwal (u.1 0) (u.1 1) mcho mbes mbyt mtxt mpos mtka mtok mdig mnum mfau mrdm mrea mlin mlne mthg mord mbor mbsm mans mand manr mali)) := by
  refine Met.ofW (cc := cX10_judge) (maxL := 5) (ret := (some .int)) (by decide) rfl ?_
  intro p e s m args below meth c s₁ B hml hv
  obtain ⟨rfl, hsz, hP, hK, hD0, hN⟩ := hv
  have hx := B.exec
  have hb := B.bytes
  have hr := B.returns
  have hts := atoms_spec (ws := wsX10_judge) B.pre
  have hown : s.vm.findClass RX10 = some m.cls := findClass_of_methodNamed B.named
  have hlocks := B.notSynchronized
  subst hsz
  have hD := hD0.self (sz := s.heap.size)
  generalize hAe : va_A (wMod cI cZ cQ b mday mdoo mdA mdB mfar mmar mtel mgai mfal mtop mstr mgho mfai mpto mwal mahd mahf mcho mbes mbyt mtxt mpos mtka mtok mdig mnum mfau mrdm mrea mlin mlne mthg mord mbor mbsm mans mand manr mali) s.heap.size = A at hD ⊢
  have hA : ∀ q : Nat, s.heap.size ≤ q → A q := fun q h => by rw [← hAe]; exact Or.inr h
  have hS : va_S A s.heap s.heap [] := va_S.rf
  have hl := lv_entry ([.ref (b 39), .int row, .int n, .int mi]) (n := 5) (Nat.le_of_ble_eq_true rfl)
  rw [lg_entry_eq]
  generalize (lg_sl ([.ref (b 39), .int row, .int n, .int mi]) ++ List.replicate (5 - (lg_sl ([.ref (b 39), .int row, .int n, .int mi])).length) Slot.unset).toArray = ls at hl ⊢
  have hl : lv_has ls 5 [(0, .ref (b 39)), (1, .int row), (2, .int n), (3, .int mi)] := hl
  refine lv_iload_n hx hb dX10_judge_0 rfl (lv_at hl 2 rfl) ?_
  refine lv_iload_n hx hb dX10_judge_1 rfl (lv_at hl 3 rfl) ?_
  refine rdS (As := [.int n, .int mi]) (rest := []) ⟨hx, hb, hml, hown, hts⟩ (k_X10_areMinutes2 l dC dI cI cZ cQ n mi) (va_cwS 2 hts gX10_judge_X10_areMinutes rfl rfl rfl (by decide +kernel) ⟨Nat.le_of_ble_eq_true rfl, Nat.le_of_ble_eq_true rfl⟩) hP hK hN [] rfl rfl hl.1 rfl (Nat.le_of_ble_eq_true rfl) dX10_judge_2 ⟨Nat.le_of_ble_eq_true rfl, Nat.le_of_ble_eq_true rfl⟩ (fun r1 h2 => ?_)
  have h2 : ((((r1 = 1) ∧ (1 ≤ n.toInt) ∧ (n.toInt ≤ 4) ∧ (∀ j : Nat, (j : Int) < n.toInt → (mnW mi j).toInt < 100)) ∨ ((r1 = 0) ∧ (n.toInt < 1 ∨ 4 < n.toInt ∨ ∃ j : Nat, (j : Int) < n.toInt ∧ 99 < (mnW mi j).toInt)))) := h2
  rcases h2 with (⟨rfl, h2_a0, h2_a1, h2_a2⟩ | ⟨rfl, h2_a0⟩)
  · refine lv_if_ne (tgt := 11) hx hb dX10_judge_5 (by decide) (fun _ => ?_) (fun c9 => absurd c9 (by decide))
    refine lv_iconst (v := 0) hx hb dX10_judge_11 (by decide) ?_
    refine lv_istore (lv' := [(4, .int 0), (0, .ref (b 39)), (1, .int row), (2, .int n), (3, .int mi)]) hx hb dX10_judge_12 hl (by decide) rfl (fun ls hl => ?_)
    have L14 : ∀ (nn : Nat) (y14_4 : Int32) (H : Heap) (locs : List Loc) (ls : Array Slot), (0 ≤ (y14_4.toInt)) → ((y14_4.toInt) ≤ 4) → (rwL row (y14_4.toInt)) → ((y14_4.toInt) ≤ n.toInt) → (4 - (y14_4.toInt)).toNat < nn → va_P (dC, dI) vwCl (wMod cI cZ cQ b mday mdoo mdA mdB mfar mmar mtel mgai mfal mtop mstr mgho mfai mpto mwal mahd mahf mcho mbes mbyt mtxt mpos mtka mtok mdig mnum mfau mrdm mrea mlin mlne mthg mord mbor mbsm mans mand manr mali) H → va_D A (wMod cI cZ cQ b mday mdoo mdA mdB mfar mmar mtel mgai mfal mtop mstr mgho mfai mpto mwal mahd mahf mcho mbes mbyt mtxt mpos mtka mtok mdig mnum mfau mrdm mrea mlin mlne mthg mord mbor mbsm mans mand manr mali) → va_S A s.heap H locs → lv_has ls 5 [(0, .ref (b 39)), (1, .int row), (2, .int n), (3, .int mi), (4, .int y14_4)] → W p l e (headSpec wsX10_judge { frames := 4, cells := 0, slots := 0, locals := 97 }).room s m ([.ref (b 39), .int row, .int n, .int mi] : List Value).toArray below meth c H locs 0 0 (MQ below (va_Qi (fun (r : Int32) (u : US) => (spJdgM mdA mdB mmar mfal mtop mstr mdoo mtel mgai.toInt row n mi r) ∧ (rg 240 (0) (100) (u.1 0)) ∧ (rg 240 (0) (100) (u.1 1))) (Bw (dC, dI) A (fun u : US => (wMod cI cZ cQ b mday mdoo mdA mdB (u.1 2) mmar mtel mgai mfal mtop mstr mgho mfai mpto mwal (u.1 0) (u.1 1) mcho mbes mbyt mtxt mpos mtka mtok mdig mnum mfau mrdm mrea mlin mlne mthg mord mbor mbsm mans mand manr mali))) A) ([.ref (b 39), .int row, .int n, .int mi] : List Value).toArray s 0 0 A) (F0 m 14 ls []) := by
      intro nn
      induction nn with
      | zero =>
        intro y14_4 H locs ls i14_0 i14_1 i14_2 i14_3 hm14
        exact absurd hm14 (Nat.not_lt_zero _)
      | succ nn ih14 =>
        intro y14_4 H locs ls i14_0 i14_1 i14_2 i14_3 hm14 hP hD hS hl
        refine lv_iload hx hb dX10_judge_14 (lv_at hl 4 rfl) ?_
        refine lv_iload_n hx hb dX10_judge_16 rfl (lv_at hl 2 rfl) ?_
        refine lv_icmp_ge (tgt := 43) hx hb dX10_judge_17 (by decide) (fun c3 => ?_) (fun c3 => ?_)
        · have dc3 : n.toInt ≤ y14_4.toInt := leC rfl rfl c3
          refine lv_aload_n hx hb dX10_judge_43 rfl (lv_at hl 0 rfl) ?_
          refine wvV (As := []) (rest := []) (wr := []) (w2 := (fun u : US => (wMod cI cZ cQ b mday mdoo mdA mdB mfar mmar mtel mgai mfal mtop mstr mgho mfai mpto mwal (u.1 0) (u.1 1) mcho mbes mbyt mtxt mpos mtka mtok mdig mnum mfau mrdm mrea mlin mlne mthg mord mbor mbsm mans mand manr mali))) ⟨hx, hb, hml, hown, hts⟩ (k_X10_lookAhead2 l dC dI cI cZ cQ b mday mdoo mdA mdB mfar mmar mtel mgai mfal mtop mstr mgho mfai mpto mwal mahd mahf mcho mbes mbyt mtxt mpos mtka mtok mdig mnum mfau mrdm mrea mlin mlne mthg mord mbor mbsm mans mand manr mali _ r_mday r_mdoo r_mdA r_mdB r_mmar r_mgai r_mfal r_mtop r_mstr r_mgho r_mfai r_mahd r_mahf r_mcho r_mbyt r_mpos r_mrdm r_mlin r_mthg r_mord r_mans) (cwV 0 hts gX10_judge_X10_lookAhead rfl rfl rfl (by decide +kernel) ⟨Nat.le_of_ble_eq_true rfl, Nat.le_of_ble_eq_true rfl⟩) hP hD hS hA hK hN [0, 1, 2, 3, 4, 5, 6, 7, 8, 9, 10, 11, 12, 13, 14, 15, 16, 17, 18, 19, 20, 21, 22, 23, 24, 25] [] [0, 1, 2, 3, 4, 5, 6, 7, 8, 9, 10, 11, 12, 13, 14, 15, 16, 17, 18, 19, 20, 21, 22, 23, 24, 25] rfl rfl (by decide) (by decide) (by decide) (fun _ => rfl) (by decide) 0 10 rfl rfl rfl hl.1 rfl (Nat.le_of_ble_eq_true rfl) dX10_judge_44 ⟨Nat.le_of_ble_eq_true rfl, Nat.le_of_ble_eq_true rfl⟩ (fun u6 H locs h5 hP hD hS => ?_)
          obtain ⟨mahd_c7, emahd_c7⟩ : ∃ f : Nat → Int32, f = (u6.1 0) := ⟨_, rfl⟩
          obtain ⟨mahf_c8, emahf_c8⟩ : ∃ f : Nat → Int32, f = (u6.1 1) := ⟨_, rfl⟩
          have hP : va_P (dC, dI) vwCl (wMod cI cZ cQ b mday mdoo mdA mdB mfar mmar mtel mgai mfal mtop mstr mgho mfai mpto mwal mahd_c7 mahf_c8 mcho mbes mbyt mtxt mpos mtka mtok mdig mnum mfau mrdm mrea mlin mlne mthg mord mbor mbsm mans mand manr mali) H := by rw [emahd_c7, emahf_c8]; exact hP
          have hD : va_D A (wMod cI cZ cQ b mday mdoo mdA mdB mfar mmar mtel mgai mfal mtop mstr mgho mfai mpto mwal mahd_c7 mahf_c8 mcho mbes mbyt mtxt mpos mtka mtok mdig mnum mfau mrdm mrea mlin mlne mthg mord mbor mbsm mans mand manr mali) := by rw [emahd_c7, emahf_c8]; exact hD
          have h5 : (laI mtop mstr mgho mfai 48 mahd_c7 mahf_c8) ∧ (rg 240 (0) (100) mahd_c7) ∧ (rg 240 (0) (100) mahf_c8) := by (try rw [emahd_c7]); (try rw [emahf_c8]); exact h5
          obtain ⟨h5_0, h5_1, h5_2⟩ := h5
          refine lv_iconst (v := 0) hx hb dX10_judge_47 (by decide) ?_
          refine lv_istore (lv' := [(4, .int 0), (0, .ref (b 39)), (1, .int row), (2, .int n), (3, .int mi)]) hx hb dX10_judge_48 hl (by decide) rfl (fun ls hl => ?_)
          have L50 : ∀ (nn : Nat) (y50_4 : Int32) (mahd_50 : Nat → Int32) (mahf_50 : Nat → Int32) (mfar_50 : Nat → Int32) (H : Heap) (locs : List Loc) (ls : Array Slot), (rg 240 (0) (100) mahd_50) → (rg 240 (0) (100) mahf_50) → (0 ≤ (y50_4.toInt)) → ((y50_4.toInt) ≤ 4) → (lyI mfal mmar mtop mstr mtel mgai.toInt row (y50_4.toInt) mahd_50) → (wmA mdA mdB mtop mdoo.toInt row mi (y50_4.toInt)) → ((y50_4.toInt) ≤ n.toInt) → (4 - (y50_4.toInt)).toNat < nn → va_P (dC, dI) vwCl (wMod cI cZ cQ b mday mdoo mdA mdB mfar_50 mmar mtel mgai mfal mtop mstr mgho mfai mpto mwal mahd_50 mahf_50 mcho mbes mbyt mtxt mpos mtka mtok mdig mnum mfau mrdm mrea mlin mlne mthg mord mbor mbsm mans mand manr mali) H → va_D A (wMod cI cZ cQ b mday mdoo mdA mdB mfar_50 mmar mtel mgai mfal mtop mstr mgho mfai mpto mwal mahd_50 mahf_50 mcho mbes mbyt mtxt mpos mtka mtok mdig mnum mfau mrdm mrea mlin mlne mthg mord mbor mbsm mans mand manr mali) → va_S A s.heap H locs → lv_has ls 5 [(0, .ref (b 39)), (1, .int row), (2, .int n), (3, .int mi), (4, .int y50_4)] → W p l e (headSpec wsX10_judge { frames := 4, cells := 0, slots := 0, locals := 97 }).room s m ([.ref (b 39), .int row, .int n, .int mi] : List Value).toArray below meth c H locs 0 0 (MQ below (va_Qi (fun (r : Int32) (u : US) => (spJdgM mdA mdB mmar mfal mtop mstr mdoo mtel mgai.toInt row n mi r) ∧ (rg 240 (0) (100) (u.1 0)) ∧ (rg 240 (0) (100) (u.1 1))) (Bw (dC, dI) A (fun u : US => (wMod cI cZ cQ b mday mdoo mdA mdB (u.1 2) mmar mtel mgai mfal mtop mstr mgho mfai mpto mwal (u.1 0) (u.1 1) mcho mbes mbyt mtxt mpos mtka mtok mdig mnum mfau mrdm mrea mlin mlne mthg mord mbor mbsm mans mand manr mali))) A) ([.ref (b 39), .int row, .int n, .int mi] : List Value).toArray s 0 0 A) (F0 m 50 ls []) := by
            intro nn
            induction nn with
            | zero =>
              intro y50_4 mahd_50 mahf_50 mfar_50 H locs ls r_mahd_50 r_mahf_50 i50_0 i50_1 i50_2 i50_3 i50_4 hm50
              exact absurd hm50 (Nat.not_lt_zero _)
            | succ nn ih50 =>
              intro y50_4 mahd_50 mahf_50 mfar_50 H locs ls r_mahd_50 r_mahf_50 i50_0 i50_1 i50_2 i50_3 i50_4 hm50 hP hD hS hl
              refine lv_iload hx hb dX10_judge_50 (lv_at hl 4 rfl) ?_
              refine lv_iload_n hx hb dX10_judge_52 rfl (lv_at hl 2 rfl) ?_
              refine lv_icmp_ge (tgt := 83) hx hb dX10_judge_53 (by decide) (fun c9 => ?_) (fun c9 => ?_)
              · have dc9 : n.toInt ≤ y50_4.toInt := leC rfl rfl c9
                refine lv_aload_n hx hb dX10_judge_83 rfl (lv_at hl 0 rfl) ?_
                refine lv_bipush (v := 48) hx hb dX10_judge_84 (by decide) ?_
                refine lv_iload_n hx hb dX10_judge_86 rfl (lv_at hl 2 rfl) ?_
                refine lv_imul hx hb dX10_judge_87 ?_
                have f10 : (48 * n).toInt = (48) * (n.toInt) := mulC (show (48 : Int32).toInt = 48 from rfl) rfl (by omega) (by omega)
                refine rdV (As := [.int (48 * n)]) (rest := []) ⟨hx, hb, hml, hown, hts⟩ (k_X10_allAt2 l dC dI cI cZ cQ b mday mdoo mdA mdB mfar_50 mmar mtel mgai mfal mtop mstr mgho mfai mpto mwal mahd_50 mahf_50 mcho mbes mbyt mtxt mpos mtka mtok mdig mnum mfau mrdm mrea mlin mlne mthg mord mbor mbsm mans mand manr mali (48 * n) r_mday r_mdoo r_mdA r_mdB r_mmar r_mgai r_mfal r_mtop r_mstr r_mgho r_mfai r_mahd_50 r_mahf_50 r_mcho r_mbyt r_mpos r_mrdm r_mlin r_mthg r_mord r_mans (by omega) (by omega)) (cwV 1 hts gX10_judge_X10_allAt rfl rfl rfl (by decide +kernel) ⟨Nat.le_of_ble_eq_true rfl, Nat.le_of_ble_eq_true rfl⟩) hP hK hN [0, 1, 2, 3, 4, 5, 6, 7, 8, 9, 10, 11, 12, 13, 14, 15, 16, 17, 18, 19, 20, 21, 22, 23, 24, 25] rfl 0 10 rfl rfl rfl hl.1 rfl (Nat.le_of_ble_eq_true rfl) dX10_judge_88 ⟨Nat.le_of_ble_eq_true rfl, Nat.le_of_ble_eq_true rfl⟩ (fun r11 h12 => ?_)
                have h12 : (r11.toInt = srF mtop (fun c => (mahd_50 ((48 * n).toInt.toNat + c)).toInt) 0 48) ∧ (0 ≤ r11.toInt) := h12
                obtain ⟨h12_0, h12_1⟩ := h12
                exact W.iret (v := r11) hx hb hr (fun tq ht hW => ⟨⟨r11, (uS [mahd_50, mahf_50, mfar_50] 0 (fun _ => 0)), rfl, ⟨(show spJdgM mdA mdB mmar mfal mtop mstr mdoo mtel mgai.toInt row n mi r11 from by (first | exact Or.inl ⟨(by first | exact jb_m (by assumption)), rfl⟩ | exact Or.inl ⟨Or.inr (Or.inr (Or.inl (tk_no (rm_at (y := y14_4) (by rfl) (by omega)) (by omega) (by omega)))), rfl⟩ | exact Or.inr ⟨jo_m (by omega) (rl_c i14_2 (by omega)) (by assumption), jm_n (by assumption) (rm_at (y := y50_4) (by rfl) (by omega)) (by omega) (by omega)⟩ | exact Or.inr ⟨jo_m (by omega) (rl_c i14_2 (by omega)) (by assumption), jm_y i50_3 i50_2 (by assumption) (by omega) (by omega) (by omega)⟩)), r_mahd_50, r_mahf_50⟩, by rw [ht]; exact hP, hD⟩, hS.F ht⟩) hS.2.2 dX10_judge_91
              · have dc9 : y50_4.toInt < n.toInt := nleC rfl rfl c9
                have kk := i14_2 y50_4.toInt.toNat (by omega)
                have kq := rm_at (row := row) (y := y50_4) rfl (by omega)
                rw [← kq] at kk
                refine lv_aload_n hx hb dX10_judge_56 rfl (lv_at hl 0 rfl) ?_
                refine lv_iload hx hb dX10_judge_57 (lv_at hl 4 rfl) ?_
                refine lv_iload_n hx hb dX10_judge_59 rfl (lv_at hl 1 rfl) ?_
                refine lv_iconst (v := 4) hx hb dX10_judge_60 (by decide) ?_
                refine lv_iload hx hb dX10_judge_61 (lv_at hl 4 rfl) ?_
                refine lv_imul hx hb dX10_judge_63 ?_
                have f13 : (4 * y50_4).toInt = (4) * (y50_4.toInt) := mulC (show (4 : Int32).toInt = 4 from rfl) rfl (by omega) (by omega)
                refine lv_ishr hx hb dX10_judge_64 ?_
                refine lv_bipush (v := 15) hx hb dX10_judge_65 (by decide) ?_
                refine lv_iand hx hb dX10_judge_67 ?_
                have f14 := andR (a := (row >>> ((4 * y50_4) &&& 31))) (m := 15) (M := 15) rfl (by decide)
                refine lv_iload_n hx hb dX10_judge_68 rfl (lv_at hl 3 rfl) ?_
                refine wrV (As := [.int y50_4, .int ((row >>> ((4 * y50_4) &&& 31)) &&& 15), .int mi]) (rest := []) (wr := []) (w2 := (fun u : US => (wMod cI cZ cQ b mday mdoo mdA mdB (u.1 2) mmar mtel mgai mfal mtop mstr mgho mfai mpto mwal (u.1 0) (u.1 1) mcho mbes mbyt mtxt mpos mtka mtok mdig mnum mfau mrdm mrea mlin mlne mthg mord mbor mbsm mans mand manr mali))) ⟨hx, hb, hml, hown, hts⟩ (k_X10_isGone2 l dC dI cI cZ cQ b mday mdoo mdA mdB mfar_50 mmar mtel mgai mfal mtop mstr mgho mfai mpto mwal mahd_50 mahf_50 mcho mbes mbyt mtxt mpos mtka mtok mdig mnum mfau mrdm mrea mlin mlne mthg mord mbor mbsm mans mand manr mali _ y50_4 ((row >>> ((4 * y50_4) &&& 31)) &&& 15) mi r_mday r_mdoo r_mdA r_mdB r_mmar r_mgai r_mfal r_mtop r_mstr r_mgho r_mfai r_mahd_50 r_mahf_50 r_mcho r_mbyt r_mpos r_mrdm r_mlin r_mthg r_mord r_mans (by omega) (by omega) (by omega) (by omega)) (cwV 3 hts gX10_judge_X10_isGone rfl rfl rfl (by decide +kernel) ⟨Nat.le_of_ble_eq_true rfl, Nat.le_of_ble_eq_true rfl⟩) hP hD hS hA hK hN [0, 1, 2, 3, 4, 5, 6, 7, 8, 9, 10, 11, 12, 13, 14, 15, 16, 17, 18, 19, 20, 21, 22, 23, 24, 25] [] [0, 1, 2, 3, 4, 5, 6, 7, 8, 9, 10, 11, 12, 13, 14, 15, 16, 17, 18, 19, 20, 21, 22, 23, 24, 25] rfl rfl (by decide) (by decide) (by decide) (fun _ => rfl) (by decide) 0 10 rfl rfl rfl hl.1 rfl (Nat.le_of_ble_eq_true rfl) dX10_judge_69 ⟨Nat.le_of_ble_eq_true rfl, Nat.le_of_ble_eq_true rfl⟩ (fun r15 u17 H locs h16 hP hD hS => ?_)
                obtain ⟨mahd_c18, emahd_c18⟩ : ∃ f : Nat → Int32, f = (u17.1 0) := ⟨_, rfl⟩
                obtain ⟨mahf_c19, emahf_c19⟩ : ∃ f : Nat → Int32, f = (u17.1 1) := ⟨_, rfl⟩
                obtain ⟨mfar_c20, emfar_c20⟩ : ∃ f : Nat → Int32, f = (u17.1 2) := ⟨_, rfl⟩
                have hP : va_P (dC, dI) vwCl (wMod cI cZ cQ b mday mdoo mdA mdB mfar_c20 mmar mtel mgai mfal mtop mstr mgho mfai mpto mwal mahd_c18 mahf_c19 mcho mbes mbyt mtxt mpos mtka mtok mdig mnum mfau mrdm mrea mlin mlne mthg mord mbor mbsm mans mand manr mali) H := by rw [emahd_c18, emahf_c19, emfar_c20]; exact hP
                have hD : va_D A (wMod cI cZ cQ b mday mdoo mdA mdB mfar_c20 mmar mtel mgai mfal mtop mstr mgho mfai mpto mwal mahd_c18 mahf_c19 mcho mbes mbyt mtxt mpos mtka mtok mdig mnum mfau mrdm mrea mlin mlne mthg mord mbor mbsm mans mand manr mali) := by rw [emahd_c18, emahf_c19, emfar_c20]; exact hD
                have h16 : ((((r15 = 1) ∧ (igT mdA mdB mtop mfal mmar mdoo.toInt mtel mgai.toInt y50_4 ((row >>> ((4 * y50_4) &&& 31)) &&& 15) mi mahd_50 mahd_c18)) ∨ ((r15 = 0) ∧ (igN mdA mdB mtop mdoo.toInt y50_4 ((row >>> ((4 * y50_4) &&& 31)) &&& 15) mi) ∧ (∀ j : Nat, (j : Int) < 48 * y50_4.toInt + 48 → mahd_c18 j = mahd_50 j)))) ∧ (rg 240 (0) (100) mahd_c18) ∧ (rg 240 (0) (100) mahf_c19) := by (try rw [emahd_c18]); (try rw [emahf_c19]); (try rw [emfar_c20]); exact h16
                rcases h16 with ⟨(⟨rfl, h16_a0⟩ | ⟨rfl, h16_a0, h16_a1⟩), h16_0, h16_1⟩
                · refine lv_if_ne (tgt := 77) hx hb dX10_judge_72 (by decide) (fun _ => ?_) (fun c9 => absurd c9 (by decide))
                  obtain ⟨z21, ez21⟩ : ∃ y : Int32, y = y50_4 + 1 := ⟨_, rfl⟩
                  have iz21 : z21.toInt = y50_4.toInt + 1 := by rw [ez21]; exact addC rfl rfl (by omega) (by omega)
                  refine lv_iinc (v := z21) (lv' := [(4, .int z21), (0, .ref (b 39)), (1, .int row), (2, .int n), (3, .int mi)]) hx hb dX10_judge_77 hl (k := 4) rfl (by rw [ez21]; rfl) (by decide) rfl (fun ls hl => ?_)
                  refine lv_goto (tgt := 50) hx hb dX10_judge_80 (by decide) ?_
                  exact ih50 z21 mahd_c18 mahf_c19 mfar_c20 _ _ _ h16_0 h16_1 (by omega) (by omega) (by (first | exact li_S i50_2 (And.right (by assumption)) rfl (rm_at (y := y50_4) (by rfl) (by omega)) (by omega) (by omega) (by omega) | exact li_A (by assumption) (by omega) (by first | rfl | omega))) (by (first | exact wm_s i50_3 (And.left (by assumption)) (rm_at (y := y50_4) (by rfl) (by omega)) (by omega) (by omega) | exact wm_0 (by first | rfl | omega))) (by omega) (by omega) hP hD hS (lv_sub hl [1, 2, 3, 4, 0] rfl)
                · refine lv_if_ne (tgt := 77) hx hb dX10_judge_72 (by decide) (fun c9 => absurd (by decide) c9) (fun _ => ?_)
                  refine lv_iconst (v := (-1)) hx hb dX10_judge_75 (by decide) ?_
                  exact W.iret (v := (-1)) hx hb hr (fun tq ht hW => ⟨⟨(-1), (uS [mahd_c18, mahf_c19, mfar_c20] 0 (fun _ => 0)), rfl, ⟨(show spJdgM mdA mdB mmar mfal mtop mstr mdoo mtel mgai.toInt row n mi ((-1) : Int32) from by (try rw [show ((-1) : Int32).toInt = (-1) from (show ((-1) : Int32).toInt = (-1) from rfl)]); (first | exact Or.inl ⟨(by first | exact jb_m (by assumption)), rfl⟩ | exact Or.inl ⟨Or.inr (Or.inr (Or.inl (tk_no (rm_at (y := y14_4) (by rfl) (by omega)) (by omega) (by omega)))), rfl⟩ | exact Or.inr ⟨jo_m (by omega) (rl_c i14_2 (by omega)) (by assumption), jm_n (by assumption) (rm_at (y := y50_4) (by rfl) (by omega)) (by omega) (by omega)⟩ | exact Or.inr ⟨jo_m (by omega) (rl_c i14_2 (by omega)) (by assumption), jm_y i50_3 i50_2 (by assumption) (by omega) (by omega) (by omega)⟩)), h16_0, h16_1⟩, by rw [ht]; exact hP, hD⟩, hS.F ht⟩) hS.2.2 dX10_judge_76
          have kc22 : (0 : Int32).toInt = 0 := rfl
          exact L50 _ 0 mahd_c7 mahf_c8 mfar _ _ _ h5_1 h5_2 (by omega) (by omega) (by (first | exact li_S i50_2 (And.right (by assumption)) rfl (rm_at (y := y50_4) (by rfl) (by omega)) (by omega) (by omega) (by omega) | exact li_A (by assumption) (by omega) (by first | rfl | omega))) (by (first | exact wm_s i50_3 (And.left (by assumption)) (rm_at (y := y50_4) (by rfl) (by omega)) (by omega) (by omega) | exact wm_0 (by first | rfl | omega))) (by omega) (Nat.lt_succ_self _) hP hD hS (lv_sub hl [1, 2, 3, 4, 0] rfl)
        · have dc3 : y14_4.toInt < n.toInt := nleC rfl rfl c3
          refine lv_iload_n hx hb dX10_judge_20 rfl (lv_at hl 1 rfl) ?_
          refine lv_iconst (v := 4) hx hb dX10_judge_21 (by decide) ?_
          refine lv_iload hx hb dX10_judge_22 (lv_at hl 4 rfl) ?_
          refine lv_imul hx hb dX10_judge_24 ?_
          have f23 : (4 * y14_4).toInt = (4) * (y14_4.toInt) := mulC (show (4 : Int32).toInt = 4 from rfl) rfl (by omega) (by omega)
          refine lv_ishr hx hb dX10_judge_25 ?_
          refine lv_bipush (v := 15) hx hb dX10_judge_26 (by decide) ?_
          refine lv_iand hx hb dX10_judge_28 ?_
          have f24 := andR (a := (row >>> ((4 * y14_4) &&& 31))) (m := 15) (M := 15) rfl (by decide)
          refine lv_bipush (v := 8) hx hb dX10_judge_29 (by decide) ?_
          refine lv_icmp_le (tgt := 37) hx hb dX10_judge_31 (by decide) (fun c25 => ?_) (fun c25 => ?_)
          · have dc25 : ((row >>> ((4 * y14_4) &&& 31)) &&& 15).toInt ≤ 8 := leC rfl (show (8 : Int32).toInt = 8 from rfl) c25
            obtain ⟨z26, ez26⟩ : ∃ y : Int32, y = y14_4 + 1 := ⟨_, rfl⟩
            have iz26 : z26.toInt = y14_4.toInt + 1 := by rw [ez26]; exact addC rfl rfl (by omega) (by omega)
            refine lv_iinc (v := z26) (lv' := [(4, .int z26), (0, .ref (b 39)), (1, .int row), (2, .int n), (3, .int mi)]) hx hb dX10_judge_37 hl (k := 4) rfl (by rw [ez26]; rfl) (by decide) rfl (fun ls hl => ?_)
            refine lv_goto (tgt := 14) hx hb dX10_judge_40 (by decide) ?_
            exact ih14 z26 _ _ _ (by omega) (by omega) (by (first | exact rl_s i14_2 (rm_at (y := y14_4) (by rfl) (by omega)) (by omega) (by omega) (by omega) | exact rl_0 (by first | rfl | omega))) (by omega) (by omega) hP hD hS (lv_sub hl [1, 2, 3, 4, 0] rfl)
          · have dc25 : 8 < ((row >>> ((4 * y14_4) &&& 31)) &&& 15).toInt := nleC rfl (show (8 : Int32).toInt = 8 from rfl) c25
            refine lv_bipush (v := (-3)) hx hb dX10_judge_34 (by decide) ?_
            exact W.iret (v := (-3)) hx hb hr (fun tq ht hW => ⟨⟨(-3), (uS [mahd, mahf, mfar] 0 (fun _ => 0)), rfl, ⟨(show spJdgM mdA mdB mmar mfal mtop mstr mdoo mtel mgai.toInt row n mi ((-3) : Int32) from by (try rw [show ((-3) : Int32).toInt = (-3) from (show ((-3) : Int32).toInt = (-3) from rfl)]); (first | exact Or.inl ⟨(by first | exact jb_m (by assumption)), rfl⟩ | exact Or.inl ⟨Or.inr (Or.inr (Or.inl (tk_no (rm_at (y := y14_4) (by rfl) (by omega)) (by omega) (by omega)))), rfl⟩ | exact Or.inr ⟨jo_m (by omega) (rl_c i14_2 (by omega)) (by assumption), jm_n (by assumption) (rm_at (y := y50_4) (by rfl) (by omega)) (by omega) (by omega)⟩ | exact Or.inr ⟨jo_m (by omega) (rl_c i14_2 (by omega)) (by assumption), jm_y i50_3 i50_2 (by assumption) (by omega) (by omega) (by omega)⟩)), r_mahd, r_mahf⟩, by rw [ht]; exact hP, hD⟩, hS.F ht⟩) hS.2.2 dX10_judge_36
    have kc27 : (0 : Int32).toInt = 0 := rfl
    exact L14 _ 0 _ _ _ (by omega) (by omega) (by (first | exact rl_s i14_2 (rm_at (y := y14_4) (by rfl) (by omega)) (by omega) (by omega) (by omega) | exact rl_0 (by first | rfl | omega))) (by omega) (Nat.lt_succ_self _) hP hD hS (lv_sub hl [1, 2, 3, 4, 0] rfl)
  · refine lv_if_ne (tgt := 11) hx hb dX10_judge_5 (by decide) (fun c9 => absurd (by decide) c9) (fun _ => ?_)
    refine lv_bipush (v := (-3)) hx hb dX10_judge_8 (by decide) ?_
    exact W.iret (v := (-3)) hx hb hr (fun tq ht hW => ⟨⟨(-3), (uS [mahd, mahf, mfar] 0 (fun _ => 0)), rfl, ⟨(show spJdgM mdA mdB mmar mfal mtop mstr mdoo mtel mgai.toInt row n mi ((-3) : Int32) from by (try rw [show ((-3) : Int32).toInt = (-3) from (show ((-3) : Int32).toInt = (-3) from rfl)]); (first | exact Or.inl ⟨(by first | exact jb_m (by assumption)), rfl⟩ | exact Or.inl ⟨Or.inr (Or.inr (Or.inl (tk_no (rm_at (y := y14_4) (by rfl) (by omega)) (by omega) (by omega)))), rfl⟩ | exact Or.inr ⟨jo_m (by omega) (rl_c i14_2 (by omega)) (by assumption), jm_n (by assumption) (rm_at (y := y50_4) (by rfl) (by omega)) (by omega) (by omega)⟩ | exact Or.inr ⟨jo_m (by omega) (rl_c i14_2 (by omega)) (by assumption), jm_y i50_3 i50_2 (by assumption) (by omega) (by omega) (by omega)⟩)), r_mahd, r_mahf⟩, by rw [ht]; exact hP, hD⟩, hS.F ht⟩) hS.2.2 dX10_judge_10
end
