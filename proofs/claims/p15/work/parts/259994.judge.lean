-- ===== PLANS: what is left behind n DAYS =====
def bitW (w : Int32) (i : Nat) : Bool := decide (((w >>> (nI i &&& 31)) &&& 1) = 1)
def svF (f : Nat → Int32) (m g : Int) (w : Nat → Bool) (v : Int) : Nat → Int
  | 0 => v
  | k + 1 => fl f (if w k then svF f m g w v k + gn g (svF f m g w v k) else svF f m g w v k) m
theorem bw_y {w y : Int32} {k : Nat} (c : (w >>> (y &&& 31)) &&& 1 = 1) (hy : y.toInt = k) : bitW w k = true := by
  have ey : nI k = y := by
    have := nI_toNat (y := y) (by omega)
    rw [← this]; congr 1; omega
  unfold bitW; rw [ey]; exact decide_eq_true c
theorem bw_n {w y : Int32} {k : Nat} (c : ¬ (w >>> (y &&& 31)) &&& 1 = 1) (hy : y.toInt = k) : bitW w k = false := by
  have ey : nI k = y := by
    have := nI_toNat (y := y) (by omega)
    rw [← this]; congr 1; omega
  unfold bitW; rw [ey]; exact decide_eq_false c
theorem sv_0 {f : Nat → Int32} {m g v L : Int} {w : Nat → Bool} {k : Nat} (hL : L = v) (hk : k = 0) : L = svF f m g w v k := by subst hk; exact hL
theorem sv_y {f : Nat → Int32} {m g v L S r R : Int} {w : Nat → Bool} {k k' : Nat} (h : L = svF f m g w v k) (hb : w k = true) (hg : r = gn g L) (hf : R = fl f S m) (hs : S = L + r) (hk : k' = k + 1) : R = svF f m g w v k' := by
  subst hk
  show R = fl f (if w k then svF f m g w v k + gn g (svF f m g w v k) else svF f m g w v k) m
  rw [hb, if_pos rfl, ← h, ← hg, ← hs]; exact hf
theorem sv_n {f : Nat → Int32} {m g v L R : Int} {w : Nat → Bool} {k k' : Nat} (h : L = svF f m g w v k) (hb : w k = false) (hf : R = fl f L m) (hk : k' = k + 1) : R = svF f m g w v k' := by
  subst hk
  show R = fl f (if w k then svF f m g w v k + gn g (svF f m g w v k) else svF f m g w v k) m
  rw [hb, if_neg (by decide), ← h]; exact hf
theorem sv_e {f : Nat → Int32} {m g v L : Int} {w : Nat → Bool} {k k' : Nat} (h : L = svF f m g w v k) (e : k' = k) : L = svF f m g w v k' := by subst e; exact h
theorem sv_w {f : Nat → Int32} {m g v : Int} {w w2 : Nat → Bool} {N : Nat} (h : ∀ i, i < N → w i = w2 i) : ∀ k, k ≤ N → svF f m g w v k = svF f m g w2 v k
  | 0, _ => rfl
  | k + 1, hk => by
    show fl f (if w k then svF f m g w v k + gn g (svF f m g w v k) else svF f m g w v k) m = fl f (if w2 k then svF f m g w2 v k + gn g (svF f m g w2 v k) else svF f m g w2 v k) m
    rw [sv_w h k (by omega), h k (by omega)]
def srF (top : Nat → Int32) (V : Nat → Int) (lo : Nat) : Nat → Int
  | 0 => 0
  | k + 1 => srF top V lo k + (if top (lo + k) = -1 then 0 else V (lo + k))
theorem sr_0 {top : Nat → Int32} {V : Nat → Int} {lo N : Nat} {L : Int} (hL : L = 0) (hN : N = 0) : L = srF top V lo N := by subst hN; exact hL
theorem sr_s {top : Nat → Int32} {V : Nat → Int} {lo N N' : Nat} {o : Int32} {L R : Int} (h : L = srF top V lo N) (ho : o.toNatClampNeg = lo + N) (hR : (top o.toNatClampNeg = -1 ∧ R = L) ∨ (¬ top o.toNatClampNeg = -1 ∧ R = L + V o.toNatClampNeg)) (hN : N' = N + 1) : R = srF top V lo N' := by
  subst hN; rw [ho] at hR
  show R = srF top V lo N + (if top (lo + N) = -1 then 0 else V (lo + N))
  rcases hR with ⟨a, b⟩ | ⟨a, b⟩
  · rw [if_pos a, ← h]; omega
  · rw [if_neg a, ← h]; exact b
theorem sr_e {top : Nat → Int32} {V : Nat → Int} {lo lo' N N' : Nat} {L : Int} (h : L = srF top V lo N) (e1 : lo' = lo) (e : N' = N) : L = srF top V lo' N' := by subst e1; subst e; exact h
theorem sr_add {t : Nat → Int32} {V : Nat → Int} {a : Nat} : ∀ k : Nat, srF t V 0 (a + k) = srF t V 0 a + srF t V a k
  | 0 => by show srF t V 0 a = srF t V 0 a + 0; omega
  | k + 1 => by
    show srF t V 0 (a + k) + (if t (0 + (a + k)) = -1 then 0 else V (0 + (a + k))) = srF t V 0 a + (srF t V a k + (if t (a + k) = -1 then 0 else V (a + k)))
    rw [sr_add k, Nat.zero_add]; omega
theorem sr_eq {t t2 : Nat → Int32} {V V2 : Nat → Int} {lo : Nat} (h : ∀ j, j < 48 → t j = t2 j) (hv : ∀ j, j < 48 → t j ≠ -1 → V j = V2 j) : ∀ k, lo + k ≤ 48 → srF t V lo k = srF t2 V2 lo k
  | 0, _ => rfl
  | k + 1, hk => by
    show srF t V lo k + (if t (lo + k) = -1 then 0 else V (lo + k)) = srF t2 V2 lo k + (if t2 (lo + k) = -1 then 0 else V2 (lo + k))
    rw [sr_eq h hv k (by omega), ← h (lo + k) (by omega)]
    by_cases z : t (lo + k) = -1
    · rw [if_pos z, if_pos z]
    · rw [if_neg z, if_neg z, hv (lo + k) (by omega) z]
-- rows of rooms, of minutes
def rmW (row : Int32) (i : Nat) : Int32 := (row >>> ((4 * nI i) &&& 31)) &&& 15
def mnW (mi : Int32) (i : Nat) : Int32 := (mi >>> ((7 * nI i) &&& 31)) &&& 127
def twI (W : Nat → Int32) (hi i : Int) (T : Nat → Int32) : Prop := ∀ j : Nat, (j : Int) < i → T j = W j ∧ (T j).toInt ≤ hi
theorem ti_0 {W T : Nat → Int32} {hi i : Int} (h : i = 0) : twI W hi i T := fun j hj => by omega
theorem ti_s {W T T2 : Nat → Int32} {hi i : Int} {y v : Int32} (q : twI W hi y.toInt T) (e : T2 = upd T y.toNatClampNeg v) (hv : v = W y.toInt.toNat) (l : (T2 y.toNatClampNeg).toInt ≤ hi) (h0 : 0 ≤ y.toInt) (hz : i = y.toInt + 1) : twI W hi i T2 := by
  subst hz
  have ey := clC (x := y) rfl
  intro j hj
  by_cases c : j = y.toNatClampNeg
  · subst c; refine ⟨?_, l⟩; rw [e, pk_us, hv, ey]
  · rw [e, pk_un c]; exact q j (by omega)
theorem rm_at {row y x : Int32} (h : x = (row >>> ((4 * y) &&& 31)) &&& 15) (h0 : 0 ≤ y.toInt) : x = rmW row y.toInt.toNat := by unfold rmW; rw [nI_toNat h0]; exact h
theorem mn_at {mi y x : Int32} (h : x = (mi >>> ((7 * y) &&& 31)) &&& 127) (h0 : 0 ≤ y.toInt) : x = mnW mi y.toInt.toNat := by unfold mnW; rw [nI_toNat h0]; exact h
def wkb (c m : Int32) : Prop := ¬ c = -1 ∧ c.toInt ≤ m.toInt
-- bits of walked days
theorem bit_or : ∀ x, x < 16 → ∀ i, i < 4 → ∀ j, j < 4 → bitW (nI x ||| ((1 : Int32) <<< (nI i &&& 31))) j = (bitW (nI x) j || decide (i = j)) := by decide +kernel
theorem bit_0 : ∀ j, j < 4 → bitW 0 j = false := by decide +kernel
def wdI (tri wk : Nat → Int32) (k : Int) : Prop := ∀ q : Nat, q < 8 → ∀ i : Nat, i < 4 → bitW (wk q) i = (decide ((i : Int) < k) && decide (tri i = nI q))
theorem wd_0 {tri wk : Nat → Int32} {k : Int} (h : ∀ j, j < 8 → wk j = 0) (hk : k = 0) : wdI tri wk k := by
  intro q hq i hi
  rw [h q hq, bit_0 i hi, decide_eq_false (by omega)]; rfl
theorem wd_y {tri wk wk2 : Nat → Int32} {k : Int} {y x v : Int32} (q : wdI tri wk y.toInt) (r : rg 8 0 15 wk) (e : wk2 = upd wk x.toNatClampNeg v) (ex : x = tri y.toNatClampNeg) (hx : 0 ≤ x.toInt ∧ x.toInt ≤ 7) (hv : v = wk x.toNatClampNeg ||| ((1 : Int32) <<< (y &&& 31))) (hy : 0 ≤ y.toInt) (hy3 : y.toInt ≤ 3) (hk : k = y.toInt + 1) : wdI tri wk2 k := by
  subst hk
  have cx := clC (x := x) rfl
  have cy := clC (x := y) rfl
  intro a ha i hi
  have w := q a ha i hi
  by_cases c : a = x.toNatClampNeg
  · subst c
    have rx := r x.toNatClampNeg (by omega)
    rw [e, pk_us, hv]
    have b := bit_or (wk x.toNatClampNeg).toInt.toNat (by omega) y.toInt.toNat (by omega) i hi
    rw [nI_toNat rx.1, nI_toNat hy] at b
    rw [b, w]
    by_cases d : i = y.toInt.toNat
    · have ti : tri i = nI x.toNatClampNeg := by rw [d, ← cy, ← ex, cx, nI_toNat hx.1]
      rw [ti, decide_eq_true (p := y.toInt.toNat = i) d.symm, Bool.or_true, decide_eq_true (p := (i : Int) < y.toInt + 1) (by omega), decide_eq_true rfl]; rfl
    · rw [decide_eq_false (p := y.toInt.toNat = i) (fun z => d z.symm), Bool.or_false]
      by_cases g : (i : Int) < y.toInt
      · rw [decide_eq_true g, decide_eq_true (p := (i : Int) < y.toInt + 1) (by omega)]
      · rw [decide_eq_false g, decide_eq_false (p := (i : Int) < y.toInt + 1) (by omega)]
  · rw [e, pk_un c, w]
    by_cases d : i = y.toInt.toNat
    · have ti : tri i ≠ nI a := by
        rw [d, ← cy, ← ex]
        intro z
        have := congrArg Int32.toInt z
        rw [nI_toInt (by omega)] at this; omega
      rw [decide_eq_false ti, Bool.and_false, Bool.and_false]
    · by_cases g : (i : Int) < y.toInt
      · rw [decide_eq_true g, decide_eq_true (p := (i : Int) < y.toInt + 1) (by omega)]
      · rw [decide_eq_false g, decide_eq_false (p := (i : Int) < y.toInt + 1) (by omega)]
theorem wd_n {tri wk : Nat → Int32} {k : Int} {y x : Int32} (q : wdI tri wk y.toInt) (ex : x = tri y.toNatClampNeg) (hx : x.toInt < 0 ∨ 7 < x.toInt) (hy : 0 ≤ y.toInt) (hk : k = y.toInt + 1) : wdI tri wk k := by
  subst hk
  have cy := clC (x := y) rfl
  intro a ha i hi
  rw [q a ha i hi]
  by_cases d : i = y.toInt.toNat
  · have ti : tri i ≠ nI a := by
      rw [d, ← cy, ← ex]
      intro z
      have := congrArg Int32.toInt z
      rw [nI_toInt (by omega)] at this; omega
    rw [decide_eq_false ti, Bool.and_false, Bool.and_false]
  · by_cases g : (i : Int) < y.toInt
    · rw [decide_eq_true g, decide_eq_true (p := (i : Int) < y.toInt + 1) (by omega)]
    · rw [decide_eq_false g, decide_eq_false (p := (i : Int) < y.toInt + 1) (by omega)]
theorem ti_c {W T : Nat → Int32} {hi i i' : Int} (q : twI W hi i T) (e : i' = i) : twI W hi i' T := by subst e; exact q
theorem tk_no {W : Nat → Int32} {x : Int32} {j : Nat} {n hi : Int} (hx : x = W j) (hj : (j : Int) < n) (l : hi < x.toInt) : ∃ j : Nat, (j : Int) < n ∧ hi < (W j).toInt := ⟨j, hj, by rw [← hx]; exact l⟩
def prI (few top : Nat → Int32) (i : Int) (cos wk : Nat → Int32) : Prop := ∀ j : Nat, (j : Int) < i → coC few top (nI j) (cos j) ∧ wk j = 0
theorem pr_0 {few top cos wk : Nat → Int32} {i : Int} (h : i = 0) : prI few top i cos wk := fun j hj => by omega
theorem pr_s {few top cos wk cos2 wk2 : Nat → Int32} {i : Int} {y v : Int32} (q : prI few top y.toInt cos wk) (e1 : cos2 = upd cos y.toNatClampNeg v) (e2 : wk2 = upd wk y.toNatClampNeg 0) (hv : coC few top y v) (h0 : 0 ≤ y.toInt) (hz : i = y.toInt + 1) : prI few top i cos2 wk2 := by
  subst hz; subst e1; subst e2
  have ey := clC (x := y) rfl
  intro j hj
  by_cases c : j = y.toNatClampNeg
  · subst c; rw [pk_us, pk_us, ey, nI_toNat h0]; exact ⟨hv, rfl⟩
  · rw [pk_un c, pk_un c]; exact q j (by omega)
def wkA (tri mi cos : Nat → Int32) (k : Int) : Prop := ∀ i : Nat, (i : Int) < k → (tri i).toInt ≤ 7 → wkb (cos (tri i).toNatClampNeg) (mi i)
theorem wa_0 {tri mi cos : Nat → Int32} {k : Int} (h : k = 0) : wkA tri mi cos k := fun j hj => by omega
theorem wa_y {tri mi cos : Nat → Int32} {k : Int} {y x : Int32} (q : wkA tri mi cos y.toInt) (ex : x = tri y.toNatClampNeg) (h : wkb (cos x.toNatClampNeg) (mi y.toNatClampNeg)) (h0 : 0 ≤ y.toInt) (hk : k = y.toInt + 1) : wkA tri mi cos k := by
  subst hk
  have cy := clC (x := y) rfl
  intro j hj l
  by_cases c : j = y.toNatClampNeg
  · subst c; rw [← ex]; exact h
  · exact q j (by omega) l
theorem wa_n {tri mi cos : Nat → Int32} {k : Int} {y x : Int32} (q : wkA tri mi cos y.toInt) (ex : x = tri y.toNatClampNeg) (h : 7 < x.toInt) (h0 : 0 ≤ y.toInt) (hk : k = y.toInt + 1) : wkA tri mi cos k := by
  subst hk
  have cy := clC (x := y) rfl
  intro j hj l
  by_cases c : j = y.toNatClampNeg
  · subst c; rw [← ex] at l; omega
  · exact q j (by omega) l
/-- the STRENGTH of a CORNER behind n DAYS, its ROOM walked on the days that the row says -/
def plU (mar f top str : Nat → Int32) (tel : Int32) (g : Int) (tri : Nat → Int32) (n : Nat) (c : Nat) : Int := svF f (cwF mar top tel c (c - c % 6) 6) g (fun i => decide (tri i = nI (c / 6))) (str c).toInt n
def jdC (mar f top str : Nat → Int32) (tel : Int32) (g : Int) (tri mi cos : Nat → Int32) (n : Int) (r : Int32) : Prop := (∃ i : Nat, (i : Int) < n ∧ (tri i).toInt ≤ 7 ∧ ¬ wkb (cos (tri i).toNatClampNeg) (mi i) ∧ r = -1) ∨ (wkA tri mi cos n ∧ r.toInt = srF top (plU mar f top str tel g tri n.toNat) 0 48)
theorem jd_n {mar f top str tri mi cos : Nat → Int32} {tel y x : Int32} {g n : Int} (ex : x = tri y.toNatClampNeg) (hx : x.toInt ≤ 7) (h : ¬ wkb (cos x.toNatClampNeg) (mi y.toNatClampNeg)) (h0 : 0 ≤ y.toInt) (hn : y.toInt < n) : jdC mar f top str tel g tri mi cos n (-1) := by
  have cy := clC (x := y) rfl
  subst ex
  exact .inl ⟨y.toNatClampNeg, by omega, hx, h, rfl⟩
theorem jd_sum {mar f top str tri cro wk : Nat → Int32} {tel y : Int32} {g : Int} {n N N' : Nat} {L S R : Int} (h : L = srF top (plU mar f top str tel g tri n) 0 N) (hs : S = srF top (fun c => svF f (cro c).toInt g (bitW (wk y.toNatClampNeg)) (str c).toInt n) (y.toInt * 6).toNat 6) (hc : ∀ j : Nat, j < 48 → (cro j).toInt = cwF mar top tel j (j - j % 6) 6) (hw : wdI tri wk (n : Int)) (hn4 : n ≤ 4) (hy : 0 ≤ y.toInt) (hy7 : y.toInt ≤ 7) (hN : (N : Int) = 6 * y.toInt) (hR : R = L + S) (hN' : N' = N + 6) : R = srF top (plU mar f top str tel g tri n) 0 N' := by
  subst hN'
  have cy := clC (x := y) rfl
  rw [sr_add, hR, h, hs, show (y.toInt * 6).toNat = N by omega]
  congr 1
  have aux : ∀ k : Nat, k ≤ 6 → srF top (fun c => svF f (cro c).toInt g (bitW (wk y.toNatClampNeg)) (str c).toInt n) N k = srF top (plU mar f top str tel g tri n) N k := by
    intro k
    induction k with
    | zero => intro _; rfl
    | succ k ih =>
      intro hk
      show srF top (fun c => svF f (cro c).toInt g (bitW (wk y.toNatClampNeg)) (str c).toInt n) N k + (if top (N + k) = -1 then 0 else svF f (cro (N + k)).toInt g (bitW (wk y.toNatClampNeg)) (str (N + k)).toInt n) = srF top (plU mar f top str tel g tri n) N k + (if top (N + k) = -1 then 0 else plU mar f top str tel g tri n (N + k))
      rw [ih (by omega)]
      have e : svF f (cro (N + k)).toInt g (bitW (wk y.toNatClampNeg)) (str (N + k)).toInt n = plU mar f top str tel g tri n (N + k) := by
        unfold plU
        rw [hc (N + k) (by omega)]
        refine sv_w (N := n) (fun i hi => ?_) n (Nat.le_refl n)
        rw [hw y.toNatClampNeg (by omega) i (by omega), decide_eq_true (p := (i : Int) < (n : Int)) (by omega), Bool.true_and, show (N + k) / 6 = y.toNatClampNeg by omega]
      rw [e]
  exact aux 6 (Nat.le_refl 6)
-- ===== the model's PLANS =====
def amI (n mi : Int32) (i : Int) (f : Int32) : Prop := (f = 1 ∧ (1 ≤ n.toInt ∧ n.toInt ≤ 4) ∧ ∀ j : Nat, (j : Int) < i → (mnW mi j).toInt < 100) ∨ (f = 0 ∧ (n.toInt < 1 ∨ 4 < n.toInt ∨ ∃ j : Nat, (j : Int) < n.toInt ∧ 99 < (mnW mi j).toInt))
theorem am_0 {n mi : Int32} {i : Int} (h : 1 ≤ n.toInt ∧ n.toInt ≤ 4) (hi : i = 0) : amI n mi i 1 := .inl ⟨rfl, h, fun j hj => by omega⟩
theorem am_n {n mi : Int32} {i : Int} (h : n.toInt < 1 ∨ 4 < n.toInt) : amI n mi i 0 := .inr ⟨rfl, by omega⟩
theorem am_y {n mi y f x : Int32} {i : Int} (q : amI n mi y.toInt f) (hf : ¬ f = 0) (hx : x = mnW mi y.toInt.toNat) (l : x.toInt < 100) (h0 : 0 ≤ y.toInt) (hi : i = y.toInt + 1) : amI n mi i 1 := by
  rcases q with ⟨_, a, b⟩ | ⟨a, _⟩
  · refine .inl ⟨rfl, a, fun j hj => ?_⟩
    by_cases c : j = y.toInt.toNat
    · subst c; rw [← hx]; exact l
    · exact b j (by omega)
  · exact absurd a hf
theorem am_z {n mi y x : Int32} {i : Int} (hx : x = mnW mi y.toInt.toNat) (l : 100 ≤ x.toInt) (h0 : 0 ≤ y.toInt) (hn : y.toInt < n.toInt) : amI n mi i 0 := .inr ⟨rfl, .inr (.inr ⟨y.toInt.toNat, by omega, by rw [← hx]; omega⟩)⟩
def cpL (A A1 : Nat → Int32) (b i : Int) : Prop := ∀ j : Nat, j < 240 → ((b + 48 ≤ j ∧ (j : Int) < b + 48 + i) → A1 j = A (j - 48)) ∧ (¬ (b + 48 ≤ j ∧ (j : Int) < b + 48 + i) → A1 j = A j)
theorem cl_0 {A : Nat → Int32} {b i : Int} (h : i = 0) : cpL A A b i := fun j _ => ⟨fun q => by omega, fun _ => rfl⟩
theorem cl_s {A A1 A2 : Nat → Int32} {b i : Int} {y d s x : Int32} (q : cpL A A1 b y.toInt) (e : A2 = upd A1 d.toNatClampNeg x) (hx : x = A1 s.toNatClampNeg) (hd : d.toInt = b + 48 + y.toInt) (hs : s.toInt = b + y.toInt) (hb : 0 ≤ b) (hb2 : b ≤ 144) (hy : 0 ≤ y.toInt) (hy2 : y.toInt < 48) (hi : i = y.toInt + 1) : cpL A A2 b i := by
  subst hi
  have cd := clC hd
  have cs := clC hs
  have w := (q (b + y.toInt).toNat (by omega)).2 (by omega)
  intro j hj
  by_cases c : j = (b + 48 + y.toInt).toNat
  · subst c
    refine ⟨fun _ => ?_, fun z => absurd ⟨by omega, by omega⟩ z⟩
    rw [e, cd, pk_us, hx, cs, w]; congr 1; omega
  · rw [e, cd, pk_un c]
    exact ⟨fun z => (q j hj).1 (by omega), fun z => (q j hj).2 (by omega)⟩
def lyS (f mar top : Nat → Int32) (tel : Int32) (g ro b : Int) (A A' : Nat → Int32) : Prop := (∀ c : Nat, c < 48 → top c ≠ -1 → (A' (b.toNat + 48 + c)).toInt = fl f (if (c : Int) / 6 = ro then (A (b.toNat + c)).toInt + gn g (A (b.toNat + c)).toInt else (A (b.toNat + c)).toInt) (cwF mar top tel c (c - c % 6) 6)) ∧ ∀ j : Nat, (j : Int) < b + 48 → A' j = A j
