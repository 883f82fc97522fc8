section
-- ===== THE TEXT: TOKENS =====
def knd (c : Int32) : Int := if 97 ≤ c.toInt ∧ c.toInt ≤ 122 then 1 else if 48 ≤ c.toInt ∧ c.toInt ≤ 57 then 2 else 3
theorem knd_1 {c : Int32} (h : 97 ≤ c.toInt ∧ c.toInt ≤ 122) : knd c = 1 := by unfold knd; rw [if_pos h]
theorem knd_2 {c : Int32} (h : 48 ≤ c.toInt ∧ c.toInt ≤ 57) : knd c = 2 := by unfold knd; rw [if_neg (by omega), if_pos h]
theorem knd_3 {c : Int32} (h : c.toInt < 97 ∨ 122 < c.toInt) (h2 : c.toInt < 48 ∨ 57 < c.toInt) : knd c = 3 := by unfold knd; rw [if_neg (by omega), if_neg (by omega)]
theorem knd_of1 {c : Int32} (h : knd c = 1) : 97 ≤ c.toInt ∧ c.toInt ≤ 122 := by
  refine Classical.byContradiction fun q => ?_
  unfold knd at h
  rw [if_neg q] at h
  by_cases h2 : 48 ≤ c.toInt ∧ c.toInt ≤ 57
  · rw [if_pos h2] at h; omega
  · rw [if_neg h2] at h; omega
theorem knd_of2 {c : Int32} (h : knd c = 2) : 48 ≤ c.toInt ∧ c.toInt ≤ 57 := by
  refine Classical.byContradiction fun q => ?_
  unfold knd at h
  rw [if_neg q] at h
  by_cases h2 : 97 ≤ c.toInt ∧ c.toInt ≤ 122
  · rw [if_pos h2] at h; omega
  · rw [if_neg h2] at h; omega
def skF (f : Nat → Int32) : Nat → Int → Int
  | 0, p => p
  | k + 1, p => if f p.toNat = 32 then skF f k (p + 1) else p
def rnF (f : Nat → Int32) (kd : Int) : Nat → Int → Int
  | 0, p => p
  | k + 1, p => if knd (f p.toNat) = kd then rnF f kd k (p + 1) else p
def tS (f : Nat → Int32) (n p : Int) : Int := skF f (n - p).toNat p
def tR (f : Nat → Int32) (kd n p : Int) : Int := rnF f kd (n - p).toNat p
def tE (f : Nat → Int32) (n a : Int) : Int := if a < n then (if knd (f a.toNat) = 3 then a + 1 else tR f (knd (f a.toNat)) n (a + 1)) else a
theorem sk_step {f : Nat → Int32} {n p p' : Int} (h1 : p < n) (hf : f p.toNat = 32) (hp : p' = p + 1) : tS f n p' = tS f n p := by
  subst hp
  unfold tS
  rw [show (n - p).toNat = (n - (p + 1)).toNat + 1 by omega]
  show _ = (if f p.toNat = 32 then skF f (n - (p + 1)).toNat (p + 1) else p)
  rw [if_pos hf]
theorem sk_stop {f : Nat → Int32} {n p : Int} (h : n ≤ p ∨ ¬ f p.toNat = 32) : tS f n p = p := by
  unfold tS
  by_cases c : n ≤ p
  · rw [show (n - p).toNat = 0 by omega]; rfl
  · rcases h with h | h
    · exact absurd h c
    · rw [show (n - p).toNat = (n - (p + 1)).toNat + 1 by omega]
      show (if f p.toNat = 32 then skF f (n - (p + 1)).toNat (p + 1) else p) = p
      rw [if_neg h]
theorem rn_step {f : Nat → Int32} {kd n p p' : Int} (h1 : p < n) (hf : knd (f p.toNat) = kd) (hp : p' = p + 1) : tR f kd n p' = tR f kd n p := by
  subst hp
  unfold tR
  rw [show (n - p).toNat = (n - (p + 1)).toNat + 1 by omega]
  show _ = (if knd (f p.toNat) = kd then rnF f kd (n - (p + 1)).toNat (p + 1) else p)
  rw [if_pos hf]
theorem rn_stop {f : Nat → Int32} {kd n p : Int} (h : n ≤ p ∨ ¬ knd (f p.toNat) = kd) : tR f kd n p = p := by
  unfold tR
  by_cases c : n ≤ p
  · rw [show (n - p).toNat = 0 by omega]; rfl
  · rcases h with h | h
    · exact absurd h c
    · rw [show (n - p).toNat = (n - (p + 1)).toNat + 1 by omega]
      show (if knd (f p.toNat) = kd then rnF f kd (n - (p + 1)).toNat (p + 1) else p) = p
      rw [if_neg h]
theorem sk_rg {f : Nat → Int32} : ∀ (k : Nat) (p : Int), p ≤ skF f k p ∧ skF f k p ≤ p + k
  | 0, p => ⟨Int.le_refl p, by show p ≤ p + 0; omega⟩
  | k + 1, p => by
    have := sk_rg (f := f) k (p + 1)
    show p ≤ (if f p.toNat = 32 then skF f k (p + 1) else p) ∧ (if f p.toNat = 32 then skF f k (p + 1) else p) ≤ p + ((k + 1 : Nat) : Int)
    by_cases c : f p.toNat = 32
    · rw [if_pos c]; omega
    · rw [if_neg c]; omega
theorem rn_rg {f : Nat → Int32} {kd : Int} : ∀ (k : Nat) (p : Int), p ≤ rnF f kd k p ∧ rnF f kd k p ≤ p + k
  | 0, p => ⟨Int.le_refl p, by show p ≤ p + 0; omega⟩
  | k + 1, p => by
    have := rn_rg (f := f) (kd := kd) k (p + 1)
    show p ≤ (if knd (f p.toNat) = kd then rnF f kd k (p + 1) else p) ∧ (if knd (f p.toNat) = kd then rnF f kd k (p + 1) else p) ≤ p + ((k + 1 : Nat) : Int)
    by_cases c : knd (f p.toNat) = kd
    · rw [if_pos c]; omega
    · rw [if_neg c]; omega
theorem rn_all {f : Nat → Int32} {kd : Int} : ∀ (k : Nat) (p j : Int), p ≤ j → j < rnF f kd k p → knd (f j.toNat) = kd
  | 0, p, j, h1, h2 => by have h3 : j < p := h2; omega
  | k + 1, p, j, h1, h2 => by
    have h3 : j < (if knd (f p.toNat) = kd then rnF f kd k (p + 1) else p) := h2
    by_cases c : knd (f p.toNat) = kd
    · rw [if_pos c] at h3
      by_cases e : j = p
      · rw [e]; exact c
      · exact rn_all k (p + 1) j (by omega) h3
    · rw [if_neg c] at h3; omega
theorem tS_rg {f : Nat → Int32} {n p : Int} (h : p ≤ n) : p ≤ tS f n p ∧ tS f n p ≤ n := by
  have := sk_rg (f := f) (n - p).toNat p
  unfold tS; omega
theorem tE_rg {f : Nat → Int32} {n a : Int} (h : a ≤ n) : a ≤ tE f n a ∧ tE f n a ≤ n ∧ (a < n → a < tE f n a) := by
  unfold tE
  by_cases c : a < n
  · rw [if_pos c]
    by_cases d : knd (f a.toNat) = 3
    · rw [if_pos d]; omega
    · rw [if_neg d]
      have := rn_rg (f := f) (kd := knd (f a.toNat)) (n - (a + 1)).toNat (a + 1)
      unfold tR; omega
  · rw [if_neg c]; omega
theorem tE_end {f : Nat → Int32} {n a y : Int} (h : n ≤ a) (e : y = a) : y = tE f n a := by unfold tE; rw [if_neg (by omega)]; exact e
theorem tE_one {f : Nat → Int32} {n a y K : Int} (h : a < n) (hk : K = knd (f a.toNat)) (h3 : K = 3) (e : y = a + 1) : y = tE f n a := by
  unfold tE; rw [if_pos h, if_pos (hk.symm.trans h3)]; exact e
theorem tE_run {f : Nat → Int32} {n a y K : Int} (h : a < n) (hk : K = knd (f a.toNat)) (h3 : K ≠ 3) (q : tR f K n y = tR f K n (a + 1)) (st : n ≤ y ∨ ¬ knd (f y.toNat) = K) : y = tE f n a := by
  unfold tE; rw [if_pos h, if_neg (fun z => h3 (hk.trans z)), ← hk, ← q]; exact (rn_stop st).symm
theorem tE_all {f : Nat → Int32} {n a : Int} (j : Int) (h0 : a ≤ j) (h1 : j < tE f n a) : knd (f j.toNat) = knd (f a.toNat) := by
  by_cases e : j = a
  · rw [e]
  · unfold tE at h1
    by_cases c : a < n
    · rw [if_pos c] at h1
      by_cases d : knd (f a.toNat) = 3
      · rw [if_pos d] at h1; omega
      · rw [if_neg d] at h1
        exact rn_all _ (a + 1) j (by omega) h1
    · rw [if_neg c] at h1; omega
/-- where the next TOKEN ends -/
def nx (f : Nat → Int32) (n p : Int) : Int := tE f n (tS f n p)
theorem nx_rg {f : Nat → Int32} {n p : Int} (h : p ≤ n) : p ≤ nx f n p ∧ nx f n p ≤ n ∧ tS f n p ≤ nx f n p := by
  have a := tS_rg (f := f) h
  have b := tE_rg (f := f) (a := tS f n p) a.2
  unfold nx; omega
-- numbers
def nvF (f : Nat → Int32) (a : Int) : Nat → Int32
  | 0 => 0
  | k + 1 => nvF f a k * 10 + f (a + k).toNat - 48
def isN (f : Nat → Int32) (a e : Int) : Prop := 1 ≤ e - a ∧ e - a ≤ 2 ∧ knd (f a.toNat) = 2
def nuV (f : Nat → Int32) (a e : Int) : Int32 := nvF f a (e - a).toNat
/-- a number as both sides read it: at p, from lo to hi; r is it, or -1 -/
def nuP (f : Nat → Int32) (n p lo hi : Int) (r : Int32) : Prop := (isN f (tS f n p) (nx f n p) ∧ (lo ≤ (nuV f (tS f n p) (nx f n p)).toInt ∧ (nuV f (tS f n p) (nx f n p)).toInt ≤ hi) ∧ r = nuV f (tS f n p) (nx f n p)) ∨ (¬ (isN f (tS f n p) (nx f n p) ∧ (lo ≤ (nuV f (tS f n p) (nx f n p)).toInt ∧ (nuV f (tS f n p) (nx f n p)).toInt ≤ hi)) ∧ r = -1)
theorem nuP_one {f : Nat → Int32} {n p lo hi : Int} {r r2 : Int32} (h1 : nuP f n p lo hi r) (h2 : nuP f n p lo hi r2) : r = r2 := by
  rcases h1 with ⟨a, b, c⟩ | ⟨a, c⟩
  · rcases h2 with ⟨_, _, c2⟩ | ⟨a2, _⟩
    · rw [c, c2]
    · exact absurd ⟨a, b⟩ a2
  · rcases h2 with ⟨a2, b2, _⟩ | ⟨_, c2⟩
    · exact absurd ⟨a2, b2⟩ a
    · rw [c, c2]
theorem nv_step {f : Nat → Int32} {a : Int} {k k' : Nat} {v w : Int32} (h : v = nvF f a k) (hk : k' = k + 1) (hw : w = v * 10 + f (a + k).toNat - 48) : w = nvF f a k' := by
  subst hk; subst h; exact hw
-- words
def wvF (f : Nat → Int32) (a : Int) : Nat → Int64
  | 0 => 0
  | k + 1 => 27 * wvF f a k + (f (a + k).toNat).toInt64 - 96
def tkV (f : Nat → Int32) (n a e : Int) : Int64 := if a < n then (if knd (f a.toNat) = 1 then (if e - a ≤ 9 then wvF f a (e - a).toNat else -4) else if knd (f a.toNat) = 2 then (if e - a ≤ 2 then -1 else -4) else if f a.toNat = 59 then -3 else -4) else -2
def vlF (g : Nat → Int) : Nat → Int
  | 0 => 0
  | k + 1 => 27 * vlF g k + g k - 96
theorem vl_rg {g : Nat → Int} : ∀ k : Nat, (∀ j : Nat, j < k → 97 ≤ g j ∧ g j ≤ 122) → 0 ≤ vlF g k ∧ vlF g k < ((27 ^ k : Nat) : Int)
  | 0, _ => ⟨Int.le_refl 0, by show (0 : Int) < ((27 ^ 0 : Nat) : Int); decide⟩
  | k + 1, h => by
    have i := vl_rg k (fun j hj => h j (by omega))
    have d := h k (by omega)
    show 0 ≤ 27 * vlF g k + g k - 96 ∧ 27 * vlF g k + g k - 96 < ((27 ^ (k + 1) : Nat) : Int)
    rw [Nat.pow_succ]
    omega
theorem vl_inj {g h : Nat → Int} : ∀ k m : Nat, (∀ j : Nat, j < k → 97 ≤ g j ∧ g j ≤ 122) → (∀ j : Nat, j < m → 97 ≤ h j ∧ h j ≤ 122) → vlF g k = vlF h m → k = m ∧ ∀ j : Nat, j < k → g j = h j
  | 0, 0, _, _, _ => ⟨rfl, fun j hj => absurd hj (Nat.not_lt_zero _)⟩
  | 0, m + 1, _, hh, e => by
    have e2 : (0 : Int) = 27 * vlF h m + h m - 96 := e
    have := vl_rg m (fun j hj => hh j (by omega))
    have := hh m (by omega)
    omega
  | k + 1, 0, hg, _, e => by
    have e2 : 27 * vlF g k + g k - 96 = (0 : Int) := e
    have := vl_rg k (fun j hj => hg j (by omega))
    have := hg k (by omega)
    omega
  | k + 1, m + 1, hg, hh, e => by
    have e2 : 27 * vlF g k + g k - 96 = 27 * vlF h m + h m - 96 := e
    have a := hg k (by omega)
    have b := hh m (by omega)
    have i := vl_inj k m (fun j hj => hg j (by omega)) (fun j hj => hh j (by omega)) (by omega)
    obtain ⟨rfl, i2⟩ := i
    refine ⟨rfl, fun j hj => ?_⟩
    by_cases c : j = k
    · subst c; omega
    · exact i2 j (by omega)
theorem ka_bmod64 {x : Int} (h1 : -9223372036854775808 ≤ x) (h2 : x ≤ 9223372036854775807) : x.bmod (2 ^ 64) = x := Int.bmod_eq_of_le (by omega) (by omega)
theorem wv_toInt {f : Nat → Int32} {a : Int} : ∀ k : Nat, k ≤ 9 → (∀ j : Nat, j < k → 97 ≤ (f (a + j).toNat).toInt ∧ (f (a + j).toNat).toInt ≤ 122) → (wvF f a k).toInt = vlF (fun j => (f (a + j).toNat).toInt) k
  | 0, _, _ => rfl
  | k + 1, hk, h => by
    have i := wv_toInt (f := f) (a := a) k (by omega) (fun j hj => h j (by omega))
    have r := vl_rg (g := fun j => (f (a + j).toNat).toInt) k (fun j hj => h j (by omega))
    have d := h k (by omega)
    have p9 : (27 ^ k : Nat) ≤ 27 ^ 8 := Nat.pow_le_pow_right (by decide) (by omega)
    have p8 : (27 ^ 8 : Nat) = 282429536481 := by decide
    rw [p8] at p9
    obtain ⟨V, eV⟩ : ∃ V : Int, V = vlF (fun j => (f (a + j).toNat).toInt) k := ⟨_, rfl⟩
    show (27 * wvF f a k + (f (a + k).toNat).toInt64 - 96).toInt = 27 * vlF (fun j => (f (a + j).toNat).toInt) k + (f (a + k).toNat).toInt - 96
    rw [← eV] at r i ⊢
    have m1 : (27 * wvF f a k).toInt = 27 * V := by
      rw [Int64.toInt_mul, i, show ((27 : Int64)).toInt = 27 from rfl]; exact ka_bmod64 (by omega) (by omega)
    have m2 : (27 * wvF f a k + (f (a + k).toNat).toInt64).toInt = 27 * V + (f (a + k).toNat).toInt := by
      rw [Int64.toInt_add, m1, Int32.toInt_toInt64]; exact ka_bmod64 (by omega) (by omega)
    rw [Int64.toInt_sub, m2, show ((96 : Int64)).toInt = 96 from rfl]; exact ka_bmod64 (by omega) (by omega)
def chV (v : Int32) : Int32 := ((v &&& 255).toUInt32 % 65536).toInt32
def wcS : List Int64 := [365647, 670208, 847604, 453773, 3094387]
theorem ch_fS : ∀ i, i < 5 → ∀ j, j < lenS.getD i 0 → chV (fS i j) = fS i j ∧ 97 ≤ (fS i j).toInt ∧ (fS i j).toInt ≤ 122 := by decide +kernel
theorem wc_fS : ∀ i, i < 5 → (wcS.getD i 0).toInt = vlF (fun j => (fS i j).toInt) (lenS.getD i 0) := by decide +kernel
theorem wc_pos : ∀ i, i < 5 → 0 < (wcS.getD i 0).toInt ∧ 4 ≤ lenS.getD i 0 ∧ lenS.getD i 0 ≤ 5 := by decide +kernel
def wdP (f : Nat → Int32) (a e : Int) (N : Nat) (sf : Nat → Int32) : Prop := e - a = N ∧ ∀ j : Nat, j < N → f (a + j).toNat = chV (sf j)
theorem tk_lt {f : Nat → Int32} {n a e : Int} (han : a ≤ n) (he : e = tE f n a) (c2 : knd (f a.toNat) = 1) : ∀ j : Nat, j < (e - a).toNat → 97 ≤ (f (a + j).toNat).toInt ∧ (f (a + j).toNat).toInt ≤ 122 := fun j hj => by
  have := tE_all (f := f) (n := n) (a := a) (a + j) (by omega) (by rw [← he]; omega)
  exact knd_of1 (this.trans c2)
theorem c_m1 : ((-1 : Int64)).toInt = -1 := rfl
theorem c_m2 : ((-2 : Int64)).toInt = -2 := rfl
theorem c_m3 : ((-3 : Int64)).toInt = -3 := rfl
theorem c_m4 : ((-4 : Int64)).toInt = -4 := rfl
theorem vl_cong {g h : Nat → Int} {N : Nat} (e : ∀ j : Nat, j < N → g j = h j) : ∀ k : Nat, k ≤ N → vlF g k = vlF h k
  | 0, _ => rfl
  | k + 1, hk => by
    show 27 * vlF g k + g k - 96 = 27 * vlF h k + h k - 96
    rw [vl_cong e k (by omega), e k (by omega)]
theorem wd_gen {f sf : Nat → Int32} {n a e : Int} {N : Nat} {C : Int64} (hN : 1 ≤ N ∧ N ≤ 9) (c : ∀ j : Nat, j < N → chV (sf j) = sf j ∧ 97 ≤ (sf j).toInt ∧ (sf j).toInt ≤ 122) (hC : C.toInt = vlF (fun j => (sf j).toInt) N) (hae : e ≤ n) (h : wdP f a e N sf) : tkV f n a e = C := by
  obtain ⟨h1, h2⟩ := h
  have le : ∀ j : Nat, j < N → 97 ≤ (f (a + j).toNat).toInt ∧ (f (a + j).toNat).toInt ≤ 122 := fun j hj => by
    rw [h2 j hj, (c j hj).1]; exact (c j hj).2
  have l0 := le 0 (by omega)
  rw [show a + ((0 : Nat) : Int) = a by omega] at l0
  have e1 : (e - a).toNat = N := by omega
  unfold tkV
  rw [if_pos (by omega), if_pos (knd_1 l0), if_pos (by omega), e1]
  apply Int64.toInt_inj.mp
  rw [wv_toInt N hN.2 le, hC]
  refine vl_cong (N := N) (fun j hj => ?_) N (Nat.le_refl N)
  show (f (a + j).toNat).toInt = (sf j).toInt
  rw [h2 j hj, (c j hj).1]
theorem wd_to {f : Nat → Int32} {n a e : Int} {i : Nat} (hi : i < 5) (ha : 0 ≤ a) (han : a ≤ n) (he : e = tE f n a) (h : wdP f a e (lenS.getD i 0) (fS i)) : tkV f n a e = wcS.getD i 0 :=
  wd_gen ⟨by have := (wc_pos i hi).2.1; omega, by have := (wc_pos i hi).2.2; omega⟩ (ch_fS i hi) (wc_fS i hi) (by rw [he]; exact (tE_rg han).2.1) h
theorem wd_from {f : Nat → Int32} {n a e : Int} {i : Nat} (hi : i < 5) (ha : 0 ≤ a) (han : a ≤ n) (he : e = tE f n a) (h : tkV f n a e = wcS.getD i 0) : wdP f a e (lenS.getD i 0) (fS i) := by
  have wp := wc_pos i hi
  have er := tE_rg (f := f) han
  rw [← he] at er
  have pos : 0 < (tkV f n a e).toInt := by rw [h]; exact wp.1
  unfold tkV at h pos
  by_cases c1 : a < n
  · rw [if_pos c1] at h pos
    by_cases c2 : knd (f a.toNat) = 1
    · rw [if_pos c2] at h pos
      by_cases c3 : e - a ≤ 9
      · rw [if_pos c3] at h
        have le := tk_lt han he c2
        have e1 := congrArg Int64.toInt h
        rw [wv_toInt _ (by omega) le, wc_fS i hi] at e1
        have inj := vl_inj _ _ le (fun j hj => (ch_fS i hi j hj).2) e1
        refine ⟨by omega, fun j hj => ?_⟩
        apply Int32.toInt_inj.mp
        rw [(ch_fS i hi j hj).1]
        exact inj.2 j (by omega)
      · rw [if_neg c3, c_m4] at pos; omega
    · rw [if_neg c2] at pos
      by_cases c3 : knd (f a.toNat) = 2
      · rw [if_pos c3] at pos
        by_cases c4 : e - a ≤ 2
        · rw [if_pos c4, c_m1] at pos; omega
        · rw [if_neg c4, c_m4] at pos; omega
      · rw [if_neg c3] at pos
        by_cases c4 : f a.toNat = 59
        · rw [if_pos c4, c_m3] at pos; omega
        · rw [if_neg c4, c_m4] at pos; omega
  · rw [if_neg c1, c_m2] at pos; omega
theorem wd_iff {f : Nat → Int32} {n a e : Int} {i : Nat} (hi : i < 5) (ha : 0 ≤ a) (han : a ≤ n) (he : e = tE f n a) : wdP f a e (lenS.getD i 0) (fS i) ↔ tkV f n a e = wcS.getD i 0 := ⟨wd_to hi ha han he, wd_from hi ha han he⟩
theorem tk_let {f : Nat → Int32} {n a e : Int} (han : a ≤ n) (he : e = tE f n a) (c1 : a < n) (c2 : knd (f a.toNat) = 1) : tkV f n a e ≠ -1 ∧ tkV f n a e ≠ -2 ∧ tkV f n a e ≠ -3 := by
  have er := tE_rg (f := f) han
  rw [← he] at er
  unfold tkV
  rw [if_pos c1, if_pos c2]
  by_cases c3 : e - a ≤ 9
  · rw [if_pos c3]
    have le := tk_lt han he c2
    have r := vl_rg (g := fun j => (f (a + j).toNat).toInt) _ le
    have w := wv_toInt (f := f) (a := a) (e - a).toNat (by omega) le
    refine ⟨fun h => ?_, fun h => ?_, fun h => ?_⟩
    · rw [h, show ((-1 : Int64)).toInt = -1 from rfl] at w; omega
    · rw [h, show ((-2 : Int64)).toInt = -2 from rfl] at w; omega
    · rw [h, show ((-3 : Int64)).toInt = -3 from rfl] at w; omega
  · rw [if_neg c3]; decide
theorem tk_m1 {f : Nat → Int32} {n a e : Int} (han : a ≤ n) (he : e = tE f n a) : tkV f n a e = -1 ↔ isN f a e := by
  have er := tE_rg (f := f) han
  rw [← he] at er
  unfold isN
  refine ⟨fun h => ?_, fun ⟨h1, h2, h3⟩ => ?_⟩
  · by_cases c1 : a < n
    · by_cases c2 : knd (f a.toNat) = 1
      · exact absurd h (tk_let han he c1 c2).1
      · unfold tkV at h
        rw [if_pos c1, if_neg c2] at h
        by_cases c3 : knd (f a.toNat) = 2
        · rw [if_pos c3] at h
          by_cases c4 : e - a ≤ 2
          · exact ⟨by omega, c4, c3⟩
          · rw [if_neg c4] at h; exact absurd h (by decide)
        · rw [if_neg c3] at h
          by_cases c4 : f a.toNat = 59
          · rw [if_pos c4] at h; exact absurd h (by decide)
          · rw [if_neg c4] at h; exact absurd h (by decide)
    · unfold tkV at h; rw [if_neg c1] at h; exact absurd h (by decide)
  · unfold tkV
    rw [if_pos (by omega), if_neg (by omega), if_pos h3, if_pos h2]
theorem tk_semi {f : Nat → Int32} {n a e : Int} (han : a ≤ n) (he : e = tE f n a) : tkV f n a e = -3 ↔ (a < n ∧ f a.toNat = 59) := by
  refine ⟨fun h => ?_, fun ⟨h1, h2⟩ => ?_⟩
  · by_cases c1 : a < n
    · by_cases c2 : knd (f a.toNat) = 1
      · exact absurd h (tk_let han he c1 c2).2.2
      · unfold tkV at h
        rw [if_pos c1, if_neg c2] at h
        by_cases c3 : knd (f a.toNat) = 2
        · rw [if_pos c3] at h
          by_cases c4 : e - a ≤ 2
          · rw [if_pos c4] at h; exact absurd h (by decide)
          · rw [if_neg c4] at h; exact absurd h (by decide)
        · rw [if_neg c3] at h
          by_cases c4 : f a.toNat = 59
          · exact ⟨c1, c4⟩
          · rw [if_neg c4] at h; exact absurd h (by decide)
    · unfold tkV at h; rw [if_neg c1] at h; exact absurd h (by decide)
  · unfold tkV
    have k3 : knd (f a.toNat) = 3 := by rw [h2]; decide
    rw [if_pos h1, if_neg (by omega), if_neg (by omega), if_pos h2]
theorem tk_end {f : Nat → Int32} {n a e : Int} (han : a ≤ n) (he : e = tE f n a) : tkV f n a e = -2 ↔ a = n := by
  refine ⟨fun h => ?_, fun h1 => ?_⟩
  · by_cases c1 : a < n
    · by_cases c2 : knd (f a.toNat) = 1
      · exact absurd h (tk_let han he c1 c2).2.1
      · unfold tkV at h
        rw [if_pos c1, if_neg c2] at h
        by_cases c3 : knd (f a.toNat) = 2
        · rw [if_pos c3] at h
          by_cases c4 : e - a ≤ 2
          · rw [if_pos c4] at h; exact absurd h (by decide)
          · rw [if_neg c4] at h; exact absurd h (by decide)
        · rw [if_neg c3] at h
          by_cases c4 : f a.toNat = 59
          · rw [if_pos c4] at h; exact absurd h (by decide)
          · rw [if_neg c4] at h; exact absurd h (by decide)
    · omega
  · unfold tkV
    rw [if_neg (by omega)]
-- rows for the loops
theorem idx_eq {y : Int32} : y.toNatClampNeg = y.toInt.toNat := clC rfl
theorem sk_in {f : Nat → Int32} {n P : Int} {y z : Int32} (q : tS f n y.toInt = P) (h1 : y.toInt < n) (hf : (f y.toNatClampNeg).toInt = 32) (hz : z.toInt = y.toInt + 1) : tS f n z.toInt = P := by
  rw [← q]; exact sk_step h1 (by rw [← idx_eq]; exact Int32.toInt_inj.mp hf) hz
theorem sk_out {f : Nat → Int32} {n P : Int} {y : Int32} (q : tS f n y.toInt = P) (h : n ≤ y.toInt ∨ (f y.toNatClampNeg).toInt ≠ 32) : y.toInt = P := by
  rw [← q]; refine (sk_stop ?_).symm
  rcases h with h | h
  · exact .inl h
  · exact .inr (fun z => h (by rw [idx_eq, z]; rfl))
theorem rn_in {f : Nat → Int32} {n P K : Int} {y z : Int32} (q : tR f K n y.toInt = P) (h1 : y.toInt < n) (hk : knd (f y.toNatClampNeg) = K) (hz : z.toInt = y.toInt + 1) : tR f K n z.toInt = P := by
  rw [← q]; exact rn_step h1 (by rw [← idx_eq]; exact hk) hz
end
section
theorem tR_cast {f : Nat → Int32} {K n a b : Int} (h : a = b) : tR f K n a = tR f K n b := by rw [h]
theorem tE_oneC {f : Nat → Int32} {n y K : Int} {a : Int32} (h : a.toInt < n) (hk : K = knd (f a.toNatClampNeg)) (h3 : K = 3) (e : y = a.toInt + 1) : y = tE f n a.toInt := tE_one h (by rw [← idx_eq]; exact hk) h3 e
theorem tE_runC {f : Nat → Int32} {n K : Int} {a y : Int32} (h : a.toInt < n) (hk : K = knd (f a.toNatClampNeg)) (h3 : K ≠ 3) (q : tR f K n y.toInt = tR f K n (a.toInt + 1)) (st : n ≤ y.toInt ∨ ¬ knd (f y.toNatClampNeg) = K) : y.toInt = tE f n a.toInt := tE_run h (by rw [← idx_eq]; exact hk) h3 q (by rw [← idx_eq]; exact st)
theorem tw_step {f sf : Nat → Int32} {a Z : Int} {x y r : Int32} (q : ∀ j : Nat, (j : Int) < y.toInt → f (a + j).toNat = chV (sf j)) (e : f x.toNatClampNeg = r) (hr : r = chV (sf y.toNatClampNeg)) (hx : x.toInt = a + y.toInt) (h0 : 0 ≤ y.toInt) (hz : Z = y.toInt + 1) : ∀ j : Nat, (j : Int) < Z → f (a + j).toNat = chV (sf j) := by
  intro j hj
  by_cases c : j = y.toNatClampNeg
  · have ey := clC (x := y) rfl
    subst c
    rw [show a + ((y.toNatClampNeg : Nat) : Int) = x.toInt by omega, ← idx_eq, e, hr]
  · have ey := clC (x := y) rfl
    exact q j (by omega)
theorem tw_no {f sf : Nat → Int32} {a e : Int} {N : Nat} {x y r : Int32} (he : ¬ f x.toNatClampNeg = r) (hr : r = chV (sf y.toNatClampNeg)) (hx : x.toInt = a + y.toInt) (h0 : 0 ≤ y.toInt) (hN : y.toInt < N) : ¬ wdP f a e N sf := by
  intro h
  have ey := clC (x := y) rfl
  have w := h.2 y.toNatClampNeg (by omega)
  rw [show a + ((y.toNatClampNeg : Nat) : Int) = x.toInt by omega, ← idx_eq] at w
  exact he (w.trans hr.symm)
theorem nx_of {f : Nat → Int32} {n p a e : Int} (h1 : a = tS f n p) (h2 : e = tE f n a) : e = nx f n p := by subst h1; exact h2
theorem nu_no {f : Nat → Int32} {n p lo hi a e : Int} {r : Int32} (h1 : a = tS f n p) (h2 : e = nx f n p) (h : ¬ (isN f a e ∧ (lo ≤ (nuV f a e).toInt ∧ (nuV f a e).toInt ≤ hi))) (hr : r = -1) : nuP f n p lo hi r := by
  subst h1; subst h2; exact .inr ⟨h, hr⟩
theorem nu_n1 {f : Nat → Int32} {n p lo hi a e : Int} (h1 : a = tS f n p) (h2 : e = nx f n p) (h : e - a < 1 ∨ 2 < e - a) : nuP f n p lo hi (-1) := nu_no h1 h2 (fun q => by have := q.1.1; have := q.1.2.1; omega) rfl
theorem nu_n2 {f : Nat → Int32} {n p lo hi e K : Int} {a : Int32} (h1 : a.toInt = tS f n p) (h2 : e = nx f n p) (hk : K = knd (f a.toNatClampNeg)) (h : K ≠ 2) : nuP f n p lo hi (-1) := nu_no h1 h2 (fun q => h (hk.trans (by rw [idx_eq]; exact q.1.2.2))) rfl
theorem nu_n3 {f : Nat → Int32} {n p lo hi e : Int} {a v : Int32} {k : Nat} (h1 : a.toInt = tS f n p) (h2 : e = nx f n p) (hv : v = nvF f a.toInt k) (hk : k = (e - a.toInt).toNat) (h : v.toInt < lo ∨ hi < v.toInt) : nuP f n p lo hi (-1) := by
  subst hk
  refine nu_no h1 h2 (fun q => ?_) rfl
  have w := q.2
  unfold nuV at w
  rw [← hv] at w; omega
theorem nu_ok {f : Nat → Int32} {n p lo hi e K : Int} {a v : Int32} {k : Nat} (h1 : a.toInt = tS f n p) (h2 : e = nx f n p) (hv : v = nvF f a.toInt k) (hk : k = (e - a.toInt).toNat) (hK : K = knd (f a.toNatClampNeg)) (hK2 : K = 2) (h0 : 1 ≤ e - a.toInt ∧ e - a.toInt ≤ 2) (h : lo ≤ v.toInt ∧ v.toInt ≤ hi) : nuP f n p lo hi v := by
  subst hk
  refine .inl ?_
  rw [← h1, ← h2]
  refine ⟨⟨h0.1, h0.2, by rw [← idx_eq, ← hK]; exact hK2⟩, ?_, hv⟩
  unfold nuV; rw [← hv]; exact h
theorem nv_zero {f : Nat → Int32} {a : Int} {k : Nat} (hk : k = 0) : (0 : Int32) = nvF f a k := by subst hk; rfl
theorem nv_stepC {f : Nat → Int32} {a : Int} {k k' : Nat} {v w y : Int32} (h : v = nvF f a k) (hk : k' = k + 1) (hy : y.toInt = a + k) (hw : w = v * 10 + f y.toNatClampNeg - 48) : w = nvF f a k' := nv_step h hk (by rw [← hy, ← idx_eq]; exact hw)
theorem nu_rg {f : Nat → Int32} {n p lo hi : Int} {r : Int32} (h : nuP f n p lo hi r) : (lo ≤ r.toInt ∧ r.toInt ≤ hi) ∨ r = -1 := by
  rcases h with ⟨_, b, c⟩ | ⟨_, c⟩
  · rw [c]; exact .inl b
  · exact .inr c
-- LINES
def rmT (f : Nat → Int32) (n p : Int) (x y : Int32) (st en : Int) : Prop := nuP f n p 0 7 x ∧ x ≠ -1 ∧ nuP f n (nx f n p) 0 8 y ∧ y ≠ -1 ∧ st = tS f n (nx f n p) ∧ en = nx f n (nx f n p)
def rmN (f : Nat → Int32) (n p st : Int) : Prop := (nuP f n p 0 7 (-1) ∧ st = tS f n p) ∨ (∃ x : Int32, nuP f n p 0 7 x ∧ x ≠ -1 ∧ nuP f n (nx f n p) 0 8 (-1) ∧ st = tS f n (nx f n p))
def nmT (f : Nat → Int32) (n p lo hi : Int) (y : Int32) (st en : Int) : Prop := nuP f n p lo hi y ∧ y ≠ -1 ∧ st = tS f n p ∧ en = nx f n p
def nmN (f : Nat → Int32) (n p lo hi st : Int) : Prop := nuP f n p lo hi (-1) ∧ st = tS f n p
def tkW (f : Nat → Int32) (n p : Int) : Int64 := tkV f n (tS f n p) (nx f n p)
def wkT (f : Nat → Int32) (n p : Int) (x y : Int32) (st en : Int) : Prop := nuP f n p 0 7 x ∧ x ≠ -1 ∧ tkW f n (nx f n p) = 3094387 ∧ nmT f n (nx f n (nx f n p)) 1 99 y st en
def wkN (f : Nat → Int32) (n p st : Int) : Prop := nmN f n p 0 7 st ∨ (∃ x : Int32, nuP f n p 0 7 x ∧ x ≠ -1 ∧ ((tkW f n (nx f n p) ≠ 3094387 ∧ st = tS f n (nx f n p)) ∨ (tkW f n (nx f n p) = 3094387 ∧ nmN f n (nx f n (nx f n p)) 1 99 st)))
def lnT (f : Nat → Int32) (n p : Int) (k x y : Int32) (st en : Int) : Prop := (tkW f n p = 365647 ∧ k = 0 ∧ rmT f n (nx f n p) x y st en) ∨ (tkW f n p = 670208 ∧ k = 1 ∧ x = 0 ∧ nmT f n (nx f n p) 1 99 y st en) ∨ (tkW f n p = 847604 ∧ k = 2 ∧ x = 0 ∧ nmT f n (nx f n p) 0 8 y st en) ∨ (tkW f n p = 453773 ∧ k = 3 ∧ wkT f n (nx f n p) x y st en)
def lnN (f : Nat → Int32) (n p st : Int) : Prop := (tkW f n p = 365647 ∧ rmN f n (nx f n p) st) ∨ (tkW f n p = 670208 ∧ nmN f n (nx f n p) 1 99 st) ∨ (tkW f n p = 847604 ∧ nmN f n (nx f n p) 0 8 st) ∨ (tkW f n p = 453773 ∧ wkN f n (nx f n p) st) ∨ ((tkW f n p ≠ 365647 ∧ tkW f n p ≠ 670208 ∧ tkW f n p ≠ 847604 ∧ tkW f n p ≠ 453773) ∧ st = tS f n p)
theorem nmT_one {f : Nat → Int32} {n p lo hi st en st2 en2 : Int} {y y2 : Int32} (h1 : nmT f n p lo hi y st en) (h2 : nmT f n p lo hi y2 st2 en2) : y = y2 ∧ st = st2 ∧ en = en2 := ⟨nuP_one h1.1 h2.1, h1.2.2.1.trans h2.2.2.1.symm, h1.2.2.2.trans h2.2.2.2.symm⟩
theorem nmTN {f : Nat → Int32} {n p lo hi st en st2 : Int} {y : Int32} (h1 : nmT f n p lo hi y st en) (h2 : nmN f n p lo hi st2) : False := h1.2.1 (nuP_one h1.1 h2.1)
theorem rmT_one {f : Nat → Int32} {n p st en st2 en2 : Int} {x y x2 y2 : Int32} (h1 : rmT f n p x y st en) (h2 : rmT f n p x2 y2 st2 en2) : x = x2 ∧ y = y2 ∧ st = st2 ∧ en = en2 := ⟨nuP_one h1.1 h2.1, nuP_one h1.2.2.1 h2.2.2.1, h1.2.2.2.2.1.trans h2.2.2.2.2.1.symm, h1.2.2.2.2.2.trans h2.2.2.2.2.2.symm⟩
theorem rmTN {f : Nat → Int32} {n p st en st2 : Int} {x y : Int32} (h1 : rmT f n p x y st en) (h2 : rmN f n p st2) : False := by
  rcases h2 with ⟨a, _⟩ | ⟨z, _, _, b, _⟩
  · exact h1.2.1 (nuP_one h1.1 a)
  · exact h1.2.2.2.1 (nuP_one h1.2.2.1 b)
theorem rmN_one {f : Nat → Int32} {n p st st2 : Int} (h1 : rmN f n p st) (h2 : rmN f n p st2) : st = st2 := by
  rcases h1 with ⟨a, b⟩ | ⟨x, a, a1, a2, b⟩
  · rcases h2 with ⟨_, d⟩ | ⟨x2, c, c1, _, _⟩
    · exact b.trans d.symm
    · exact absurd (nuP_one c a) c1
  · rcases h2 with ⟨c, _⟩ | ⟨x2, _, _, _, d⟩
    · exact absurd (nuP_one a c) a1
    · exact b.trans d.symm
theorem wkT_one {f : Nat → Int32} {n p st en st2 en2 : Int} {x y x2 y2 : Int32} (h1 : wkT f n p x y st en) (h2 : wkT f n p x2 y2 st2 en2) : x = x2 ∧ y = y2 ∧ st = st2 ∧ en = en2 := ⟨nuP_one h1.1 h2.1, nmT_one h1.2.2.2 h2.2.2.2⟩
theorem wkTN {f : Nat → Int32} {n p st en st2 : Int} {x y : Int32} (h1 : wkT f n p x y st en) (h2 : wkN f n p st2) : False := by
  rcases h2 with a | ⟨z, _, _, ⟨b, _⟩ | ⟨_, b⟩⟩
  · exact h1.2.1 (nuP_one h1.1 a.1)
  · exact b h1.2.2.1
  · exact nmTN h1.2.2.2 b
theorem wkN_one {f : Nat → Int32} {n p st st2 : Int} (h1 : wkN f n p st) (h2 : wkN f n p st2) : st = st2 := by
  rcases h1 with a | ⟨x, a, a1, b⟩
  · rcases h2 with c | ⟨x2, c, c1, _⟩
    · exact a.2.trans c.2.symm
    · exact absurd (nuP_one c a.1) c1
  · rcases h2 with c | ⟨x2, c, c1, d⟩
    · exact absurd (nuP_one a c.1) a1
    · rcases b with ⟨b, e⟩ | ⟨b, e⟩
      · rcases d with ⟨_, g⟩ | ⟨d, _⟩
        · exact e.trans g.symm
        · exact absurd d b
      · rcases d with ⟨d, _⟩ | ⟨_, g⟩
        · exact absurd b d
        · exact e.2.trans g.2.symm
theorem lnT_one {f : Nat → Int32} {n p st en st2 en2 : Int} {k x y k2 x2 y2 : Int32} (h1 : lnT f n p k x y st en) (h2 : lnT f n p k2 x2 y2 st2 en2) : k = k2 ∧ x = x2 ∧ y = y2 ∧ st = st2 ∧ en = en2 := by
  rcases h1 with ⟨a, b, c⟩ | ⟨a, b, b1, c⟩ | ⟨a, b, b1, c⟩ | ⟨a, b, c⟩ <;> rcases h2 with ⟨d, e, g⟩ | ⟨d, e, e1, g⟩ | ⟨d, e, e1, g⟩ | ⟨d, e, g⟩ <;> first | (exact absurd (a.symm.trans d) (by decide)) | skip
  · exact ⟨b.trans e.symm, rmT_one c g⟩
  · exact ⟨b.trans e.symm, b1.trans e1.symm, nmT_one c g⟩
  · exact ⟨b.trans e.symm, b1.trans e1.symm, nmT_one c g⟩
  · exact ⟨b.trans e.symm, wkT_one c g⟩
theorem lnTN {f : Nat → Int32} {n p st en st2 : Int} {k x y : Int32} (h1 : lnT f n p k x y st en) (h2 : lnN f n p st2) : False := by
  rcases h1 with ⟨a, b, c⟩ | ⟨a, b, b1, c⟩ | ⟨a, b, b1, c⟩ | ⟨a, b, c⟩ <;> rcases h2 with ⟨d, g⟩ | ⟨d, g⟩ | ⟨d, g⟩ | ⟨d, g⟩ | ⟨⟨d1, d2, d3, d4⟩, g⟩ <;> first | (exact absurd (a.symm.trans d) (by decide)) | exact absurd a d1 | exact absurd a d2 | exact absurd a d3 | exact absurd a d4 | skip
  · exact rmTN c g
  · exact nmTN c g
  · exact nmTN c g
  · exact wkTN c g
theorem lnN_one {f : Nat → Int32} {n p st st2 : Int} (h1 : lnN f n p st) (h2 : lnN f n p st2) : st = st2 := by
  rcases h1 with ⟨a, c⟩ | ⟨a, c⟩ | ⟨a, c⟩ | ⟨a, c⟩ | ⟨⟨a1, a2, a3, a4⟩, c⟩ <;> rcases h2 with ⟨d, g⟩ | ⟨d, g⟩ | ⟨d, g⟩ | ⟨d, g⟩ | ⟨⟨d1, d2, d3, d4⟩, g⟩ <;> first | (exact absurd (a.symm.trans d) (by decide)) | exact absurd a d1 | exact absurd a d2 | exact absurd a d3 | exact absurd a d4 | exact absurd d a1 | exact absurd d a2 | exact absurd d a3 | exact absurd d a4 | skip
  · exact rmN_one c g
  · exact c.2.trans g.2.symm
  · exact c.2.trans g.2.symm
  · exact wkN_one c g
  · exact c.trans g.symm
theorem lnT_rg {f : Nat → Int32} {n p st en : Int} {k x y : Int32} (h : lnT f n p k x y st en) (hp : p ≤ n) : p ≤ en ∧ en ≤ n := by
  have r1 := nx_rg (f := f) hp
  have r2 := nx_rg (f := f) r1.2.1
  have r3 := nx_rg (f := f) r2.2.1
  have r4 := nx_rg (f := f) r3.2.1
  rcases h with ⟨_, _, c⟩ | ⟨_, _, _, c⟩ | ⟨_, _, _, c⟩ | ⟨_, _, c⟩
  · rw [c.2.2.2.2.2]; omega
  · rw [c.2.2.2]; omega
  · rw [c.2.2.2]; omega
  · rw [c.2.2.2.2.2.2]; omega
/-- what a LINE of sort s may say -/
def lvOK (s y : Int32) : Prop := (0 ≤ y.toInt ∧ y.toInt ≤ 99) ∧ ((s = 1 ∨ s = 3) → 1 ≤ y.toInt) ∧ ((s = 0 ∨ s = 2) → y.toInt ≤ 8)
theorem lnT_y {f : Nat → Int32} {n p st en : Int} {k x y : Int32} (h : lnT f n p k x y st en) : lvOK k y := by
  rcases h with ⟨_, b, c⟩ | ⟨_, b, _, c⟩ | ⟨_, b, _, c⟩ | ⟨_, b, c⟩
  · rcases nu_rg c.2.2.1 with q | q
    · exact ⟨by omega, fun z => by rw [b] at z; exact absurd z (by decide), fun _ => q.2⟩
    · exact absurd q c.2.2.2.1
  · rcases nu_rg c.1 with q | q
    · exact ⟨by omega, fun _ => q.1, fun z => by rw [b] at z; exact absurd z (by decide)⟩
    · exact absurd q c.2.1
  · rcases nu_rg c.1 with q | q
    · exact ⟨by omega, fun z => by rw [b] at z; exact absurd z (by decide), fun _ => q.2⟩
    · exact absurd q c.2.1
  · rcases nu_rg c.2.2.2.1 with q | q
    · exact ⟨by omega, fun _ => q.1, fun z => by rw [b] at z; exact absurd z (by decide)⟩
    · exact absurd q c.2.2.2.2.1
theorem lnT_v {f : Nat → Int32} {n p st en : Int} {k x y : Int32} (h : lnT f n p k x y st en) : y ≠ -1 ∧ (0 ≤ x.toInt ∧ x.toInt ≤ 7) := by
  rcases h with ⟨_, _, c⟩ | ⟨_, _, b, c⟩ | ⟨_, _, b, c⟩ | ⟨_, _, c⟩
  · refine ⟨c.2.2.2.1, ?_⟩
    rcases nu_rg c.1 with q | q
    · exact q
    · exact absurd q c.2.1
  · exact ⟨c.2.1, by rw [b, Int32.toInt_zero]; omega⟩
  · exact ⟨c.2.1, by rw [b, Int32.toInt_zero]; omega⟩
  · refine ⟨c.2.2.2.2.1, ?_⟩
    rcases nu_rg c.1 with q | q
    · exact q
    · exact absurd q c.2.1
-- THE RULES
def bkU (k x y : Int32) (mo we : Nat → Int32) (ag ap : Int32) (mo' we' : Nat → Int32) (ag' ap' : Int32) : Prop := (k = 0 ∧ mo' = upd mo x.toNatClampNeg y ∧ we' = we ∧ ag' = ag ∧ ap' = ap) ∨ (k = 1 ∧ mo' = mo ∧ we' = we ∧ ag' = y ∧ ap' = ap) ∨ (k = 2 ∧ mo' = mo ∧ we' = we ∧ ag' = ag ∧ ap' = y) ∨ (k = 3 ∧ mo' = mo ∧ we' = upd we x.toNatClampNeg y ∧ ag' = ag ∧ ap' = ap)
def sem (f : Nat → Int32) (n en : Int) : Prop := tS f n en < n ∧ f (tS f n en).toNat = 59
def rdB (f : Nat → Int32) (n : Int) : Nat → Int → (Nat → Int32) → (Nat → Int32) → Int32 → Int32 → Prop
  | 0, p, mo, we, ag, ap => p = 0 ∧ (∀ j, j < 8 → mo j = -1) ∧ (∀ j, j < 8 → we j = -1) ∧ ag = -1 ∧ ap = -1
  | i + 1, p, mo, we, ag, ap => ∃ (q : Int) (mo0 we0 : Nat → Int32) (ag0 ap0 k x y : Int32) (st en : Int), rdB f n i q mo0 we0 ag0 ap0 ∧ lnT f n q k x y st en ∧ sem f n en ∧ p = nx f n en ∧ bkU k x y mo0 we0 ag0 ap0 mo we ag ap
def rdM (f : Nat → Int32) (n : Int) : Nat → Int → (Nat → Int32) → Prop
  | 0, p, _ => p = 0
  | i + 1, p, r => ∃ (q : Int) (k x y : Int32) (st en : Int), rdM f n i q r ∧ lnT f n q k x y st en ∧ sem f n en ∧ p = nx f n en ∧ r (3 * i) = k ∧ r (3 * i + 1) = x ∧ r (3 * i + 2) = y
theorem rdM_same {f : Nat → Int32} {n : Int} {r r2 : Nat → Int32} : ∀ (i : Nat) (p : Int), (∀ j : Nat, j < 3 * i → r2 j = r j) → rdM f n i p r → rdM f n i p r2
  | 0, _, _, h => h
  | i + 1, p, e, ⟨q, k, x, y, st, en, a, b, c, d, e1, e2, e3⟩ => ⟨q, k, x, y, st, en, rdM_same i q (fun j hj => e j (by omega)) a, b, c, d, by rw [e _ (by omega)]; exact e1, by rw [e _ (by omega)]; exact e2, by rw [e _ (by omega)]; exact e3⟩
/-- what the last LINE of a sort says, among the first i -/
def laF (r : Nat → Int32) (so ro wi : Int32) : Nat → Int32
  | 0 => wi
  | k + 1 => if r (3 * k) = so ∧ r (3 * k + 1) = ro then r (3 * k + 2) else laF r so ro wi k
def bkL (mo we : Nat → Int32) (ag ap : Int32) (r : Nat → Int32) (i : Nat) : Prop := (∀ j : Nat, j < 8 → mo j = laF r 0 (nI j) (-1) i) ∧ (∀ j : Nat, j < 8 → we j = laF r 3 (nI j) (-1) i) ∧ ag = laF r 1 0 (-1) i ∧ ap = laF r 2 0 (-1) i ∧ ∀ k : Nat, k < i → lvOK (r (3 * k)) (r (3 * k + 2))
theorem bk_step {f r mo we mo' we' : Nat → Int32} {n p st en : Int} {ag ap ag' ap' k x y : Int32} {i : Nat} (h : bkL mo we ag ap r i) (t : lnT f n p k x y st en) (u : bkU k x y mo we ag ap mo' we' ag' ap') (e1 : r (3 * i) = k) (e2 : r (3 * i + 1) = x) (e3 : r (3 * i + 2) = y) : bkL mo' we' ag' ap' r (i + 1) := by
  have xr := (lnT_v t).2
  have x0 : k = 1 ∨ k = 2 → x = 0 := by
    intro z
    rcases t with ⟨_, b, _⟩ | ⟨_, b, b1, _⟩ | ⟨_, b, b1, _⟩ | ⟨_, b, _⟩
    · rw [b] at z; exact absurd z (by decide)
    · exact b1
    · exact b1
    · rw [b] at z; exact absurd z (by decide)
  have hit : ∀ so ro : Int32, k = so → x = ro → laF r so ro (-1) (i + 1) = y := by
    intro so ro a b
    show (if r (3 * i) = so ∧ r (3 * i + 1) = ro then r (3 * i + 2) else laF r so ro (-1) i) = y
    rw [if_pos ⟨e1.trans a, e2.trans b⟩, e3]
  have mis : ∀ so ro : Int32, ¬ (k = so ∧ x = ro) → laF r so ro (-1) (i + 1) = laF r so ro (-1) i := by
    intro so ro a
    show (if r (3 * i) = so ∧ r (3 * i + 1) = ro then r (3 * i + 2) else laF r so ro (-1) i) = laF r so ro (-1) i
    rw [if_neg (fun z => a ⟨e1.symm.trans z.1, e2.symm.trans z.2⟩)]
  have xn : ∀ j : Nat, j < 8 → (x = nI j ↔ j = x.toNatClampNeg) := by
    intro j hj
    have cx := clC (x := x) rfl
    refine ⟨fun z => ?_, fun z => ?_⟩
    · rw [z, nI_clamp (by omega)]
    · rw [z, cx]; exact (nI_toNat xr.1).symm
  obtain ⟨h1, h2, h3, h4, h5⟩ := h
  have n5 : ∀ k : Nat, k < i + 1 → lvOK (r (3 * k)) (r (3 * k + 2)) := by
    intro q hq
    by_cases c : q = i
    · subst c; rw [e1, e3]; exact lnT_y t
    · exact h5 q (by omega)
  rcases u with ⟨b, u1, u2, u3, u4⟩ | ⟨b, u1, u2, u3, u4⟩ | ⟨b, u1, u2, u3, u4⟩ | ⟨b, u1, u2, u3, u4⟩
  · refine ⟨fun j hj => ?_, fun j hj => ?_, ?_, ?_, n5⟩
    · rw [u1]
      by_cases c : j = x.toNatClampNeg
      · rw [hit 0 (nI j) b ((xn j hj).mpr c), c, pk_us]
      · rw [mis 0 (nI j) (fun z => c ((xn j hj).mp z.2)), pk_un c]; exact h1 j hj
    · rw [u2, mis 3 (nI j) (fun z => by rw [b] at z; exact absurd z.1 (by decide))]; exact h2 j hj
    · rw [u3, mis 1 0 (fun z => by rw [b] at z; exact absurd z.1 (by decide))]; exact h3
    · rw [u4, mis 2 0 (fun z => by rw [b] at z; exact absurd z.1 (by decide))]; exact h4
  · refine ⟨fun j hj => ?_, fun j hj => ?_, ?_, ?_, n5⟩
    · rw [u1, mis 0 (nI j) (fun z => by rw [b] at z; exact absurd z.1 (by decide))]; exact h1 j hj
    · rw [u2, mis 3 (nI j) (fun z => by rw [b] at z; exact absurd z.1 (by decide))]; exact h2 j hj
    · rw [u3, hit 1 0 b (x0 (.inl b))]
    · rw [u4, mis 2 0 (fun z => by rw [b] at z; exact absurd z.1 (by decide))]; exact h4
  · refine ⟨fun j hj => ?_, fun j hj => ?_, ?_, ?_, n5⟩
    · rw [u1, mis 0 (nI j) (fun z => by rw [b] at z; exact absurd z.1 (by decide))]; exact h1 j hj
    · rw [u2, mis 3 (nI j) (fun z => by rw [b] at z; exact absurd z.1 (by decide))]; exact h2 j hj
    · rw [u3, mis 1 0 (fun z => by rw [b] at z; exact absurd z.1 (by decide))]; exact h3
    · rw [u4, hit 2 0 b (x0 (.inr b))]
  · refine ⟨fun j hj => ?_, fun j hj => ?_, ?_, ?_, n5⟩
    · rw [u1, mis 0 (nI j) (fun z => by rw [b] at z; exact absurd z.1 (by decide))]; exact h1 j hj
    · rw [u2]
      by_cases c : j = x.toNatClampNeg
      · rw [hit 3 (nI j) b ((xn j hj).mpr c), c, pk_us]
      · rw [mis 3 (nI j) (fun z => c ((xn j hj).mp z.2)), pk_un c]; exact h2 j hj
    · rw [u3, mis 1 0 (fun z => by rw [b] at z; exact absurd z.1 (by decide))]; exact h3
    · rw [u4, mis 2 0 (fun z => by rw [b] at z; exact absurd z.1 (by decide))]; exact h4
theorem rd_rel {f : Nat → Int32} {n : Int} {r : Nat → Int32} : ∀ (i : Nat) (p p2 : Int) (mo we : Nat → Int32) (ag ap : Int32), rdB f n i p mo we ag ap → rdM f n i p2 r → p = p2 ∧ bkL mo we ag ap r i
  | 0, p, p2, mo, we, ag, ap, ⟨a, b, c, d, e⟩, h => ⟨a.trans h.symm, b, c, d, e, fun k hk => absurd hk (Nat.not_lt_zero _)⟩
  | i + 1, p, p2, mo, we, ag, ap, ⟨q, mo0, we0, ag0, ap0, k, x, y, st, en, a, b, c, d, e⟩, ⟨q2, k2, x2, y2, st2, en2, a2, b2, c2, d2, e1, e2, e3⟩ => by
    obtain ⟨rfl, L⟩ := rd_rel i q q2 mo0 we0 ag0 ap0 a a2
    obtain ⟨rfl, rfl, rfl, rfl, rfl⟩ := lnT_one b b2
    exact ⟨d.trans d2.symm, bk_step L b e e1 e2 e3⟩
/-- the outcome of a reading: the class's -/
def roC (f : Nat → Int32) (n : Int) (r : Int32) (mo we : Nat → Int32) (ag ap li : Int32) : Prop := ∃ (i : Nat) (p : Int) (mo0 we0 : Nat → Int32) (ag0 ap0 : Int32), i < 10 ∧ rdB f n i p mo0 we0 ag0 ap0 ∧ (lnN f n p r.toInt ∨ (∃ (k x y : Int32) (st en : Int), lnT f n p k x y st en ∧ ((tS f n en = n ∧ r = -1 ∧ bkU k x y mo0 we0 ag0 ap0 mo we ag ap ∧ li = nI (i + 1)) ∨ (tS f n en < n ∧ (f (tS f n en).toNat ≠ 59 ∨ i = 9) ∧ r.toInt = tS f n en))))
/-- the model's: b is 1 where it is read, fa the place of the FAULT else -/
def roM (f : Nat → Int32) (n : Int) (b fa : Int32) (r : Nat → Int32) (m : Int32) : Prop := ∃ (i : Nat) (p : Int), i < 10 ∧ rdM f n i p r ∧ ((lnN f n p fa.toInt ∧ b = 0) ∨ (∃ (k x y : Int32) (st en : Int), lnT f n p k x y st en ∧ ((tS f n en = n ∧ b = 1 ∧ r (3 * i) = k ∧ r (3 * i + 1) = x ∧ r (3 * i + 2) = y ∧ m = nI (i + 1)) ∨ (tS f n en < n ∧ (f (tS f n en).toNat ≠ 59 ∨ i = 9) ∧ fa.toInt = tS f n en ∧ b = 0))))
theorem rdB_pre {f : Nat → Int32} {n : Int} : ∀ (j i : Nat) (p : Int) (mo we : Nat → Int32) (ag ap : Int32), rdB f n i p mo we ag ap → j < i → ∃ (q : Int) (mo0 we0 : Nat → Int32) (ag0 ap0 k x y : Int32) (st en : Int), rdB f n j q mo0 we0 ag0 ap0 ∧ lnT f n q k x y st en ∧ sem f n en
  | j, 0, _, _, _, _, _, _, h => absurd h (Nat.not_lt_zero _)
  | j, i + 1, p, mo, we, ag, ap, ⟨q, mo0, we0, ag0, ap0, k, x, y, st, en, a, b, c, _, _⟩, h => by
    by_cases e : j = i
    · subst e; exact ⟨q, mo0, we0, ag0, ap0, k, x, y, st, en, a, b, c⟩
    · exact rdB_pre j i q mo0 we0 ag0 ap0 a (by omega)
theorem rdM_pre {f : Nat → Int32} {n : Int} {r : Nat → Int32} : ∀ (j i : Nat) (p : Int), rdM f n i p r → j < i → ∃ (q : Int) (k x y : Int32) (st en : Int), rdM f n j q r ∧ lnT f n q k x y st en ∧ sem f n en
  | j, 0, _, _, h => absurd h (Nat.not_lt_zero _)
  | j, i + 1, p, ⟨q, k, x, y, st, en, a, b, c, _, _, _, _⟩, h => by
    by_cases e : j = i
    · subst e; exact ⟨q, k, x, y, st, en, a, b, c⟩
    · exact rdM_pre j i q a (by omega)
theorem ro_rel {f : Nat → Int32} {n : Int} {r b fa m ag ap li : Int32} {mo we R : Nat → Int32} (h1 : roC f n r mo we ag ap li) (h2 : roM f n b fa R m) : (b = 1 ∧ r = -1 ∧ li = m ∧ ∃ i : Nat, i < 10 ∧ m = nI (i + 1) ∧ bkL mo we ag ap R (i + 1)) ∨ (b = 0 ∧ r = fa) := by
  obtain ⟨i, p, mo0, we0, ag0, ap0, hi, B, o1⟩ := h1
  obtain ⟨j, p2, hj, Mm, o2⟩ := h2
  have eij : i = j := by
    rcases Nat.lt_trichotomy i j with c | c | c
    · exfalso
      obtain ⟨q, k, x, y, st, en, a, t, s⟩ := rdM_pre i j p2 Mm c
      obtain ⟨rfl, -⟩ := rd_rel i p q mo0 we0 ag0 ap0 B a
      rcases o1 with o1 | ⟨k2, x2, y2, st2, en2, t2, o1⟩
      · exact lnTN t o1
      · obtain ⟨-, -, -, -, rfl⟩ := lnT_one t t2
        rcases o1 with ⟨z, _⟩ | ⟨_, z, _⟩
        · have := s.1; omega
        · rcases z with z | z
          · exact z s.2
          · omega
    · exact c
    · exfalso
      obtain ⟨q, mo1, we1, ag1, ap1, k, x, y, st, en, a, t, s⟩ := rdB_pre j i p mo0 we0 ag0 ap0 B c
      obtain ⟨rfl, -⟩ := rd_rel j q p2 mo1 we1 ag1 ap1 a Mm
      rcases o2 with ⟨o2, _⟩ | ⟨k2, x2, y2, st2, en2, t2, o2⟩
      · exact lnTN t o2
      · obtain ⟨-, -, -, -, rfl⟩ := lnT_one t t2
        rcases o2 with ⟨z, _⟩ | ⟨_, z, _⟩
        · have := s.1; omega
        · rcases z with z | z
          · exact z s.2
          · omega
  subst eij
  obtain ⟨rfl, L⟩ := rd_rel i p p2 mo0 we0 ag0 ap0 B Mm
  rcases o1 with o1 | ⟨k, x, y, st, en, t, o1⟩
  · rcases o2 with ⟨o2, b0⟩ | ⟨k2, x2, y2, st2, en2, t2, o2⟩
    · exact .inr ⟨b0, Int32.toInt_inj.mp (lnN_one o1 o2)⟩
    · exact (lnTN t2 o1).elim
  · rcases o2 with ⟨o2, b0⟩ | ⟨k2, x2, y2, st2, en2, t2, o2⟩
    · exact (lnTN t o2).elim
    · obtain ⟨rfl, rfl, rfl, rfl, rfl⟩ := lnT_one t t2
      rcases o1 with ⟨z, r1, u, l1⟩ | ⟨z, z1, r1⟩
      · rcases o2 with ⟨_, b1, e1, e2, e3, m1⟩ | ⟨w, _⟩
        · exact .inl ⟨b1, r1, l1.trans m1.symm, i, hi, m1, bk_step L t u e1 e2 e3⟩
        · omega
      · rcases o2 with ⟨w, _⟩ | ⟨_, _, f1, b0⟩
        · omega
        · exact .inr ⟨b0, Int32.toInt_inj.mp (r1.trans f1.symm)⟩
-- rows for the readers
theorem ln_room {f : Nat → Int32} {n p a e st en : Int} {x y : Int32} (h1 : a = tS f n p) (h2 : e = tE f n a) (h0 : 0 ≤ a) (hn : a ≤ n) (w : wdP f a e (lenS.getD 0 0) (fS 0)) (h : rmT f n e x y st en) : lnT f n p 0 x y st en := by
  have e2 := nx_of h1 h2
  have t := (wd_iff (by decide) h0 hn h2).mp w
  rw [h1, e2] at t; rw [e2] at h
  exact .inl ⟨t, rfl, h⟩
theorem ln_roomN {f : Nat → Int32} {n p a e st : Int} (h1 : a = tS f n p) (h2 : e = tE f n a) (h0 : 0 ≤ a) (hn : a ≤ n) (w : wdP f a e (lenS.getD 0 0) (fS 0)) (h : rmN f n e st) : lnN f n p st := by
  have e2 := nx_of h1 h2
  have t := (wd_iff (by decide) h0 hn h2).mp w
  rw [h1, e2] at t; rw [e2] at h
  exact .inl ⟨t, h⟩
theorem ln_again {f : Nat → Int32} {n p a e st en : Int} {y : Int32} (h1 : a = tS f n p) (h2 : e = tE f n a) (h0 : 0 ≤ a) (hn : a ≤ n) (w : wdP f a e (lenS.getD 1 0) (fS 1)) (u : nuP f n e 1 99 y) (hy : ¬ y = -1) (s1 : st = tS f n e) (s2 : en = nx f n e) : lnT f n p 1 0 y st en := by
  have e2 := nx_of h1 h2
  have t := (wd_iff (by decide) h0 hn h2).mp w
  rw [h1, e2] at t; rw [e2] at u s1 s2
  exact .inr (.inl ⟨t, rfl, rfl, u, hy, s1, s2⟩)
theorem ln_againN {f : Nat → Int32} {n p a e st : Int} {y : Int32} (h1 : a = tS f n p) (h2 : e = tE f n a) (h0 : 0 ≤ a) (hn : a ≤ n) (w : wdP f a e (lenS.getD 1 0) (fS 1)) (u : nuP f n e 1 99 y) (hy : y = -1) (s1 : st = tS f n e) : lnN f n p st := by
  have e2 := nx_of h1 h2
  have t := (wd_iff (by decide) h0 hn h2).mp w
  rw [h1, e2] at t; rw [e2] at u s1; subst hy
  exact .inr (.inl ⟨t, u, s1⟩)
theorem ln_apart {f : Nat → Int32} {n p a e st en : Int} {y : Int32} (h1 : a = tS f n p) (h2 : e = tE f n a) (h0 : 0 ≤ a) (hn : a ≤ n) (w : wdP f a e (lenS.getD 2 0) (fS 2)) (u : nuP f n e 0 8 y) (hy : ¬ y = -1) (s1 : st = tS f n e) (s2 : en = nx f n e) : lnT f n p 2 0 y st en := by
  have e2 := nx_of h1 h2
  have t := (wd_iff (by decide) h0 hn h2).mp w
  rw [h1, e2] at t; rw [e2] at u s1 s2
  exact .inr (.inr (.inl ⟨t, rfl, rfl, u, hy, s1, s2⟩))
theorem ln_apartN {f : Nat → Int32} {n p a e st : Int} {y : Int32} (h1 : a = tS f n p) (h2 : e = tE f n a) (h0 : 0 ≤ a) (hn : a ≤ n) (w : wdP f a e (lenS.getD 2 0) (fS 2)) (u : nuP f n e 0 8 y) (hy : y = -1) (s1 : st = tS f n e) : lnN f n p st := by
  have e2 := nx_of h1 h2
  have t := (wd_iff (by decide) h0 hn h2).mp w
  rw [h1, e2] at t; rw [e2] at u s1; subst hy
  exact .inr (.inr (.inl ⟨t, u, s1⟩))
theorem ln_walk {f : Nat → Int32} {n p a e st en : Int} {x y : Int32} (h1 : a = tS f n p) (h2 : e = tE f n a) (h0 : 0 ≤ a) (hn : a ≤ n) (w : wdP f a e (lenS.getD 3 0) (fS 3)) (h : wkT f n e x y st en) : lnT f n p 3 x y st en := by
  have e2 := nx_of h1 h2
  have t := (wd_iff (by decide) h0 hn h2).mp w
  rw [h1, e2] at t; rw [e2] at h
  exact .inr (.inr (.inr ⟨t, rfl, h⟩))
theorem ln_walkN {f : Nat → Int32} {n p a e st : Int} (h1 : a = tS f n p) (h2 : e = tE f n a) (h0 : 0 ≤ a) (hn : a ≤ n) (w : wdP f a e (lenS.getD 3 0) (fS 3)) (h : wkN f n e st) : lnN f n p st := by
  have e2 := nx_of h1 h2
  have t := (wd_iff (by decide) h0 hn h2).mp w
  rw [h1, e2] at t; rw [e2] at h
  exact .inr (.inr (.inr (.inl ⟨t, h⟩)))
theorem ln_none {f : Nat → Int32} {n p a e st : Int} (h1 : a = tS f n p) (h2 : e = tE f n a) (h0 : 0 ≤ a) (hn : a ≤ n) (w0 : ¬ wdP f a e (lenS.getD 0 0) (fS 0)) (w1 : ¬ wdP f a e (lenS.getD 1 0) (fS 1)) (w2 : ¬ wdP f a e (lenS.getD 2 0) (fS 2)) (w3 : ¬ wdP f a e (lenS.getD 3 0) (fS 3)) (s1 : st = a) : lnN f n p st := by
  have e2 := nx_of h1 h2
  have t0 := fun z => w0 ((wd_iff (by decide) h0 hn h2).mpr z)
  have t1 := fun z => w1 ((wd_iff (by decide) h0 hn h2).mpr z)
  have t2 := fun z => w2 ((wd_iff (by decide) h0 hn h2).mpr z)
  have t3 := fun z => w3 ((wd_iff (by decide) h0 hn h2).mpr z)
  rw [h1, e2] at t0 t1 t2 t3
  exact .inr (.inr (.inr (.inr ⟨⟨t0, t1, t2, t3⟩, s1.trans h1⟩)))
theorem rm_yes {f : Nat → Int32} {n p e st en : Int} {x y : Int32} (u : nuP f n p 0 7 x) (hx : ¬ x = -1) (e1 : e = nx f n p) (v : nuP f n e 0 8 y) (hy : ¬ y = -1) (s1 : st = tS f n e) (s2 : en = nx f n e) : rmT f n p x y st en := by
  subst e1; exact ⟨u, hx, v, hy, s1, s2⟩
theorem rm_n1 {f : Nat → Int32} {n p st : Int} {x : Int32} (u : nuP f n p 0 7 x) (hx : x = -1) (s1 : st = tS f n p) : rmN f n p st := by subst hx; exact .inl ⟨u, s1⟩
theorem rm_n2 {f : Nat → Int32} {n p e st : Int} {x y : Int32} (u : nuP f n p 0 7 x) (hx : ¬ x = -1) (e1 : e = nx f n p) (v : nuP f n e 0 8 y) (hy : y = -1) (s1 : st = tS f n e) : rmN f n p st := by
  subst e1; subst hy; exact .inr ⟨x, u, hx, v, s1⟩
theorem wk_yes {f : Nat → Int32} {n p e a e2 st en : Int} {x y : Int32} (u : nuP f n p 0 7 x) (hx : ¬ x = -1) (e1 : e = nx f n p) (a1 : a = tS f n e) (a2 : e2 = tE f n a) (a0 : 0 ≤ a) (an : a ≤ n) (w : wdP f a e2 (lenS.getD 4 0) (fS 4)) (v : nuP f n e2 1 99 y) (hy : ¬ y = -1) (s1 : st = tS f n e2) (s2 : en = nx f n e2) : wkT f n p x y st en := by
  have e3 := nx_of a1 a2
  have t := (wd_iff (by decide) a0 an a2).mp w
  rw [a1, e3] at t; rw [e3] at v s1 s2; subst e1
  exact ⟨u, hx, t, v, hy, s1, s2⟩
theorem wk_n1 {f : Nat → Int32} {n p st : Int} {x : Int32} (u : nuP f n p 0 7 x) (hx : x = -1) (s1 : st = tS f n p) : wkN f n p st := by subst hx; exact .inl ⟨u, s1⟩
theorem wk_n2 {f : Nat → Int32} {n p e a e2 st : Int} {x : Int32} (u : nuP f n p 0 7 x) (hx : ¬ x = -1) (e1 : e = nx f n p) (a1 : a = tS f n e) (a2 : e2 = tE f n a) (a0 : 0 ≤ a) (an : a ≤ n) (w : ¬ wdP f a e2 (lenS.getD 4 0) (fS 4)) (s1 : st = a) : wkN f n p st := by
  have e3 := nx_of a1 a2
  have t := fun z => w ((wd_iff (by decide) a0 an a2).mpr z)
  rw [a1, e3] at t; subst e1
  exact .inr ⟨x, u, hx, .inl ⟨t, s1.trans a1⟩⟩
theorem wk_n3 {f : Nat → Int32} {n p e a e2 st : Int} {x y : Int32} (u : nuP f n p 0 7 x) (hx : ¬ x = -1) (e1 : e = nx f n p) (a1 : a = tS f n e) (a2 : e2 = tE f n a) (a0 : 0 ≤ a) (an : a ≤ n) (w : wdP f a e2 (lenS.getD 4 0) (fS 4)) (v : nuP f n e2 1 99 y) (hy : y = -1) (s1 : st = tS f n e2) : wkN f n p st := by
  have e3 := nx_of a1 a2
  have t := (wd_iff (by decide) a0 an a2).mp w
  rw [a1, e3] at t; rw [e3] at v s1; subst e1; subst hy
  exact .inr ⟨x, u, hx, .inr ⟨t, v, s1⟩⟩
-- the class's reading
theorem rb_init {f mo we : Nat → Int32} {n p : Int} {ag ap : Int32} {i : Nat} (hp : p = 0) (h1 : ∀ j, j < 8 → mo j = -1) (h2 : ∀ j, j < 8 → we j = -1) (h3 : ag = -1) (h4 : ap = -1) (hi : i = 0) : rdB f n i p mo we ag ap := by subst hi; exact ⟨hp, h1, h2, h3, h4⟩
def lnE (f : Nat → Int32) (n p st en : Int) (mo we : Nat → Int32) (ag ap : Int32) (mo' we' : Nat → Int32) (ag' ap' : Int32) : Prop := ∃ k x y : Int32, lnT f n p k x y st en ∧ bkU k x y mo we ag ap mo' we' ag' ap'
theorem rb_step {f mo we mo' we' : Nat → Int32} {n p st en a e : Int} {ag ap ag' ap' : Int32} {i i' : Nat} (q : rdB f n i p mo we ag ap) (h : lnE f n p st en mo we ag ap mo' we' ag' ap') (a1 : a = tS f n en) (a2 : e = tE f n a) (an : a < n) (s : (f a.toNat).toInt = 59) (hi : i' = i + 1) : rdB f n i' e mo' we' ag' ap' := by
  obtain ⟨k, x, y, t, u⟩ := h
  subst hi
  have e2 := nx_of a1 a2
  subst a1
  exact ⟨p, mo, we, ag, ap, k, x, y, st, en, q, t, ⟨an, Int32.toInt_inj.mp s⟩, e2, u⟩
theorem ro_n {f mo we mo' we' : Nat → Int32} {n p : Int} {ag ap ag' ap' li r : Int32} {i : Nat} (q : rdB f n i p mo we ag ap) (hi : i < 10) (h : lnN f n p r.toInt) : roC f n r mo' we' ag' ap' li := ⟨i, p, mo, we, ag, ap, hi, q, .inl h⟩
theorem ro_ok {f mo we mo' we' : Nat → Int32} {n p st en a : Int} {ag ap ag' ap' li r : Int32} {i : Nat} (q : rdB f n i p mo we ag ap) (hi : i < 10) (h : lnE f n p st en mo we ag ap mo' we' ag' ap') (a1 : a = tS f n en) (an : a ≤ n) (s : n ≤ a) (hr : r = -1) (hl : li = nI (i + 1)) : roC f n r mo' we' ag' ap' li := by
  obtain ⟨k, x, y, t, u⟩ := h
  exact ⟨i, p, mo, we, ag, ap, hi, q, .inr ⟨k, x, y, st, en, t, .inl ⟨by omega, hr, u, hl⟩⟩⟩
theorem ro_f {f mo we mo1 we1 mo' we' : Nat → Int32} {n p st en a : Int} {ag ap ag1 ap1 ag' ap' li r : Int32} {i : Nat} (q : rdB f n i p mo we ag ap) (hi : i < 10) (h : lnE f n p st en mo we ag ap mo1 we1 ag1 ap1) (a1 : a = tS f n en) (an : a < n) (s : (f a.toNat).toInt ≠ 59 ∨ i = 9) (hr : r.toInt = a) : roC f n r mo' we' ag' ap' li := by
  obtain ⟨k, x, y, t, u⟩ := h
  subst a1
  exact ⟨i, p, mo, we, ag, ap, hi, q, .inr ⟨k, x, y, st, en, t, .inr ⟨an, s.imp (fun z w => z (by rw [w]; rfl)) id, hr⟩⟩⟩
def roX (f : Nat → Int32) (n t : Int) : Prop := ∀ (r : Int32) (mo we : Nat → Int32) (ag ap li : Int32), r.toInt = t → roC f n r mo we ag ap li
theorem rx_step {f mo we mo1 we1 : Nat → Int32} {n p st en a z : Int} {ag ap ag1 ap1 : Int32} {i : Nat} (q : rdB f n i p mo we ag ap) (hi : i < 10) (h : lnE f n p st en mo we ag ap mo1 we1 ag1 ap1) (a1 : a = tS f n en) (an : a < n) (hz : z = (i : Int) + 1) : z ≤ 9 ∨ roX f n a := by
  by_cases c : i = 9
  · exact .inr (fun r mo' we' ag' ap' li hr => ro_f q hi h a1 an (.inr c) hr)
  · exact .inl (by omega)
theorem nI_s : ∀ k, k < 30 → nI (k + 1) = nI k + 1 := by decide +kernel
theorem li_0 {l : Int32} {k : Nat} (h : l = 0) (hk : k = 0) : l = nI k := by subst hk; exact h
theorem li_s {l x : Int32} {k k' : Nat} (h : l = nI k) (e : x = l + 1) (hk : k < 30) (hk' : k' = k + 1) : x = nI k' := by subst hk'; rw [nI_s k hk, ← h]; exact e
def spFltC (f : Nat → Int32) (len r : Int32) : Prop := ∃ (mo we : Nat → Int32) (ag ap li : Int32), roC f len.toInt r mo we ag ap li
def spRulC (f : Nat → Int32) (len : Int32) (mo we : Nat → Int32) (ag ap li r len' : Int32) (mo' we' : Nat → Int32) (ag' ap' li' : Int32) : Prop := ((∃ q : Int32, spFltC f len q ∧ q ≠ -1) ∧ r = -4 ∧ len' = len ∧ mo' = mo ∧ we' = we ∧ ag' = ag ∧ ap' = ap ∧ li' = li) ∨ (roC f len.toInt (-1) mo' we' ag' ap' li' ∧ r = li' ∧ len' = 0)
theorem la_wi {r : Nat → Int32} {so ro wi : Int32} : ∀ i : Nat, (∀ k : Nat, k < i → lvOK (r (3 * k)) (r (3 * k + 2))) → (laF r so ro (-1) i = -1 ∧ laF r so ro wi i = wi) ∨ (laF r so ro wi i = laF r so ro (-1) i ∧ lvOK so (laF r so ro (-1) i))
  | 0, _ => .inl ⟨rfl, rfl⟩
  | k + 1, h => by
    show ((if r (3 * k) = so ∧ r (3 * k + 1) = ro then r (3 * k + 2) else laF r so ro (-1) k) = -1 ∧ (if r (3 * k) = so ∧ r (3 * k + 1) = ro then r (3 * k + 2) else laF r so ro wi k) = wi) ∨ ((if r (3 * k) = so ∧ r (3 * k + 1) = ro then r (3 * k + 2) else laF r so ro wi k) = (if r (3 * k) = so ∧ r (3 * k + 1) = ro then r (3 * k + 2) else laF r so ro (-1) k) ∧ lvOK so (if r (3 * k) = so ∧ r (3 * k + 1) = ro then r (3 * k + 2) else laF r so ro (-1) k))
    by_cases c : r (3 * k) = so ∧ r (3 * k + 1) = ro
    · rw [if_pos c, if_pos c]
      have := h k (by omega)
      rw [c.1] at this
      exact .inr ⟨rfl, this⟩
    · rw [if_neg c, if_neg c]; exact la_wi k (fun q hq => h q (by omega))
theorem ne_m1 {v : Int32} (h : v.toInt ≠ -1) : ¬ v = -1 := fun q => by rw [q] at h; exact h rfl
theorem eq_m1 {v : Int32} (h : v.toInt = -1) : v = -1 := Int32.toInt_inj.mp h
theorem le_room {f mo we mo' : Nat → Int32} {n p a e st en : Int} {ag ap : Int32} (h1 : a = tS f n p) (h2 : e = tE f n a) (h0 : 0 ≤ a) (hn : a ≤ n) (w : wdP f a e (lenS.getD 0 0) (fS 0)) (h : ∃ x y : Int32, rmT f n e x y st en ∧ mo' = upd mo x.toNatClampNeg y) : lnE f n p st en mo we ag ap mo' we ag ap := by
  obtain ⟨x, y, t, u⟩ := h
  exact ⟨0, x, y, ln_room h1 h2 h0 hn w t, Or.inl ⟨rfl, u, rfl, rfl, rfl⟩⟩
theorem le_walk {f mo we we' : Nat → Int32} {n p a e st en : Int} {ag ap : Int32} (h1 : a = tS f n p) (h2 : e = tE f n a) (h0 : 0 ≤ a) (hn : a ≤ n) (w : wdP f a e (lenS.getD 3 0) (fS 3)) (h : ∃ x y : Int32, wkT f n e x y st en ∧ we' = upd we x.toNatClampNeg y) : lnE f n p st en mo we ag ap mo we' ag ap := by
  obtain ⟨x, y, t, u⟩ := h
  exact ⟨3, x, y, ln_walk h1 h2 h0 hn w t, Or.inr (Or.inr (Or.inr ⟨rfl, rfl, u, rfl, rfl⟩))⟩
theorem ro_cast {f mo we : Nat → Int32} {n : Int} {r ag ap li : Int32} (h : roC f n r mo we ag ap li) (e : r = -1) : roC f n (-1) mo we ag ap li := e ▸ h
abbrev wMdT (cI cZ cQ : ClassId) (b : Nat → Nat) (mday : Int32) (mdoo : Int32) (mtel : Int32) (mgai : Int32) (mbyt : Int32) (mtxt : Nat → Int32) (mpos : Int32) (mtka : Int32) (mtok : Int64) (mdig : Int32) (mnum : Int32) (mfau : Int32) (mrdm : Int32) (mlin : Int32) (mbsm : Int32) : va_W := [((b 39), .inr (10, [.int mday, .int mdoo, .ref (b 2), .ref (b 3), .ref (b 4), .ref (b 5), .int mtel, .int mgai, .ref (b 8), .ref (b 9), .ref (b 10), .ref (b 11), .ref (b 12), .ref (b 13), .ref (b 14), .ref (b 15), .ref (b 16), .ref (b 17), .ref (b 18), .int mbyt, .ref (b 20), .int mpos, .int mtka, .long mtok, .int mdig, .int mnum, .int mfau, .int mrdm, .ref (b 28), .int mlin, .ref (b 30), .ref (b 31), .ref (b 32), .ref (b 33), .int mbsm, .ref (b 35), .ref (b 36), .ref (b 37), .ref (b 38)])), ((b 20), .inl (cI, 160, .inl mtxt))]
abbrev wMdR (cI cZ cQ : ClassId) (b : Nat → Nat) (mday : Int32) (mdoo : Int32) (mtel : Int32) (mgai : Int32) (mbyt : Int32) (mtxt : Nat → Int32) (mpos : Int32) (mtka : Int32) (mtok : Int64) (mdig : Int32) (mnum : Int32) (mfau : Int32) (mrdm : Int32) (mrea : Nat → Int32) (mlin : Int32) (mbsm : Int32) : va_W := [((b 39), .inr (10, [.int mday, .int mdoo, .ref (b 2), .ref (b 3), .ref (b 4), .ref (b 5), .int mtel, .int mgai, .ref (b 8), .ref (b 9), .ref (b 10), .ref (b 11), .ref (b 12), .ref (b 13), .ref (b 14), .ref (b 15), .ref (b 16), .ref (b 17), .ref (b 18), .int mbyt, .ref (b 20), .int mpos, .int mtka, .long mtok, .int mdig, .int mnum, .int mfau, .int mrdm, .ref (b 28), .int mlin, .ref (b 30), .ref (b 31), .ref (b 32), .ref (b 33), .int mbsm, .ref (b 35), .ref (b 36), .ref (b 37), .ref (b 38)])), ((b 20), .inl (cI, 160, .inl mtxt)), ((b 28), .inl (cI, 30, .inl mrea))]
abbrev wMdL (cI cZ cQ : ClassId) (b : Nat → Nat) (mday : Int32) (mdoo : Int32) (mtel : Int32) (mgai : Int32) (mbyt : Int32) (mtxt : Nat → Int32) (mpos : Int32) (mtka : Int32) (mtok : Int64) (mdig : Int32) (mnum : Int32) (mfau : Int32) (mrdm : Int32) (mrea : Nat → Int32) (mlin : Int32) (mlne : Nat → Int32) (mbsm : Int32) : va_W := [((b 39), .inr (10, [.int mday, .int mdoo, .ref (b 2), .ref (b 3), .ref (b 4), .ref (b 5), .int mtel, .int mgai, .ref (b 8), .ref (b 9), .ref (b 10), .ref (b 11), .ref (b 12), .ref (b 13), .ref (b 14), .ref (b 15), .ref (b 16), .ref (b 17), .ref (b 18), .int mbyt, .ref (b 20), .int mpos, .int mtka, .long mtok, .int mdig, .int mnum, .int mfau, .int mrdm, .ref (b 28), .int mlin, .ref (b 30), .ref (b 31), .ref (b 32), .ref (b 33), .int mbsm, .ref (b 35), .ref (b 36), .ref (b 37), .ref (b 38)])), ((b 20), .inl (cI, 160, .inl mtxt)), ((b 28), .inl (cI, 30, .inl mrea)), ((b 30), .inl (cI, 30, .inl mlne))]
def spEra (len r len' : Int32) : Prop := r = len ∧ len' = 0
def byV (so : Int64) (i : Int32) : Int32 := ((so >>> ((8 * i).toInt64 &&& 63)) &&& 255).toInt32
def wrF (f : Nat → Int32) (l : Int) (so : Int64) : Nat → Nat → Int32
  | 0 => f
  | k + 1 => upd (wrF f l so k) (l + k).toNat (byV so (nI k))
theorem wr_0 {f : Nat → Int32} {l : Int} {so : Int64} {k : Nat} (hk : k = 0) : f = wrF f l so k := by subst hk; rfl
theorem wr_s {f g g' : Nat → Int32} {l : Int} {so : Int64} {k k' : Nat} {x i v : Int32} (h : g = wrF f l so k) (e : g' = upd g x.toNatClampNeg v) (hv : v = byV so i) (hx : x.toInt = l + k) (hi : i.toInt = k) (hk' : k' = k + 1) : g' = wrF f l so k' := by
  subst hk'; subst e; subst hv; subst h
  have ei : i = nI k := by
    have := nI_toNat (y := i) (by omega)
    rw [← this]; congr 1; omega
  show _ = upd (wrF f l so k) (l + k).toNat (byV so (nI k))
  rw [clC hx, ei]
def spWri (f : Nat → Int32) (len : Int32) (so : Int64) (n r : Int32) (f' : Nat → Int32) (len' : Int32) : Prop := ((n.toInt < 1 ∨ 8 < n.toInt) ∧ r = -3 ∧ f' = f ∧ len' = len) ∨ ((1 ≤ n.toInt ∧ n.toInt ≤ 8) ∧ 160 < len.toInt + n.toInt ∧ r = -5 ∧ f' = f ∧ len' = len) ∨ ((1 ≤ n.toInt ∧ n.toInt ≤ 8) ∧ len.toInt + n.toInt ≤ 160 ∧ r = len' ∧ len'.toInt = len.toInt + n.toInt ∧ f' = wrF f len.toInt so n.toInt.toNat)
theorem wr_e {f g : Nat → Int32} {l : Int} {so : Int64} {k k' : Nat} (h : g = wrF f l so k) (e : k' = k) : g = wrF f l so k' := by subst e; exact h
end
section
set_option maxHeartbeats 4000000 in
set_option maxRecDepth 100000 in
theorem k_X7_kindOf2 (l : Launch) (dC : Nat → ClassId) (dI : Nat → Nat → Nat) (cI cZ cQ : ClassId) (sg : Int32)  : KR l yX7_kindOf wsX7_kindOf { frames := 1, cells := 0, slots := 0, locals := 22 } (dC, dI) (TY cI cZ cQ) (wNil cI cZ cQ) [.int sg] (fun r : Int32 => (1 ≤ r.toInt) ∧ (r.toInt ≤ 3) ∧ (r.toInt = knd sg)) := by
  refine Met.ofW (cc := cX7_kindOf) (maxL := 1) (ret := (some .int)) (by decide) rfl ?_
  intro p e s m args below meth c s₁ B hml hv
  obtain ⟨rfl, hP, hK, hN⟩ := hv
  have hx := B.exec
  have hb := B.bytes
  have hr := B.returns
  have hts := atoms_spec (ws := wsX7_kindOf) B.pre
  have hown : s.vm.findClass RX7 = some m.cls := findClass_of_methodNamed B.named
  have hlocks := B.notSynchronized
  have hl := lv_entry ([.int sg]) (n := 1) (Nat.le_of_ble_eq_true rfl)
  rw [lg_entry_eq]
  generalize (lg_sl ([.int sg]) ++ List.replicate (1 - (lg_sl ([.int sg])).length) Slot.unset).toArray = ls at hl ⊢
  have hl : lv_has ls 1 [(0, .int sg)] := hl
  refine lv_iload_n hx hb dX7_kindOf_0 rfl (lv_at hl 0 rfl) ?_
  refine lv_bipush (v := 97) hx hb dX7_kindOf_1 (by decide) ?_
  refine lv_bipush (v := 122) hx hb dX7_kindOf_3 (by decide) ?_
  refine rdSN (As := [.int sg, .int 97, .int 122]) (rest := []) ⟨hx, hb, hml, hown, hts⟩ (k_X9_within l dC dI cI cZ cQ sg (97 : Int32) (122 : Int32)) ⟨va_cnB (host := "PalaceOfRooms") 3 hts gX7_kindOf_X9_within_n80 rfl rfl rfl (hN _ (by decide +kernel)) (hts (.initialized RX9) (List.mem_cons_of_mem _ (List.mem_of_getElem? (i := 1) rfl))) (by decide +kernel) ⟨Nat.le_of_ble_eq_true rfl, Nat.le_of_ble_eq_true rfl⟩, hts (.static yX9_within) (List.mem_cons_of_mem _ (List.mem_of_getElem? (i := 0) rfl)), trivial⟩ hP hK hN [] rfl rfl hl.1 rfl (Nat.le_of_ble_eq_true rfl) dX7_kindOf_5 ⟨Nat.le_of_ble_eq_true rfl, Nat.le_of_ble_eq_true rfl⟩ (fun r1 h2 => ?_)
  have h2 : ((((r1 = 1) ∧ ((97) ≤ sg.toInt) ∧ (sg.toInt ≤ (122))) ∨ ((r1 = 0) ∧ (sg.toInt < (97) ∨ (122) < sg.toInt)))) := h2
  rcases h2 with (⟨rfl, h2_a0, h2_a1⟩ | ⟨rfl, h2_a0⟩)
  · refine lv_if_eq (tgt := 13) hx hb dX7_kindOf_8 (by decide) (fun c9 => absurd c9 (by decide)) (fun _ => ?_)
    refine lv_iconst (v := 1) hx hb dX7_kindOf_11 (by decide) ?_
    exact W.iret (v := 1) hx hb hr (fun tq ht hW => ⟨1, rfl, ⟨(show 1 ≤ (1 : Int32).toInt from by (try rw [show (1 : Int32).toInt = 1 from (show (1 : Int32).toInt = 1 from rfl)]); omega), (show (1 : Int32).toInt ≤ 3 from by (try rw [show (1 : Int32).toInt = 1 from (show (1 : Int32).toInt = 1 from rfl)]); omega), (show (1 : Int32).toInt = knd sg from by (try rw [show (1 : Int32).toInt = 1 from (show (1 : Int32).toInt = 1 from rfl)]); (first | exact (knd_1 (by omega)).symm | exact (knd_2 (by omega)).symm | exact (knd_3 (by omega) (by omega)).symm))⟩, ht⟩) (fun q h => by cases h) dX7_kindOf_12
  · refine lv_if_eq (tgt := 13) hx hb dX7_kindOf_8 (by decide) (fun _ => ?_) (fun c9 => absurd (by decide) c9)
    refine lv_iload_n hx hb dX7_kindOf_13 rfl (lv_at hl 0 rfl) ?_
    refine lv_bipush (v := 48) hx hb dX7_kindOf_14 (by decide) ?_
    refine lv_bipush (v := 57) hx hb dX7_kindOf_16 (by decide) ?_
    refine rdSN (As := [.int sg, .int 48, .int 57]) (rest := []) ⟨hx, hb, hml, hown, hts⟩ (k_X9_within l dC dI cI cZ cQ sg (48 : Int32) (57 : Int32)) ⟨va_cnB (host := "PalaceOfRooms") 3 hts gX7_kindOf_X9_within_n80 rfl rfl rfl (hN _ (by decide +kernel)) (hts (.initialized RX9) (List.mem_cons_of_mem _ (List.mem_of_getElem? (i := 1) rfl))) (by decide +kernel) ⟨Nat.le_of_ble_eq_true rfl, Nat.le_of_ble_eq_true rfl⟩, hts (.static yX9_within) (List.mem_cons_of_mem _ (List.mem_of_getElem? (i := 0) rfl)), trivial⟩ hP hK hN [] rfl rfl hl.1 rfl (Nat.le_of_ble_eq_true rfl) dX7_kindOf_18 ⟨Nat.le_of_ble_eq_true rfl, Nat.le_of_ble_eq_true rfl⟩ (fun r3 h4 => ?_)
    have h4 : ((((r3 = 1) ∧ ((48) ≤ sg.toInt) ∧ (sg.toInt ≤ (57))) ∨ ((r3 = 0) ∧ (sg.toInt < (48) ∨ (57) < sg.toInt)))) := h4
    rcases h4 with (⟨rfl, h4_a0, h4_a1⟩ | ⟨rfl, h4_a0⟩)
    · refine lv_if_eq (tgt := 28) hx hb dX7_kindOf_21 (by decide) (fun c9 => absurd c9 (by decide)) (fun _ => ?_)
      refine lv_iconst (v := 2) hx hb dX7_kindOf_24 (by decide) ?_
      refine lv_goto (tgt := 29) hx hb dX7_kindOf_25 (by decide) ?_
      exact W.iret (v := 2) hx hb hr (fun tq ht hW => ⟨2, rfl, ⟨(show 1 ≤ (2 : Int32).toInt from by (try rw [show (2 : Int32).toInt = 2 from (show (2 : Int32).toInt = 2 from rfl)]); omega), (show (2 : Int32).toInt ≤ 3 from by (try rw [show (2 : Int32).toInt = 2 from (show (2 : Int32).toInt = 2 from rfl)]); omega), (show (2 : Int32).toInt = knd sg from by (try rw [show (2 : Int32).toInt = 2 from (show (2 : Int32).toInt = 2 from rfl)]); (first | exact (knd_1 (by omega)).symm | exact (knd_2 (by omega)).symm | exact (knd_3 (by omega) (by omega)).symm))⟩, ht⟩) (fun q h => by cases h) dX7_kindOf_29
    · refine lv_if_eq (tgt := 28) hx hb dX7_kindOf_21 (by decide) (fun _ => ?_) (fun c9 => absurd (by decide) c9)
      refine lv_iconst (v := 3) hx hb dX7_kindOf_28 (by decide) ?_
      exact W.iret (v := 3) hx hb hr (fun tq ht hW => ⟨3, rfl, ⟨(show 1 ≤ (3 : Int32).toInt from by (try rw [show (3 : Int32).toInt = 3 from (show (3 : Int32).toInt = 3 from rfl)]); omega), (show (3 : Int32).toInt ≤ 3 from by (try rw [show (3 : Int32).toInt = 3 from (show (3 : Int32).toInt = 3 from rfl)]); omega), (show (3 : Int32).toInt = knd sg from by (try rw [show (3 : Int32).toInt = 3 from (show (3 : Int32).toInt = 3 from rfl)]); (first | exact (knd_1 (by omega)).symm | exact (knd_2 (by omega)).symm | exact (knd_3 (by omega) (by omega)).symm))⟩, ht⟩) (fun q h => by cases h) dX7_kindOf_29
set_option maxHeartbeats 4000000 in
set_option maxRecDepth 100000 in
theorem k_X7_nextToken2 (l : Launch) (dC : Nat → ClassId) (dI : Nat → Nat → Nat) (cI cZ cQ : ClassId) (a : Nat → Nat) (byt : Nat → Int32) (len : Int32) (tst : Int32) (ten : Int32) (sz : Nat) (r_len : 0 ≤ len.toInt ∧ len.toInt ≤ 160) (r_tst : 0 ≤ tst.toInt ∧ tst.toInt ≤ 160) (r_ten : 0 ≤ ten.toInt ∧ ten.toInt ≤ 160) (q0 : ten.toInt ≤ len.toInt) : KV l yX7_nextToken wsX7_nextToken { frames := 2, cells := 0, slots := 0, locals := 42 } (dC, dI) (TY cI cZ cQ) (wTxt cI cZ cQ a byt len tst ten) [.ref (a 14)] sz 0 0 (fun (u : US) => ((u.1 0 0).toInt ≤ (u.1 1 0).toInt) ∧ ((u.1 1 0).toInt ≤ len.toInt) ∧ ((u.1 0 0).toInt = tS byt len.toInt ten.toInt) ∧ ((u.1 1 0).toInt = tE byt len.toInt (u.1 0 0).toInt) ∧ (0 ≤ (u.1 0 0).toInt ∧ (u.1 0 0).toInt ≤ 160) ∧ (0 ≤ (u.1 1 0).toInt ∧ (u.1 1 0).toInt ≤ 160)) (fun u : US => (wTxt cI cZ cQ a byt len (u.1 0 0) (u.1 1 0))) := by
  refine Met.ofW (cc := cX7_nextToken) (maxL := 3) (ret := none) (by decide) rfl ?_
  intro p e s m args below meth c s₁ B hml hv
  obtain ⟨rfl, hsz, hP, hK, hD0, hN⟩ := hv
  have hx := B.exec
  have hb := B.bytes
  have hr := B.returns
  have hts := atoms_spec (ws := wsX7_nextToken) B.pre
  have hown : s.vm.findClass RX7 = some m.cls := findClass_of_methodNamed B.named
  have hlocks := B.notSynchronized
  have lf26 := hts (.fieldLink RX7 26 "PalaceOfRooms$Text" "tokenEnd" "I") (List.mem_cons_of_mem _ (List.mem_append_left _ (List.mem_of_getElem? (i := 0) rfl)))
  have inX7 : ∀ w ∈ wsX70, w ∈ wsX7_nextToken := fun w h => List.mem_cons_of_mem _ (List.mem_append_right _ h)
  have lf15 := hts (.fieldLink RX7 15 "PalaceOfRooms$Text" "length" "I") (List.mem_cons_of_mem _ (List.mem_append_left _ (List.mem_of_getElem? (i := 1) rfl)))
  have lf33 := hts (.fieldLink RX7 33 "PalaceOfRooms$Text" "tokenStart" "I") (List.mem_cons_of_mem _ (List.mem_append_left _ (List.mem_of_getElem? (i := 3) rfl)))
  have lf9 := hts (.fieldLink RX7 9 "PalaceOfRooms$Text" "bytes" "[I") (List.mem_cons_of_mem _ (List.mem_append_left _ (List.mem_of_getElem? (i := 2) rfl)))
  subst hsz
  have hD := hD0.self (sz := s.heap.size)
  generalize hAe : va_A (wTxt cI cZ cQ a byt len tst ten) s.heap.size = A at hD ⊢
  have hA : ∀ q : Nat, s.heap.size ≤ q → A q := fun q h => by rw [← hAe]; exact Or.inr h
  have hS : va_S A s.heap s.heap [] := va_S.rf
  have hl := lv_entry ([.ref (a 14)]) (n := 3) (Nat.le_of_ble_eq_true rfl)
  rw [lg_entry_eq]
  generalize (lg_sl ([.ref (a 14)]) ++ List.replicate (3 - (lg_sl ([.ref (a 14)])).length) Slot.unset).toArray = ls at hl ⊢
  have hl : lv_has ls 3 [(0, .ref (a 14))] := hl
  refine lv_aload_n hx hb dX7_nextToken_0 rfl (lv_at hl 0 rfl) ?_
  refine va_get (D := (dC, dI)) (ci := 7) (v := .int ten) (C := RX7) (T := TX7) (N := 4) hx hb hts inX7 hown hK hP 0 rfl rfl 3 (by decide) lf26 (fun _ h9 => h9) rfl dX7_nextToken_1 ?_
  refine lv_istore_n (lv' := [(1, .int ten), (0, .ref (a 14))]) hx hb dX7_nextToken_4 rfl hl (by decide) rfl (fun ls hl => ?_)
  have L5 : ∀ (nn : Nat) (y5_1 : Int32) (H : Heap) (locs : List Loc) (ls : Array Slot), (0 ≤ (y5_1.toInt)) → ((y5_1.toInt) ≤ 160) → ((y5_1.toInt) ≤ len.toInt) → (tS byt len.toInt (y5_1.toInt) = tS byt len.toInt ten.toInt) → (160 - (y5_1.toInt)).toNat < nn → va_P (dC, dI) vwCl (wTxt cI cZ cQ a byt len tst ten) H → va_D A (wTxt cI cZ cQ a byt len tst ten) → va_S A s.heap H locs → lv_has ls 3 [(0, .ref (a 14)), (1, .int y5_1)] → W p l e (headSpec wsX7_nextToken { frames := 2, cells := 0, slots := 0, locals := 42 }).room s m ([.ref (a 14)] : List Value).toArray below meth c H locs 0 0 (MQ below (va_Qv (fun (u : US) => ((u.1 0 0).toInt ≤ (u.1 1 0).toInt) ∧ ((u.1 1 0).toInt ≤ len.toInt) ∧ ((u.1 0 0).toInt = tS byt len.toInt ten.toInt) ∧ ((u.1 1 0).toInt = tE byt len.toInt (u.1 0 0).toInt) ∧ (0 ≤ (u.1 0 0).toInt ∧ (u.1 0 0).toInt ≤ 160) ∧ (0 ≤ (u.1 1 0).toInt ∧ (u.1 1 0).toInt ≤ 160)) (Bw (dC, dI) A (fun u : US => (wTxt cI cZ cQ a byt len (u.1 0 0) (u.1 1 0)))) A) ([.ref (a 14)] : List Value).toArray s 0 0 A) (F0 m 5 ls []) := by
    intro nn
    induction nn with
    | zero =>
      intro y5_1 H locs ls i5_0 i5_1 i5_2 i5_3 hm5
      exact absurd hm5 (Nat.not_lt_zero _)
    | succ nn ih5 =>
      intro y5_1 H locs ls i5_0 i5_1 i5_2 i5_3 hm5 hP hD hS hl
      refine lv_iload_n hx hb dX7_nextToken_5 rfl (lv_at hl 1 rfl) ?_
      refine lv_aload_n hx hb dX7_nextToken_6 rfl (lv_at hl 0 rfl) ?_
      refine va_get (D := (dC, dI)) (ci := 7) (v := .int len) (C := RX7) (T := TX7) (N := 4) hx hb hts inX7 hown hK hP 0 rfl rfl 1 (by decide) lf15 (fun _ h9 => h9) rfl dX7_nextToken_7 ?_
      refine lv_icmp_ge (tgt := 30) hx hb dX7_nextToken_10 (by decide) (fun c1 => ?_) (fun c1 => ?_)
      · have dc1 : len.toInt ≤ y5_1.toInt := leC rfl rfl c1
        refine lv_aload_n hx hb dX7_nextToken_30 rfl (lv_at hl 0 rfl) ?_
        refine lv_iload_n hx hb dX7_nextToken_31 rfl (lv_at hl 1 rfl) ?_
        refine va_put (D := (dC, dI)) (ci := 7) (v := .int y5_1) (ty := .int) (C := RX7) (T := TX7) (N := 4) hx hb hts inX7 tyX7 tyX7_ok nmX7 hown hK hP hD hS 0 rfl rfl 2 (by decide) lf33 (fun _ h9 => h9) rfl (by decide +kernel) rfl rfl (Nat.le_of_ble_eq_true rfl) dX7_nextToken_32 (fun H locs hP hD hS => ?_)
        have g2 : 0 ≤ y5_1.toInt ∧ y5_1.toInt ≤ 160 := by rw [show y5_1.toInt = y5_1.toInt from rfl]; exact ⟨by omega, by omega⟩
        have hP : va_P (dC, dI) vwCl (wTxt cI cZ cQ a byt len y5_1 ten) H := hP
        have hD : va_D A (wTxt cI cZ cQ a byt len y5_1 ten) := hD
        have L88 : ∀ (y88_1 : Int32) (H : Heap) (locs : List Loc) (ls : Array Slot), (y5_1.toInt ≤ (y88_1.toInt)) → ((y88_1.toInt) ≤ len.toInt) → (0 ≤ (y88_1.toInt)) → ((y88_1.toInt) ≤ 160) → ((y88_1.toInt) = tE byt len.toInt y5_1.toInt) → va_P (dC, dI) vwCl (wTxt cI cZ cQ a byt len y5_1 ten) H → va_D A (wTxt cI cZ cQ a byt len y5_1 ten) → va_S A s.heap H locs → lv_has ls 3 [(0, .ref (a 14)), (1, .int y88_1)] → W p l e (headSpec wsX7_nextToken { frames := 2, cells := 0, slots := 0, locals := 42 }).room s m ([.ref (a 14)] : List Value).toArray below meth c H locs 0 0 (MQ below (va_Qv (fun (u : US) => ((u.1 0 0).toInt ≤ (u.1 1 0).toInt) ∧ ((u.1 1 0).toInt ≤ len.toInt) ∧ ((u.1 0 0).toInt = tS byt len.toInt ten.toInt) ∧ ((u.1 1 0).toInt = tE byt len.toInt (u.1 0 0).toInt) ∧ (0 ≤ (u.1 0 0).toInt ∧ (u.1 0 0).toInt ≤ 160) ∧ (0 ≤ (u.1 1 0).toInt ∧ (u.1 1 0).toInt ≤ 160)) (Bw (dC, dI) A (fun u : US => (wTxt cI cZ cQ a byt len (u.1 0 0) (u.1 1 0)))) A) ([.ref (a 14)] : List Value).toArray s 0 0 A) (F0 m 88 ls []) := by
          intro y88_1 H locs ls i88_0 i88_1 i88_2 i88_3 i88_4 hP hD hS hl
          refine lv_aload_n hx hb dX7_nextToken_88 rfl (lv_at hl 0 rfl) ?_
          refine lv_iload_n hx hb dX7_nextToken_89 rfl (lv_at hl 1 rfl) ?_
          refine va_put (D := (dC, dI)) (ci := 7) (v := .int y88_1) (ty := .int) (C := RX7) (T := TX7) (N := 4) hx hb hts inX7 tyX7 tyX7_ok nmX7 hown hK hP hD hS 0 rfl rfl 3 (by decide) lf26 (fun _ h9 => h9) rfl (by decide +kernel) rfl rfl (Nat.le_of_ble_eq_true rfl) dX7_nextToken_90 (fun H locs hP hD hS => ?_)
          have g3 : 0 ≤ y88_1.toInt ∧ y88_1.toInt ≤ 160 := by rw [show y88_1.toInt = y88_1.toInt from rfl]; exact ⟨by omega, by omega⟩
          have hP : va_P (dC, dI) vwCl (wTxt cI cZ cQ a byt len y5_1 y88_1) H := hP
          have hD : va_D A (wTxt cI cZ cQ a byt len y5_1 y88_1) := hD
          exact W.vret hx hb hr (fun tq ht hW => ⟨⟨(uS [(fun _ => y5_1), (fun _ => y88_1)] 0 (fun _ => 0)), rfl, ⟨(show y5_1.toInt ≤ y88_1.toInt from by omega), (show y88_1.toInt ≤ len.toInt from by omega), (show y5_1.toInt = tS byt len.toInt ten.toInt from by exact sk_out i5_3 (by omega)), (show y88_1.toInt = tE byt len.toInt y5_1.toInt from by exact i88_4), g2, g3⟩, by rw [ht]; exact hP, hD⟩, hS.F ht⟩) hS.2.2 dX7_nextToken_93
        refine lv_iload_n hx hb dX7_nextToken_35 rfl (lv_at hl 1 rfl) ?_
        refine lv_aload_n hx hb dX7_nextToken_36 rfl (lv_at hl 0 rfl) ?_
        refine va_get (D := (dC, dI)) (ci := 7) (v := .int len) (C := RX7) (T := TX7) (N := 4) hx hb hts inX7 hown hK hP 0 rfl rfl 1 (by decide) lf15 (fun _ h9 => h9) rfl dX7_nextToken_37 ?_
        refine lv_icmp_ge (tgt := 88) hx hb dX7_nextToken_40 (by decide) (fun c4 => ?_) (fun c4 => ?_)
        · have dc4 : len.toInt ≤ y5_1.toInt := leC rfl rfl c4
          exact L88 y5_1 _ _ _ (by omega) (by omega) (by omega) (by omega) (by (first | exact tE_end (by omega) rfl | exact tE_oneC (by omega) (by assumption) (by omega) (by omega) | exact tE_runC (by omega) (by assumption) (by omega) i56_4 (by omega))) hP hD hS (lv_sub hl [0, 1] rfl)
        · have dc4 : y5_1.toInt < len.toInt := nleC rfl rfl c4
          refine lv_aload_n hx hb dX7_nextToken_43 rfl (lv_at hl 0 rfl) ?_
          refine va_get (D := (dC, dI)) (ci := 7) (v := .ref (a 15)) (C := RX7) (T := TX7) (N := 4) hx hb hts inX7 hown hK hP 0 rfl rfl 0 (by decide) lf9 (fun _ h9 => h9) rfl dX7_nextToken_44 ?_
          refine lv_iload_n hx hb dX7_nextToken_47 rfl (lv_at hl 1 rfl) ?_
          have b5 : vp_in y5_1 160 := inC rfl (by omega) (by omega)
          refine va_iald hx hb hK hP 1 0 rfl rfl b5 dX7_nextToken_48 ?_
          refine rdS (As := [.int (byt y5_1.toNatClampNeg)]) (rest := []) ⟨hx, hb, hml, hown, hts⟩ (k_X7_kindOf2 l dC dI cI cZ cQ (byt y5_1.toNatClampNeg)) (va_cwS 1 hts gX7_nextToken_X7_kindOf rfl rfl rfl (by decide +kernel) ⟨Nat.le_of_ble_eq_true rfl, Nat.le_of_ble_eq_true rfl⟩) hP hK hN [] rfl rfl hl.1 rfl (Nat.le_of_ble_eq_true rfl) dX7_nextToken_49 ⟨Nat.le_of_ble_eq_true rfl, Nat.le_of_ble_eq_true rfl⟩ (fun r6 h7 => ?_)
          have h7 : (1 ≤ r6.toInt) ∧ (r6.toInt ≤ 3) ∧ (r6.toInt = knd (byt y5_1.toNatClampNeg)) := h7
          obtain ⟨h7_0, h7_1, h7_2⟩ := h7
          refine lv_istore_n (lv' := [(2, .int r6), (0, .ref (a 14)), (1, .int y5_1)]) hx hb dX7_nextToken_52 rfl hl (by decide) rfl (fun ls hl => ?_)
          obtain ⟨z8, ez8⟩ : ∃ y : Int32, y = y5_1 + 1 := ⟨_, rfl⟩
          have iz8 : z8.toInt = y5_1.toInt + 1 := by rw [ez8]; exact addC rfl rfl (by omega) (by omega)
          refine lv_iinc (v := z8) (lv' := [(1, .int z8), (2, .int r6), (0, .ref (a 14))]) hx hb dX7_nextToken_53 hl (k := 2) rfl (by rw [ez8]; rfl) (by decide) rfl (fun ls hl => ?_)
          have L56 : ∀ (nn : Nat) (y56_1 : Int32) (H : Heap) (locs : List Loc) (ls : Array Slot), (0 ≤ (y56_1.toInt)) → ((y56_1.toInt) ≤ len.toInt) → (y5_1.toInt ≤ (y56_1.toInt)) → ((y56_1.toInt) ≤ 160) → (tR byt (r6.toInt) len.toInt (y56_1.toInt) = tR byt (r6.toInt) len.toInt (y5_1.toInt + 1)) → ((r6.toInt) ≠ 3 ∨ (y56_1.toInt) = y5_1.toInt + 1) → (len.toInt - (y56_1.toInt)).toNat < nn → va_P (dC, dI) vwCl (wTxt cI cZ cQ a byt len y5_1 ten) H → va_D A (wTxt cI cZ cQ a byt len y5_1 ten) → va_S A s.heap H locs → lv_has ls 3 [(0, .ref (a 14)), (1, .int y56_1), (2, .int r6)] → W p l e (headSpec wsX7_nextToken { frames := 2, cells := 0, slots := 0, locals := 42 }).room s m ([.ref (a 14)] : List Value).toArray below meth c H locs 0 0 (MQ below (va_Qv (fun (u : US) => ((u.1 0 0).toInt ≤ (u.1 1 0).toInt) ∧ ((u.1 1 0).toInt ≤ len.toInt) ∧ ((u.1 0 0).toInt = tS byt len.toInt ten.toInt) ∧ ((u.1 1 0).toInt = tE byt len.toInt (u.1 0 0).toInt) ∧ (0 ≤ (u.1 0 0).toInt ∧ (u.1 0 0).toInt ≤ 160) ∧ (0 ≤ (u.1 1 0).toInt ∧ (u.1 1 0).toInt ≤ 160)) (Bw (dC, dI) A (fun u : US => (wTxt cI cZ cQ a byt len (u.1 0 0) (u.1 1 0)))) A) ([.ref (a 14)] : List Value).toArray s 0 0 A) (F0 m 56 ls []) := by
            intro nn
            induction nn with
            | zero =>
              intro y56_1 H locs ls i56_0 i56_1 i56_2 i56_3 i56_4 i56_5 hm56
              exact absurd hm56 (Nat.not_lt_zero _)
            | succ nn ih56 =>
              intro y56_1 H locs ls i56_0 i56_1 i56_2 i56_3 i56_4 i56_5 hm56 hP hD hS hl
              refine lv_iload_n hx hb dX7_nextToken_56 rfl (lv_at hl 2 rfl) ?_
              refine lv_iconst (v := 3) hx hb dX7_nextToken_57 (by decide) ?_
              refine lv_icmp_eq (tgt := 88) hx hb dX7_nextToken_58 (by decide) (fun c9 => ?_) (fun c9 => ?_)
              · have dc9 : r6.toInt = 3 := eqC rfl (show (3 : Int32).toInt = 3 from rfl) c9
                exact L88 y56_1 _ _ _ (by omega) (by omega) (by omega) (by omega) (by (first | exact tE_end (by omega) rfl | exact tE_oneC (by omega) (by assumption) (by omega) (by omega) | exact tE_runC (by omega) (by assumption) (by omega) i56_4 (by omega))) hP hD hS (lv_sub hl [0, 1] rfl)
              · have dc9 : r6.toInt ≤ 2 := ka_hi (by omega) (neC rfl (show (3 : Int32).toInt = 3 from rfl) c9)
                refine lv_iload_n hx hb dX7_nextToken_61 rfl (lv_at hl 1 rfl) ?_
                refine lv_aload_n hx hb dX7_nextToken_62 rfl (lv_at hl 0 rfl) ?_
                refine va_get (D := (dC, dI)) (ci := 7) (v := .int len) (C := RX7) (T := TX7) (N := 4) hx hb hts inX7 hown hK hP 0 rfl rfl 1 (by decide) lf15 (fun _ h9 => h9) rfl dX7_nextToken_63 ?_
                refine lv_icmp_ge (tgt := 88) hx hb dX7_nextToken_66 (by decide) (fun c10 => ?_) (fun c10 => ?_)
                · have dc10 : len.toInt ≤ y56_1.toInt := leC rfl rfl c10
                  exact L88 y56_1 _ _ _ (by omega) (by omega) (by omega) (by omega) (by (first | exact tE_end (by omega) rfl | exact tE_oneC (by omega) (by assumption) (by omega) (by omega) | exact tE_runC (by omega) (by assumption) (by omega) i56_4 (by omega))) hP hD hS (lv_sub hl [0, 1] rfl)
                · have dc10 : y56_1.toInt < len.toInt := nleC rfl rfl c10
                  refine lv_aload_n hx hb dX7_nextToken_69 rfl (lv_at hl 0 rfl) ?_
                  refine va_get (D := (dC, dI)) (ci := 7) (v := .ref (a 15)) (C := RX7) (T := TX7) (N := 4) hx hb hts inX7 hown hK hP 0 rfl rfl 0 (by decide) lf9 (fun _ h9 => h9) rfl dX7_nextToken_70 ?_
                  refine lv_iload_n hx hb dX7_nextToken_73 rfl (lv_at hl 1 rfl) ?_
                  have b11 : vp_in y56_1 160 := inC rfl (by omega) (by omega)
                  refine va_iald hx hb hK hP 1 0 rfl rfl b11 dX7_nextToken_74 ?_
                  refine rdS (As := [.int (byt y56_1.toNatClampNeg)]) (rest := []) ⟨hx, hb, hml, hown, hts⟩ (k_X7_kindOf2 l dC dI cI cZ cQ (byt y56_1.toNatClampNeg)) (va_cwS 1 hts gX7_nextToken_X7_kindOf rfl rfl rfl (by decide +kernel) ⟨Nat.le_of_ble_eq_true rfl, Nat.le_of_ble_eq_true rfl⟩) hP hK hN [] rfl rfl hl.1 rfl (Nat.le_of_ble_eq_true rfl) dX7_nextToken_75 ⟨Nat.le_of_ble_eq_true rfl, Nat.le_of_ble_eq_true rfl⟩ (fun r12 h13 => ?_)
                  have h13 : (1 ≤ r12.toInt) ∧ (r12.toInt ≤ 3) ∧ (r12.toInt = knd (byt y56_1.toNatClampNeg)) := h13
                  obtain ⟨h13_0, h13_1, h13_2⟩ := h13
                  refine lv_iload_n hx hb dX7_nextToken_78 rfl (lv_at hl 2 rfl) ?_
                  refine lv_icmp_ne (tgt := 88) hx hb dX7_nextToken_79 (by decide) (fun c14 => ?_) (fun c14 => ?_)
                  · have dc14 : r12.toInt ≠ r6.toInt := neC rfl rfl c14
                    exact L88 y56_1 _ _ _ (by omega) (by omega) (by omega) (by omega) (by (first | exact tE_end (by omega) rfl | exact tE_oneC (by omega) (by assumption) (by omega) (by omega) | exact tE_runC (by omega) (by assumption) (by omega) i56_4 (by omega))) hP hD hS (lv_sub hl [0, 1] rfl)
                  · have dc14 : r12.toInt = r6.toInt := eqC rfl rfl c14
                    obtain ⟨z15, ez15⟩ : ∃ y : Int32, y = y56_1 + 1 := ⟨_, rfl⟩
                    have iz15 : z15.toInt = y56_1.toInt + 1 := by rw [ez15]; exact addC rfl rfl (by omega) (by omega)
                    refine lv_iinc (v := z15) (lv' := [(1, .int z15), (0, .ref (a 14)), (2, .int r6)]) hx hb dX7_nextToken_82 hl (k := 1) rfl (by rw [ez15]; rfl) (by decide) rfl (fun ls hl => ?_)
                    refine lv_goto (tgt := 56) hx hb dX7_nextToken_85 (by decide) ?_
                    exact ih56 z15 _ _ _ (by omega) (by omega) (by omega) (by omega) (by (first | exact rn_in i56_4 (by omega) (by omega) (by omega) | exact tR_cast (by omega))) (by omega) (by omega) hP hD hS (lv_sub hl [1, 0, 2] rfl)
          exact L56 _ z8 _ _ _ (by omega) (by omega) (by omega) (by omega) (by (first | exact rn_in i56_4 (by omega) (by omega) (by omega) | exact tR_cast (by omega))) (by omega) (Nat.lt_succ_self _) hP hD hS (lv_sub hl [2, 0, 1] rfl)
      · have dc1 : y5_1.toInt < len.toInt := nleC rfl rfl c1
        refine lv_aload_n hx hb dX7_nextToken_13 rfl (lv_at hl 0 rfl) ?_
        refine va_get (D := (dC, dI)) (ci := 7) (v := .ref (a 15)) (C := RX7) (T := TX7) (N := 4) hx hb hts inX7 hown hK hP 0 rfl rfl 0 (by decide) lf9 (fun _ h9 => h9) rfl dX7_nextToken_14 ?_
        refine lv_iload_n hx hb dX7_nextToken_17 rfl (lv_at hl 1 rfl) ?_
        have b16 : vp_in y5_1 160 := inC rfl (by omega) (by omega)
        refine va_iald hx hb hK hP 1 0 rfl rfl b16 dX7_nextToken_18 ?_
        refine lv_bipush (v := 32) hx hb dX7_nextToken_19 (by decide) ?_
        refine lv_icmp_ne (tgt := 30) hx hb dX7_nextToken_21 (by decide) (fun c17 => ?_) (fun c17 => ?_)
        · have dc17 : (byt y5_1.toNatClampNeg).toInt ≠ 32 := neC rfl (show (32 : Int32).toInt = 32 from rfl) c17
          refine lv_aload_n hx hb dX7_nextToken_30 rfl (lv_at hl 0 rfl) ?_
          refine lv_iload_n hx hb dX7_nextToken_31 rfl (lv_at hl 1 rfl) ?_
          refine va_put (D := (dC, dI)) (ci := 7) (v := .int y5_1) (ty := .int) (C := RX7) (T := TX7) (N := 4) hx hb hts inX7 tyX7 tyX7_ok nmX7 hown hK hP hD hS 0 rfl rfl 2 (by decide) lf33 (fun _ h9 => h9) rfl (by decide +kernel) rfl rfl (Nat.le_of_ble_eq_true rfl) dX7_nextToken_32 (fun H locs hP hD hS => ?_)
          have g18 : 0 ≤ y5_1.toInt ∧ y5_1.toInt ≤ 160 := by rw [show y5_1.toInt = y5_1.toInt from rfl]; exact ⟨by omega, by omega⟩
          have hP : va_P (dC, dI) vwCl (wTxt cI cZ cQ a byt len y5_1 ten) H := hP
          have hD : va_D A (wTxt cI cZ cQ a byt len y5_1 ten) := hD
          have L88 : ∀ (y88_1 : Int32) (H : Heap) (locs : List Loc) (ls : Array Slot), (y5_1.toInt ≤ (y88_1.toInt)) → ((y88_1.toInt) ≤ len.toInt) → (0 ≤ (y88_1.toInt)) → ((y88_1.toInt) ≤ 160) → ((y88_1.toInt) = tE byt len.toInt y5_1.toInt) → va_P (dC, dI) vwCl (wTxt cI cZ cQ a byt len y5_1 ten) H → va_D A (wTxt cI cZ cQ a byt len y5_1 ten) → va_S A s.heap H locs → lv_has ls 3 [(0, .ref (a 14)), (1, .int y88_1)] → W p l e (headSpec wsX7_nextToken { frames := 2, cells := 0, slots := 0, locals := 42 }).room s m ([.ref (a 14)] : List Value).toArray below meth c H locs 0 0 (MQ below (va_Qv (fun (u : US) => ((u.1 0 0).toInt ≤ (u.1 1 0).toInt) ∧ ((u.1 1 0).toInt ≤ len.toInt) ∧ ((u.1 0 0).toInt = tS byt len.toInt ten.toInt) ∧ ((u.1 1 0).toInt = tE byt len.toInt (u.1 0 0).toInt) ∧ (0 ≤ (u.1 0 0).toInt ∧ (u.1 0 0).toInt ≤ 160) ∧ (0 ≤ (u.1 1 0).toInt ∧ (u.1 1 0).toInt ≤ 160)) (Bw (dC, dI) A (fun u : US => (wTxt cI cZ cQ a byt len (u.1 0 0) (u.1 1 0)))) A) ([.ref (a 14)] : List Value).toArray s 0 0 A) (F0 m 88 ls []) := by
            intro y88_1 H locs ls i88_0 i88_1 i88_2 i88_3 i88_4 hP hD hS hl
            refine lv_aload_n hx hb dX7_nextToken_88 rfl (lv_at hl 0 rfl) ?_
            refine lv_iload_n hx hb dX7_nextToken_89 rfl (lv_at hl 1 rfl) ?_
            refine va_put (D := (dC, dI)) (ci := 7) (v := .int y88_1) (ty := .int) (C := RX7) (T := TX7) (N := 4) hx hb hts inX7 tyX7 tyX7_ok nmX7 hown hK hP hD hS 0 rfl rfl 3 (by decide) lf26 (fun _ h9 => h9) rfl (by decide +kernel) rfl rfl (Nat.le_of_ble_eq_true rfl) dX7_nextToken_90 (fun H locs hP hD hS => ?_)
            have g19 : 0 ≤ y88_1.toInt ∧ y88_1.toInt ≤ 160 := by rw [show y88_1.toInt = y88_1.toInt from rfl]; exact ⟨by omega, by omega⟩
            have hP : va_P (dC, dI) vwCl (wTxt cI cZ cQ a byt len y5_1 y88_1) H := hP
            have hD : va_D A (wTxt cI cZ cQ a byt len y5_1 y88_1) := hD
            exact W.vret hx hb hr (fun tq ht hW => ⟨⟨(uS [(fun _ => y5_1), (fun _ => y88_1)] 0 (fun _ => 0)), rfl, ⟨(show y5_1.toInt ≤ y88_1.toInt from by omega), (show y88_1.toInt ≤ len.toInt from by omega), (show y5_1.toInt = tS byt len.toInt ten.toInt from by exact sk_out i5_3 (by omega)), (show y88_1.toInt = tE byt len.toInt y5_1.toInt from by exact i88_4), g18, g19⟩, by rw [ht]; exact hP, hD⟩, hS.F ht⟩) hS.2.2 dX7_nextToken_93
          refine lv_iload_n hx hb dX7_nextToken_35 rfl (lv_at hl 1 rfl) ?_
          refine lv_aload_n hx hb dX7_nextToken_36 rfl (lv_at hl 0 rfl) ?_
          refine va_get (D := (dC, dI)) (ci := 7) (v := .int len) (C := RX7) (T := TX7) (N := 4) hx hb hts inX7 hown hK hP 0 rfl rfl 1 (by decide) lf15 (fun _ h9 => h9) rfl dX7_nextToken_37 ?_
          refine lv_icmp_ge (tgt := 88) hx hb dX7_nextToken_40 (by decide) (fun c20 => ?_) (fun c20 => ?_)
          · have dc20 : len.toInt ≤ y5_1.toInt := leC rfl rfl c20
            exact L88 y5_1 _ _ _ (by omega) (by omega) (by omega) (by omega) (by (first | exact tE_end (by omega) rfl | exact tE_oneC (by omega) (by assumption) (by omega) (by omega) | exact tE_runC (by omega) (by assumption) (by omega) i56_4 (by omega))) hP hD hS (lv_sub hl [0, 1] rfl)
          · have dc20 : y5_1.toInt < len.toInt := nleC rfl rfl c20
            refine lv_aload_n hx hb dX7_nextToken_43 rfl (lv_at hl 0 rfl) ?_
            refine va_get (D := (dC, dI)) (ci := 7) (v := .ref (a 15)) (C := RX7) (T := TX7) (N := 4) hx hb hts inX7 hown hK hP 0 rfl rfl 0 (by decide) lf9 (fun _ h9 => h9) rfl dX7_nextToken_44 ?_
            refine lv_iload_n hx hb dX7_nextToken_47 rfl (lv_at hl 1 rfl) ?_
            have b21 : vp_in y5_1 160 := inC rfl (by omega) (by omega)
            refine va_iald hx hb hK hP 1 0 rfl rfl b21 dX7_nextToken_48 ?_
            refine rdS (As := [.int (byt y5_1.toNatClampNeg)]) (rest := []) ⟨hx, hb, hml, hown, hts⟩ (k_X7_kindOf2 l dC dI cI cZ cQ (byt y5_1.toNatClampNeg)) (va_cwS 1 hts gX7_nextToken_X7_kindOf rfl rfl rfl (by decide +kernel) ⟨Nat.le_of_ble_eq_true rfl, Nat.le_of_ble_eq_true rfl⟩) hP hK hN [] rfl rfl hl.1 rfl (Nat.le_of_ble_eq_true rfl) dX7_nextToken_49 ⟨Nat.le_of_ble_eq_true rfl, Nat.le_of_ble_eq_true rfl⟩ (fun r22 h23 => ?_)
            have h23 : (1 ≤ r22.toInt) ∧ (r22.toInt ≤ 3) ∧ (r22.toInt = knd (byt y5_1.toNatClampNeg)) := h23
            obtain ⟨h23_0, h23_1, h23_2⟩ := h23
            refine lv_istore_n (lv' := [(2, .int r22), (0, .ref (a 14)), (1, .int y5_1)]) hx hb dX7_nextToken_52 rfl hl (by decide) rfl (fun ls hl => ?_)
            obtain ⟨z24, ez24⟩ : ∃ y : Int32, y = y5_1 + 1 := ⟨_, rfl⟩
            have iz24 : z24.toInt = y5_1.toInt + 1 := by rw [ez24]; exact addC rfl rfl (by omega) (by omega)
            refine lv_iinc (v := z24) (lv' := [(1, .int z24), (2, .int r22), (0, .ref (a 14))]) hx hb dX7_nextToken_53 hl (k := 2) rfl (by rw [ez24]; rfl) (by decide) rfl (fun ls hl => ?_)
            have L56 : ∀ (nn : Nat) (y56_1 : Int32) (H : Heap) (locs : List Loc) (ls : Array Slot), (0 ≤ (y56_1.toInt)) → ((y56_1.toInt) ≤ len.toInt) → (y5_1.toInt ≤ (y56_1.toInt)) → ((y56_1.toInt) ≤ 160) → (tR byt (r22.toInt) len.toInt (y56_1.toInt) = tR byt (r22.toInt) len.toInt (y5_1.toInt + 1)) → ((r22.toInt) ≠ 3 ∨ (y56_1.toInt) = y5_1.toInt + 1) → (len.toInt - (y56_1.toInt)).toNat < nn → va_P (dC, dI) vwCl (wTxt cI cZ cQ a byt len y5_1 ten) H → va_D A (wTxt cI cZ cQ a byt len y5_1 ten) → va_S A s.heap H locs → lv_has ls 3 [(0, .ref (a 14)), (1, .int y56_1), (2, .int r22)] → W p l e (headSpec wsX7_nextToken { frames := 2, cells := 0, slots := 0, locals := 42 }).room s m ([.ref (a 14)] : List Value).toArray below meth c H locs 0 0 (MQ below (va_Qv (fun (u : US) => ((u.1 0 0).toInt ≤ (u.1 1 0).toInt) ∧ ((u.1 1 0).toInt ≤ len.toInt) ∧ ((u.1 0 0).toInt = tS byt len.toInt ten.toInt) ∧ ((u.1 1 0).toInt = tE byt len.toInt (u.1 0 0).toInt) ∧ (0 ≤ (u.1 0 0).toInt ∧ (u.1 0 0).toInt ≤ 160) ∧ (0 ≤ (u.1 1 0).toInt ∧ (u.1 1 0).toInt ≤ 160)) (Bw (dC, dI) A (fun u : US => (wTxt cI cZ cQ a byt len (u.1 0 0) (u.1 1 0)))) A) ([.ref (a 14)] : List Value).toArray s 0 0 A) (F0 m 56 ls []) := by
              intro nn
              induction nn with
              | zero =>
                intro y56_1 H locs ls i56_0 i56_1 i56_2 i56_3 i56_4 i56_5 hm56
                exact absurd hm56 (Nat.not_lt_zero _)
              | succ nn ih56 =>
                intro y56_1 H locs ls i56_0 i56_1 i56_2 i56_3 i56_4 i56_5 hm56 hP hD hS hl
                refine lv_iload_n hx hb dX7_nextToken_56 rfl (lv_at hl 2 rfl) ?_
                refine lv_iconst (v := 3) hx hb dX7_nextToken_57 (by decide) ?_
                refine lv_icmp_eq (tgt := 88) hx hb dX7_nextToken_58 (by decide) (fun c25 => ?_) (fun c25 => ?_)
                · have dc25 : r22.toInt = 3 := eqC rfl (show (3 : Int32).toInt = 3 from rfl) c25
                  exact L88 y56_1 _ _ _ (by omega) (by omega) (by omega) (by omega) (by (first | exact tE_end (by omega) rfl | exact tE_oneC (by omega) (by assumption) (by omega) (by omega) | exact tE_runC (by omega) (by assumption) (by omega) i56_4 (by omega))) hP hD hS (lv_sub hl [0, 1] rfl)
                · have dc25 : r22.toInt ≤ 2 := ka_hi (by omega) (neC rfl (show (3 : Int32).toInt = 3 from rfl) c25)
                  refine lv_iload_n hx hb dX7_nextToken_61 rfl (lv_at hl 1 rfl) ?_
                  refine lv_aload_n hx hb dX7_nextToken_62 rfl (lv_at hl 0 rfl) ?_
                  refine va_get (D := (dC, dI)) (ci := 7) (v := .int len) (C := RX7) (T := TX7) (N := 4) hx hb hts inX7 hown hK hP 0 rfl rfl 1 (by decide) lf15 (fun _ h9 => h9) rfl dX7_nextToken_63 ?_
                  refine lv_icmp_ge (tgt := 88) hx hb dX7_nextToken_66 (by decide) (fun c26 => ?_) (fun c26 => ?_)
                  · have dc26 : len.toInt ≤ y56_1.toInt := leC rfl rfl c26
                    exact L88 y56_1 _ _ _ (by omega) (by omega) (by omega) (by omega) (by (first | exact tE_end (by omega) rfl | exact tE_oneC (by omega) (by assumption) (by omega) (by omega) | exact tE_runC (by omega) (by assumption) (by omega) i56_4 (by omega))) hP hD hS (lv_sub hl [0, 1] rfl)
                  · have dc26 : y56_1.toInt < len.toInt := nleC rfl rfl c26
                    refine lv_aload_n hx hb dX7_nextToken_69 rfl (lv_at hl 0 rfl) ?_
                    refine va_get (D := (dC, dI)) (ci := 7) (v := .ref (a 15)) (C := RX7) (T := TX7) (N := 4) hx hb hts inX7 hown hK hP 0 rfl rfl 0 (by decide) lf9 (fun _ h9 => h9) rfl dX7_nextToken_70 ?_
                    refine lv_iload_n hx hb dX7_nextToken_73 rfl (lv_at hl 1 rfl) ?_
                    have b27 : vp_in y56_1 160 := inC rfl (by omega) (by omega)
                    refine va_iald hx hb hK hP 1 0 rfl rfl b27 dX7_nextToken_74 ?_
                    refine rdS (As := [.int (byt y56_1.toNatClampNeg)]) (rest := []) ⟨hx, hb, hml, hown, hts⟩ (k_X7_kindOf2 l dC dI cI cZ cQ (byt y56_1.toNatClampNeg)) (va_cwS 1 hts gX7_nextToken_X7_kindOf rfl rfl rfl (by decide +kernel) ⟨Nat.le_of_ble_eq_true rfl, Nat.le_of_ble_eq_true rfl⟩) hP hK hN [] rfl rfl hl.1 rfl (Nat.le_of_ble_eq_true rfl) dX7_nextToken_75 ⟨Nat.le_of_ble_eq_true rfl, Nat.le_of_ble_eq_true rfl⟩ (fun r28 h29 => ?_)
                    have h29 : (1 ≤ r28.toInt) ∧ (r28.toInt ≤ 3) ∧ (r28.toInt = knd (byt y56_1.toNatClampNeg)) := h29
                    obtain ⟨h29_0, h29_1, h29_2⟩ := h29
                    refine lv_iload_n hx hb dX7_nextToken_78 rfl (lv_at hl 2 rfl) ?_
                    refine lv_icmp_ne (tgt := 88) hx hb dX7_nextToken_79 (by decide) (fun c30 => ?_) (fun c30 => ?_)
                    · have dc30 : r28.toInt ≠ r22.toInt := neC rfl rfl c30
                      exact L88 y56_1 _ _ _ (by omega) (by omega) (by omega) (by omega) (by (first | exact tE_end (by omega) rfl | exact tE_oneC (by omega) (by assumption) (by omega) (by omega) | exact tE_runC (by omega) (by assumption) (by omega) i56_4 (by omega))) hP hD hS (lv_sub hl [0, 1] rfl)
                    · have dc30 : r28.toInt = r22.toInt := eqC rfl rfl c30
                      obtain ⟨z31, ez31⟩ : ∃ y : Int32, y = y56_1 + 1 := ⟨_, rfl⟩
                      have iz31 : z31.toInt = y56_1.toInt + 1 := by rw [ez31]; exact addC rfl rfl (by omega) (by omega)
                      refine lv_iinc (v := z31) (lv' := [(1, .int z31), (0, .ref (a 14)), (2, .int r22)]) hx hb dX7_nextToken_82 hl (k := 1) rfl (by rw [ez31]; rfl) (by decide) rfl (fun ls hl => ?_)
                      refine lv_goto (tgt := 56) hx hb dX7_nextToken_85 (by decide) ?_
                      exact ih56 z31 _ _ _ (by omega) (by omega) (by omega) (by omega) (by (first | exact rn_in i56_4 (by omega) (by omega) (by omega) | exact tR_cast (by omega))) (by omega) (by omega) hP hD hS (lv_sub hl [1, 0, 2] rfl)
            exact L56 _ z24 _ _ _ (by omega) (by omega) (by omega) (by omega) (by (first | exact rn_in i56_4 (by omega) (by omega) (by omega) | exact tR_cast (by omega))) (by omega) (Nat.lt_succ_self _) hP hD hS (lv_sub hl [2, 0, 1] rfl)
        · have dc17 : (byt y5_1.toNatClampNeg).toInt = 32 := eqC rfl (show (32 : Int32).toInt = 32 from rfl) c17
          obtain ⟨z32, ez32⟩ : ∃ y : Int32, y = y5_1 + 1 := ⟨_, rfl⟩
          have iz32 : z32.toInt = y5_1.toInt + 1 := by rw [ez32]; exact addC rfl rfl (by omega) (by omega)
          refine lv_iinc (v := z32) (lv' := [(1, .int z32), (0, .ref (a 14))]) hx hb dX7_nextToken_24 hl (k := 1) rfl (by rw [ez32]; rfl) (by decide) rfl (fun ls hl => ?_)
          refine lv_goto (tgt := 5) hx hb dX7_nextToken_27 (by decide) ?_
          exact ih5 z32 _ _ _ (by omega) (by omega) (by omega) (by (first | exact sk_in i5_3 (by omega) (by omega) (by omega) | rfl)) (by omega) hP hD hS (lv_sub hl [1, 0] rfl)
  exact L5 _ ten _ _ _ (by omega) (by omega) (by omega) (by (first | exact sk_in i5_3 (by omega) (by omega) (by omega) | rfl)) (Nat.lt_succ_self _) hP hD hS (lv_sub hl [1, 0] rfl)
set_option maxHeartbeats 4000000 in
set_option maxRecDepth 100000 in
theorem k_X7_tokenIs2 (l : Launch) (dC : Nat → ClassId) (dI : Nat → Nat → Nat) (cI cZ cQ : ClassId) (a : Nat → Nat) (byt : Nat → Int32) (len : Int32) (tst : Int32) (ten : Int32) (sk sv sN : Nat) (sf : Nat → Int32) (r_len : 0 ≤ len.toInt ∧ len.toInt ≤ 160) (r_tst : 0 ≤ tst.toInt ∧ tst.toInt ≤ 160) (r_ten : 0 ≤ ten.toInt ∧ ten.toInt ≤ 160) (q0 : tst.toInt ≤ ten.toInt) (q1 : sN ≤ 5) : KRS l yX7_tokenIs wsX7_tokenIs { frames := 4, cells := 0, slots := 0, locals := 85 } (dC, dI) (TY cI cZ cQ) (wTxt cI cZ cQ a byt len tst ten) sk sv sN sf [.ref (a 14), .ref sk] (fun r : Int32 => ((((r = 1) ∧ (wdP byt tst.toInt ten.toInt sN sf)) ∨ ((r = 0) ∧ (¬ wdP byt tst.toInt ten.toInt sN sf))))) := by
  refine Met.ofW (cc := cX7_tokenIs) (maxL := 3) (ret := (some .boolean)) (by decide) rfl ?_
  intro p e s m args below meth c s₁ B hml hv
  obtain ⟨rfl, hP, hK, hN, hC⟩ := hv
  have hx := B.exec
  have hb := B.bytes
  have hr := B.returns
  have hts := atoms_spec (ws := wsX7_tokenIs) B.pre
  have hown : s.vm.findClass RX7 = some m.cls := findClass_of_methodNamed B.named
  have hlocks := B.notSynchronized
  have lf26 := hts (.fieldLink RX7 26 "PalaceOfRooms$Text" "tokenEnd" "I") (List.mem_cons_of_mem _ (List.mem_append_left _ (List.mem_append_left _ (List.mem_of_getElem? (i := 0) rfl))))
  have inX7 : ∀ w ∈ wsX70, w ∈ wsX7_tokenIs := fun w h => List.mem_cons_of_mem _ (List.mem_append_right _ h)
  have lf33 := hts (.fieldLink RX7 33 "PalaceOfRooms$Text" "tokenStart" "I") (List.mem_cons_of_mem _ (List.mem_append_left _ (List.mem_append_left _ (List.mem_of_getElem? (i := 1) rfl))))
  have lf9 := hts (.fieldLink RX7 9 "PalaceOfRooms$Text" "bytes" "[I") (List.mem_cons_of_mem _ (List.mem_append_left _ (List.mem_append_left _ (List.mem_of_getElem? (i := 2) rfl))))
  have hl := lv_entry ([.ref (a 14), .ref sk]) (n := 3) (Nat.le_of_ble_eq_true rfl)
  rw [lg_entry_eq]
  generalize (lg_sl ([.ref (a 14), .ref sk]) ++ List.replicate (3 - (lg_sl ([.ref (a 14), .ref sk])).length) Slot.unset).toArray = ls at hl ⊢
  have hl : lv_has ls 3 [(0, .ref (a 14)), (1, .ref sk)] := hl
  refine lv_aload_n hx hb dX7_tokenIs_0 rfl (lv_at hl 0 rfl) ?_
  refine va_get (D := (dC, dI)) (ci := 7) (v := .int ten) (C := RX7) (T := TX7) (N := 4) hx hb hts inX7 hown hK hP 0 rfl rfl 3 (by decide) lf26 (fun _ h9 => h9) rfl dX7_tokenIs_1 ?_
  refine lv_aload_n hx hb dX7_tokenIs_4 rfl (lv_at hl 0 rfl) ?_
  refine va_get (D := (dC, dI)) (ci := 7) (v := .int tst) (C := RX7) (T := TX7) (N := 4) hx hb hts inX7 hown hK hP 0 rfl rfl 2 (by decide) lf33 (fun _ h9 => h9) rfl dX7_tokenIs_5 ?_
  refine lv_isub hx hb dX7_tokenIs_8 ?_
  have f1 : (ten - tst).toInt = (ten.toInt) - (tst.toInt) := subC rfl rfl (by omega) (by omega)
  refine lv_aload_n hx hb dX7_tokenIs_9 rfl (lv_at hl 1 rfl) ?_
  refine rdVS (As := []) (rest := [.int (ten - tst)]) ⟨hx, hb, hml, hown, hts⟩ (k_J0_length_8abf5 l sk sv sN sf (by omega)) (cwV 0 hts gX7_tokenIs_J0_length_8abf5 rfl rfl rfl (by decide +kernel) ⟨Nat.le_of_ble_eq_true rfl, Nat.le_of_ble_eq_true rfl⟩) hC rfl hl.1 rfl (Nat.le_of_ble_eq_true rfl) dX7_tokenIs_10 ⟨Nat.le_of_ble_eq_true rfl, Nat.le_of_ble_eq_true rfl⟩ (fun r2 h3 => ?_)
  have i4 : r2.toInt = (sN : Int) := by rw [h3]; exact nI_toInt (by omega)
  refine lv_icmp_eq (tgt := 18) hx hb dX7_tokenIs_13 (by decide) (fun c5 => ?_) (fun c5 => ?_)
  · have dc5 : (ten.toInt) - (tst.toInt) = r2.toInt := eqC f1 rfl c5
    refine lv_iconst (v := 0) hx hb dX7_tokenIs_18 (by decide) ?_
    refine lv_istore_n (lv' := [(2, .int 0), (0, .ref (a 14)), (1, .ref sk)]) hx hb dX7_tokenIs_19 rfl hl (by decide) rfl (fun ls hl => ?_)
    have L20 : ∀ (nn : Nat) (y20_2 : Int32) (ls : Array Slot), (0 ≤ (y20_2.toInt)) → ((y20_2.toInt) ≤ 5) → (∀ j : Nat, (j : Int) < (y20_2.toInt) → byt (tst.toInt + j).toNat = chV (sf j)) → ((y20_2.toInt) ≤ sN) → (5 - (y20_2.toInt)).toNat < nn → lv_has ls 3 [(0, .ref (a 14)), (1, .ref sk), (2, .int y20_2)] → W p l e (headSpec wsX7_tokenIs { frames := 4, cells := 0, slots := 0, locals := 85 }).room s m ([.ref (a 14), .ref sk] : List Value).toArray below meth c s.heap [] 0 0 (MQ below (QR (fun r : Int32 => ((((r = 1) ∧ (wdP byt tst.toInt ten.toInt sN sf)) ∨ ((r = 0) ∧ (¬ wdP byt tst.toInt ten.toInt sN sf)))))) ([.ref (a 14), .ref sk] : List Value).toArray s 0 0 (fun _ => False)) (F0 m 20 ls []) := by
      intro nn
      induction nn with
      | zero =>
        intro y20_2 ls i20_0 i20_1 i20_2 i20_3 hm20
        exact absurd hm20 (Nat.not_lt_zero _)
      | succ nn ih20 =>
        intro y20_2 ls i20_0 i20_1 i20_2 i20_3 hm20 hl
        refine lv_iload_n hx hb dX7_tokenIs_20 rfl (lv_at hl 2 rfl) ?_
        refine lv_aload_n hx hb dX7_tokenIs_21 rfl (lv_at hl 1 rfl) ?_
        refine rdVS (As := []) (rest := [.int y20_2]) ⟨hx, hb, hml, hown, hts⟩ (k_J0_length_8abf5 l sk sv sN sf (by omega)) (cwV 0 hts gX7_tokenIs_J0_length_8abf5 rfl rfl rfl (by decide +kernel) ⟨Nat.le_of_ble_eq_true rfl, Nat.le_of_ble_eq_true rfl⟩) hC rfl hl.1 rfl (Nat.le_of_ble_eq_true rfl) dX7_tokenIs_22 ⟨Nat.le_of_ble_eq_true rfl, Nat.le_of_ble_eq_true rfl⟩ (fun r6 h7 => ?_)
        have i8 : r6.toInt = (sN : Int) := by rw [h7]; exact nI_toInt (by omega)
        refine lv_icmp_ge (tgt := 55) hx hb dX7_tokenIs_25 (by decide) (fun c9 => ?_) (fun c9 => ?_)
        · have dc9 : r6.toInt ≤ y20_2.toInt := leC rfl rfl c9
          refine lv_iconst (v := 1) hx hb dX7_tokenIs_55 (by decide) ?_
          exact W.zret (v := 1) hx hb hr (by decide) (fun tq ht hW => ⟨1, rfl, (Or.inl (⟨rfl, (show wdP byt tst.toInt ten.toInt sN sf from by (try rw [show (1 : Int32).toInt = 1 from (show (1 : Int32).toInt = 1 from rfl)]); (first | exact fun h => absurd h.1 (by omega) | exact tw_no (by assumption) (by assumption) (by assumption) (by omega) (by omega) | exact ⟨by omega, fun j hj => i20_2 j (by omega)⟩))⟩)), ht⟩) (fun q h => by cases h) dX7_tokenIs_56
        · have dc9 : y20_2.toInt < r6.toInt := nleC rfl rfl c9
          refine lv_aload_n hx hb dX7_tokenIs_28 rfl (lv_at hl 0 rfl) ?_
          refine va_get (D := (dC, dI)) (ci := 7) (v := .ref (a 15)) (C := RX7) (T := TX7) (N := 4) hx hb hts inX7 hown hK hP 0 rfl rfl 0 (by decide) lf9 (fun _ h9 => h9) rfl dX7_tokenIs_29 ?_
          refine lv_aload_n hx hb dX7_tokenIs_32 rfl (lv_at hl 0 rfl) ?_
          refine va_get (D := (dC, dI)) (ci := 7) (v := .int tst) (C := RX7) (T := TX7) (N := 4) hx hb hts inX7 hown hK hP 0 rfl rfl 2 (by decide) lf33 (fun _ h9 => h9) rfl dX7_tokenIs_33 ?_
          refine lv_iload_n hx hb dX7_tokenIs_36 rfl (lv_at hl 2 rfl) ?_
          refine lv_iadd hx hb dX7_tokenIs_37 ?_
          have f10 : (tst + y20_2).toInt = (tst.toInt) + (y20_2.toInt) := addC rfl rfl (by omega) (by omega)
          have b11 : vp_in (tst + y20_2) 160 := inC f10 (by omega) (by omega)
          refine va_iald hx hb hK hP 1 0 rfl rfl b11 dX7_tokenIs_38 ?_
          refine lv_aload_n hx hb dX7_tokenIs_39 rfl (lv_at hl 1 rfl) ?_
          refine lv_iload_n hx hb dX7_tokenIs_40 rfl (lv_at hl 2 rfl) ?_
          refine rdVS (As := [.int y20_2]) (rest := [.int (byt (tst + y20_2).toNatClampNeg)]) ⟨hx, hb, hml, hown, hts⟩ (k_J0_charAt_5068e l sk sv sN sf y20_2 (by omega) (by omega) (by omega)) (cwV 1 hts gX7_tokenIs_J0_charAt_5068e rfl rfl rfl (by decide +kernel) ⟨Nat.le_of_ble_eq_true rfl, Nat.le_of_ble_eq_true rfl⟩) hC rfl hl.1 rfl (Nat.le_of_ble_eq_true rfl) dX7_tokenIs_41 ⟨Nat.le_of_ble_eq_true rfl, Nat.le_of_ble_eq_true rfl⟩ (fun r12 h13 => ?_)
          refine lv_icmp_eq (tgt := 49) hx hb dX7_tokenIs_44 (by decide) (fun c14 => ?_) (fun c14 => ?_)
          · have dc14 : (byt (tst + y20_2).toNatClampNeg).toInt = r12.toInt := eqC rfl rfl c14
            obtain ⟨z15, ez15⟩ : ∃ y : Int32, y = y20_2 + 1 := ⟨_, rfl⟩
            have iz15 : z15.toInt = y20_2.toInt + 1 := by rw [ez15]; exact addC rfl rfl (by omega) (by omega)
            refine lv_iinc (v := z15) (lv' := [(2, .int z15), (0, .ref (a 14)), (1, .ref sk)]) hx hb dX7_tokenIs_49 hl (k := 2) rfl (by rw [ez15]; rfl) (by decide) rfl (fun ls hl => ?_)
            refine lv_goto (tgt := 20) hx hb dX7_tokenIs_52 (by decide) ?_
            exact ih20 z15 _ (by omega) (by omega) (by (first | exact tw_step i20_2 (by assumption) (by assumption) (by assumption) (by omega) (by omega) | (intro j hj; omega))) (by omega) (by omega) (lv_sub hl [1, 2, 0] rfl)
          · have dc14 : (byt (tst + y20_2).toNatClampNeg).toInt ≠ r12.toInt := neC rfl rfl c14
            refine lv_iconst (v := 0) hx hb dX7_tokenIs_47 (by decide) ?_
            exact W.zret (v := 0) hx hb hr (by decide) (fun tq ht hW => ⟨0, rfl, (Or.inr (⟨rfl, (show ¬ wdP byt tst.toInt ten.toInt sN sf from by (try rw [show (0 : Int32).toInt = 0 from (show (0 : Int32).toInt = 0 from rfl)]); (first | exact fun h => absurd h.1 (by omega) | exact tw_no (by assumption) (by assumption) (by assumption) (by omega) (by omega) | exact ⟨by omega, fun j hj => i20_2 j (by omega)⟩))⟩)), ht⟩) (fun q h => by cases h) dX7_tokenIs_48
    have kc16 : (0 : Int32).toInt = 0 := rfl
    exact L20 _ 0 _ (by omega) (by omega) (by (first | (intro j hj; omega) | exact tw_step i20_2 (by assumption) (by assumption) (by assumption) (by omega) (by omega))) (by omega) (Nat.lt_succ_self _) (lv_sub hl [1, 2, 0] rfl)
  · have dc5 : (ten.toInt) - (tst.toInt) ≠ r2.toInt := neC f1 rfl c5
    refine lv_iconst (v := 0) hx hb dX7_tokenIs_16 (by decide) ?_
    exact W.zret (v := 0) hx hb hr (by decide) (fun tq ht hW => ⟨0, rfl, (Or.inr (⟨rfl, (show ¬ wdP byt tst.toInt ten.toInt sN sf from by (try rw [show (0 : Int32).toInt = 0 from (show (0 : Int32).toInt = 0 from rfl)]); (first | exact fun h => absurd h.1 (by omega) | exact tw_no (by assumption) (by assumption) (by assumption) (by omega) (by omega) | exact ⟨by omega, fun j hj => i20_2 j (by omega)⟩))⟩)), ht⟩) (fun q h => by cases h) dX7_tokenIs_17
set_option maxHeartbeats 4000000 in
set_option maxRecDepth 100000 in
theorem k_X7_readNumber2 (l : Launch) (dC : Nat → ClassId) (dI : Nat → Nat → Nat) (cI cZ cQ : ClassId) (a : Nat → Nat) (byt : Nat → Int32) (len : Int32) (tst : Int32) (ten : Int32) (sz : Nat) (least : Int32) (most : Int32) (r_len : 0 ≤ len.toInt ∧ len.toInt ≤ 160) (r_tst : 0 ≤ tst.toInt ∧ tst.toInt ≤ 160) (r_ten : 0 ≤ ten.toInt ∧ ten.toInt ≤ 160) (q0 : ten.toInt ≤ len.toInt) : KW l yX7_readNumber wsX7_readNumber { frames := 3, cells := 0, slots := 0, locals := 64 } (dC, dI) (TY cI cZ cQ) (wTxt cI cZ cQ a byt len tst ten) [.ref (a 14), .int least, .int most] sz 0 0 (fun (r : Int32) (u : US) => ((u.1 0 0).toInt ≤ (u.1 1 0).toInt) ∧ ((u.1 1 0).toInt ≤ len.toInt) ∧ (r.toInt = -1 ∨ (least.toInt ≤ r.toInt ∧ r.toInt ≤ most.toInt)) ∧ ((u.1 0 0).toInt = tS byt len.toInt ten.toInt) ∧ ((u.1 1 0).toInt = nx byt len.toInt ten.toInt) ∧ (nuP byt len.toInt ten.toInt least.toInt most.toInt r) ∧ (0 ≤ (u.1 0 0).toInt ∧ (u.1 0 0).toInt ≤ 160) ∧ (0 ≤ (u.1 1 0).toInt ∧ (u.1 1 0).toInt ≤ 160)) (fun u : US => (wTxt cI cZ cQ a byt len (u.1 0 0) (u.1 1 0))) := by
  refine Met.ofW (cc := cX7_readNumber) (maxL := 6) (ret := (some .int)) (by decide) rfl ?_
  intro p e s m args below meth c s₁ B hml hv
  obtain ⟨rfl, hsz, hP, hK, hD0, hN⟩ := hv
  have hx := B.exec
  have hb := B.bytes
  have hr := B.returns
  have hts := atoms_spec (ws := wsX7_readNumber) B.pre
  have hown : s.vm.findClass RX7 = some m.cls := findClass_of_methodNamed B.named
  have hlocks := B.notSynchronized
  have lf26 := hts (.fieldLink RX7 26 "PalaceOfRooms$Text" "tokenEnd" "I") (List.mem_cons_of_mem _ (List.mem_append_left _ (List.mem_of_getElem? (i := 0) rfl)))
  have inX7 : ∀ w ∈ wsX70, w ∈ wsX7_readNumber := fun w h => List.mem_cons_of_mem _ (List.mem_append_right _ h)
  have lf33 := hts (.fieldLink RX7 33 "PalaceOfRooms$Text" "tokenStart" "I") (List.mem_cons_of_mem _ (List.mem_append_left _ (List.mem_of_getElem? (i := 1) rfl)))
  have lf9 := hts (.fieldLink RX7 9 "PalaceOfRooms$Text" "bytes" "[I") (List.mem_cons_of_mem _ (List.mem_append_left _ (List.mem_of_getElem? (i := 2) rfl)))
  subst hsz
  have hD := hD0.self (sz := s.heap.size)
  generalize hAe : va_A (wTxt cI cZ cQ a byt len tst ten) s.heap.size = A at hD ⊢
  have hA : ∀ q : Nat, s.heap.size ≤ q → A q := fun q h => by rw [← hAe]; exact Or.inr h
  have hS : va_S A s.heap s.heap [] := va_S.rf
  have hl := lv_entry ([.ref (a 14), .int least, .int most]) (n := 6) (Nat.le_of_ble_eq_true rfl)
  rw [lg_entry_eq]
  generalize (lg_sl ([.ref (a 14), .int least, .int most]) ++ List.replicate (6 - (lg_sl ([.ref (a 14), .int least, .int most])).length) Slot.unset).toArray = ls at hl ⊢
  have hl : lv_has ls 6 [(0, .ref (a 14)), (1, .int least), (2, .int most)] := hl
  refine lv_aload_n hx hb dX7_readNumber_0 rfl (lv_at hl 0 rfl) ?_
  refine wvV (As := []) (rest := []) (wr := []) (w2 := (fun u : US => (wTxt cI cZ cQ a byt len (u.1 0 0) (u.1 1 0)))) ⟨hx, hb, hml, hown, hts⟩ (k_X7_nextToken2 l dC dI cI cZ cQ a byt len tst ten _ r_len r_tst r_ten (by omega)) (cwV 0 hts gX7_readNumber_X7_nextToken rfl rfl rfl (by decide +kernel) ⟨Nat.le_of_ble_eq_true rfl, Nat.le_of_ble_eq_true rfl⟩) hP hD hS hA hK hN [0, 1] [] [0, 1] rfl rfl (by decide) (by decide) (by decide) (fun _ => rfl) (by decide) 0 7 rfl rfl rfl hl.1 rfl (Nat.le_of_ble_eq_true rfl) dX7_readNumber_1 ⟨Nat.le_of_ble_eq_true rfl, Nat.le_of_ble_eq_true rfl⟩ (fun u3 H locs h2 hP hD hS => ?_)
  obtain ⟨tst_c4, etst_c4⟩ : ∃ f : Int32, f = (u3.1 0 0) := ⟨_, rfl⟩
  obtain ⟨ten_c5, eten_c5⟩ : ∃ f : Int32, f = (u3.1 1 0) := ⟨_, rfl⟩
  have hP : va_P (dC, dI) vwCl (wTxt cI cZ cQ a byt len tst_c4 ten_c5) H := by rw [etst_c4, eten_c5]; exact hP
  have hD : va_D A (wTxt cI cZ cQ a byt len tst_c4 ten_c5) := by rw [etst_c4, eten_c5]; exact hD
  have h2 : (tst_c4.toInt ≤ ten_c5.toInt) ∧ (ten_c5.toInt ≤ len.toInt) ∧ (tst_c4.toInt = tS byt len.toInt ten.toInt) ∧ (ten_c5.toInt = tE byt len.toInt tst_c4.toInt) ∧ (0 ≤ tst_c4.toInt ∧ tst_c4.toInt ≤ 160) ∧ (0 ≤ ten_c5.toInt ∧ ten_c5.toInt ≤ 160) := by (try rw [etst_c4]); (try rw [eten_c5]); exact h2
  obtain ⟨h2_0, h2_1, h2_2, h2_3, h2_4, h2_5⟩ := h2
  refine lv_aload_n hx hb dX7_readNumber_4 rfl (lv_at hl 0 rfl) ?_
  refine va_get (D := (dC, dI)) (ci := 7) (v := .int ten_c5) (C := RX7) (T := TX7) (N := 4) hx hb hts inX7 hown hK hP 0 rfl rfl 3 (by decide) lf26 (fun _ h9 => h9) rfl dX7_readNumber_5 ?_
  refine lv_aload_n hx hb dX7_readNumber_8 rfl (lv_at hl 0 rfl) ?_
  refine va_get (D := (dC, dI)) (ci := 7) (v := .int tst_c4) (C := RX7) (T := TX7) (N := 4) hx hb hts inX7 hown hK hP 0 rfl rfl 2 (by decide) lf33 (fun _ h9 => h9) rfl dX7_readNumber_9 ?_
  refine lv_isub hx hb dX7_readNumber_12 ?_
  have f6 : (ten_c5 - tst_c4).toInt = (ten_c5.toInt) - (tst_c4.toInt) := subC rfl rfl (by omega) (by omega)
  refine lv_topi (fun x7 ex7 => ?_)
  have ix7 : x7.toInt = (ten_c5.toInt) - (tst_c4.toInt) := by rw [ex7]; exact f6
  refine lv_istore_n (lv' := [(3, .int x7), (0, .ref (a 14)), (1, .int least), (2, .int most)]) hx hb dX7_readNumber_13 rfl hl (by decide) rfl (fun ls hl => ?_)
  refine lv_iload_n hx hb dX7_readNumber_14 rfl (lv_at hl 0 rfl) ?_
  refine lv_iconst (v := 1) hx hb dX7_readNumber_15 (by decide) ?_
  refine lv_icmp_lt (tgt := 40) hx hb dX7_readNumber_16 (by decide) (fun c8 => ?_) (fun c8 => ?_)
  · have dc8 : x7.toInt < 1 := ltC rfl (show (1 : Int32).toInt = 1 from rfl) c8
    refine lv_iconst (v := (-1)) hx hb dX7_readNumber_40 (by decide) ?_
    exact W.iret (v := (-1)) hx hb hr (fun tq ht hW => ⟨⟨(-1), (uS [(fun _ => tst_c4), (fun _ => ten_c5)] 0 (fun _ => 0)), rfl, ⟨(show tst_c4.toInt ≤ ten_c5.toInt from by (try rw [show ((-1) : Int32).toInt = (-1) from (show ((-1) : Int32).toInt = (-1) from rfl)]); omega), (show ten_c5.toInt ≤ len.toInt from by (try rw [show ((-1) : Int32).toInt = (-1) from (show ((-1) : Int32).toInt = (-1) from rfl)]); omega), (show ((-1) : Int32).toInt = -1 ∨ (least.toInt ≤ ((-1) : Int32).toInt ∧ ((-1) : Int32).toInt ≤ most.toInt) from by (try rw [show ((-1) : Int32).toInt = (-1) from (show ((-1) : Int32).toInt = (-1) from rfl)]); omega), (show tst_c4.toInt = tS byt len.toInt ten.toInt from by (try rw [show ((-1) : Int32).toInt = (-1) from (show ((-1) : Int32).toInt = (-1) from rfl)]); assumption), (show ten_c5.toInt = nx byt len.toInt ten.toInt from by (try rw [show ((-1) : Int32).toInt = (-1) from (show ((-1) : Int32).toInt = (-1) from rfl)]); exact nx_of (by assumption) (by assumption)), (show nuP byt len.toInt ten.toInt least.toInt most.toInt ((-1) : Int32) from by (try rw [show ((-1) : Int32).toInt = (-1) from (show ((-1) : Int32).toInt = (-1) from rfl)]); (first | exact nu_n1 (by assumption) (nx_of (by assumption) (by assumption)) (by omega) | exact nu_n2 (by assumption) (nx_of (by assumption) (by assumption)) (by assumption) (by omega) | exact nu_ok (by assumption) (nx_of (by assumption) (by assumption)) i51_2 (by omega) (by assumption) (by omega) (by omega) (by omega) | exact nu_n3 (by assumption) (nx_of (by assumption) (by assumption)) i51_2 (by omega) (by omega))), h2_4, h2_5⟩, by rw [ht]; exact hP, hD⟩, hS.F ht⟩) hS.2.2 dX7_readNumber_41
  · have dc8 : 1 ≤ x7.toInt := nltC rfl (show (1 : Int32).toInt = 1 from rfl) c8
    refine lv_iload_n hx hb dX7_readNumber_19 rfl (lv_at hl 0 rfl) ?_
    refine lv_iconst (v := 2) hx hb dX7_readNumber_20 (by decide) ?_
    refine lv_icmp_gt (tgt := 40) hx hb dX7_readNumber_21 (by decide) (fun c9 => ?_) (fun c9 => ?_)
    · have dc9 : 2 < x7.toInt := ltC (show (2 : Int32).toInt = 2 from rfl) rfl c9
      refine lv_iconst (v := (-1)) hx hb dX7_readNumber_40 (by decide) ?_
      exact W.iret (v := (-1)) hx hb hr (fun tq ht hW => ⟨⟨(-1), (uS [(fun _ => tst_c4), (fun _ => ten_c5)] 0 (fun _ => 0)), rfl, ⟨(show tst_c4.toInt ≤ ten_c5.toInt from by (try rw [show ((-1) : Int32).toInt = (-1) from (show ((-1) : Int32).toInt = (-1) from rfl)]); omega), (show ten_c5.toInt ≤ len.toInt from by (try rw [show ((-1) : Int32).toInt = (-1) from (show ((-1) : Int32).toInt = (-1) from rfl)]); omega), (show ((-1) : Int32).toInt = -1 ∨ (least.toInt ≤ ((-1) : Int32).toInt ∧ ((-1) : Int32).toInt ≤ most.toInt) from by (try rw [show ((-1) : Int32).toInt = (-1) from (show ((-1) : Int32).toInt = (-1) from rfl)]); omega), (show tst_c4.toInt = tS byt len.toInt ten.toInt from by (try rw [show ((-1) : Int32).toInt = (-1) from (show ((-1) : Int32).toInt = (-1) from rfl)]); assumption), (show ten_c5.toInt = nx byt len.toInt ten.toInt from by (try rw [show ((-1) : Int32).toInt = (-1) from (show ((-1) : Int32).toInt = (-1) from rfl)]); exact nx_of (by assumption) (by assumption)), (show nuP byt len.toInt ten.toInt least.toInt most.toInt ((-1) : Int32) from by (try rw [show ((-1) : Int32).toInt = (-1) from (show ((-1) : Int32).toInt = (-1) from rfl)]); (first | exact nu_n1 (by assumption) (nx_of (by assumption) (by assumption)) (by omega) | exact nu_n2 (by assumption) (nx_of (by assumption) (by assumption)) (by assumption) (by omega) | exact nu_ok (by assumption) (nx_of (by assumption) (by assumption)) i51_2 (by omega) (by assumption) (by omega) (by omega) (by omega) | exact nu_n3 (by assumption) (nx_of (by assumption) (by assumption)) i51_2 (by omega) (by omega))), h2_4, h2_5⟩, by rw [ht]; exact hP, hD⟩, hS.F ht⟩) hS.2.2 dX7_readNumber_41
    · have dc9 : x7.toInt ≤ 2 := nltC (show (2 : Int32).toInt = 2 from rfl) rfl c9
      refine lv_aload_n hx hb dX7_readNumber_24 rfl (lv_at hl 1 rfl) ?_
      refine va_get (D := (dC, dI)) (ci := 7) (v := .ref (a 15)) (C := RX7) (T := TX7) (N := 4) hx hb hts inX7 hown hK hP 0 rfl rfl 0 (by decide) lf9 (fun _ h9 => h9) rfl dX7_readNumber_25 ?_
      refine lv_aload_n hx hb dX7_readNumber_28 rfl (lv_at hl 1 rfl) ?_
      refine va_get (D := (dC, dI)) (ci := 7) (v := .int tst_c4) (C := RX7) (T := TX7) (N := 4) hx hb hts inX7 hown hK hP 0 rfl rfl 2 (by decide) lf33 (fun _ h9 => h9) rfl dX7_readNumber_29 ?_
      have b10 : vp_in tst_c4 160 := inC rfl (by omega) (by omega)
      refine va_iald hx hb hK hP 1 0 rfl rfl b10 dX7_readNumber_32 ?_
      refine rdS (As := [.int (byt tst_c4.toNatClampNeg)]) (rest := []) ⟨hx, hb, hml, hown, hts⟩ (k_X7_kindOf2 l dC dI cI cZ cQ (byt tst_c4.toNatClampNeg)) (va_cwS 1 hts gX7_readNumber_X7_kindOf rfl rfl rfl (by decide +kernel) ⟨Nat.le_of_ble_eq_true rfl, Nat.le_of_ble_eq_true rfl⟩) hP hK hN [] rfl rfl hl.1 rfl (Nat.le_of_ble_eq_true rfl) dX7_readNumber_33 ⟨Nat.le_of_ble_eq_true rfl, Nat.le_of_ble_eq_true rfl⟩ (fun r11 h12 => ?_)
      have h12 : (1 ≤ r11.toInt) ∧ (r11.toInt ≤ 3) ∧ (r11.toInt = knd (byt tst_c4.toNatClampNeg)) := h12
      obtain ⟨h12_0, h12_1, h12_2⟩ := h12
      refine lv_iconst (v := 2) hx hb dX7_readNumber_36 (by decide) ?_
      refine lv_icmp_eq (tgt := 42) hx hb dX7_readNumber_37 (by decide) (fun c13 => ?_) (fun c13 => ?_)
      · have dc13 : r11.toInt = 2 := eqC rfl (show (2 : Int32).toInt = 2 from rfl) c13
        refine lv_iconst (v := 0) hx hb dX7_readNumber_42 (by decide) ?_
        refine lv_istore (lv' := [(4, .int 0), (3, .int x7), (0, .ref (a 14)), (1, .int least), (2, .int most)]) hx hb dX7_readNumber_43 hl (by decide) rfl (fun ls hl => ?_)
        refine lv_aload_n hx hb dX7_readNumber_45 rfl (lv_at hl 2 rfl) ?_
        refine va_get (D := (dC, dI)) (ci := 7) (v := .int tst_c4) (C := RX7) (T := TX7) (N := 4) hx hb hts inX7 hown hK hP 0 rfl rfl 2 (by decide) lf33 (fun _ h9 => h9) rfl dX7_readNumber_46 ?_
        refine lv_istore (lv' := [(5, .int tst_c4), (4, .int 0), (3, .int x7), (0, .ref (a 14)), (1, .int least), (2, .int most)]) hx hb dX7_readNumber_49 hl (by decide) rfl (fun ls hl => ?_)
        have L51 : ∀ (nn : Nat) (y51_4 : Int32) (y51_5 : Int32) (H : Heap) (locs : List Loc) (ls : Array Slot), (0 ≤ (y51_5.toInt)) → ((y51_5.toInt) ≤ 160) → (y51_4 = nvF byt tst_c4.toInt ((y51_5.toInt) - tst_c4.toInt).toNat) → (tst_c4.toInt ≤ (y51_5.toInt)) → ((y51_5.toInt) ≤ ten_c5.toInt) → (160 - (y51_5.toInt)).toNat < nn → va_P (dC, dI) vwCl (wTxt cI cZ cQ a byt len tst_c4 ten_c5) H → va_D A (wTxt cI cZ cQ a byt len tst_c4 ten_c5) → va_S A s.heap H locs → lv_has ls 6 [(0, .ref (a 14)), (1, .int least), (2, .int most), (4, .int y51_4), (5, .int y51_5)] → W p l e (headSpec wsX7_readNumber { frames := 3, cells := 0, slots := 0, locals := 64 }).room s m ([.ref (a 14), .int least, .int most] : List Value).toArray below meth c H locs 0 0 (MQ below (va_Qi (fun (r : Int32) (u : US) => ((u.1 0 0).toInt ≤ (u.1 1 0).toInt) ∧ ((u.1 1 0).toInt ≤ len.toInt) ∧ (r.toInt = -1 ∨ (least.toInt ≤ r.toInt ∧ r.toInt ≤ most.toInt)) ∧ ((u.1 0 0).toInt = tS byt len.toInt ten.toInt) ∧ ((u.1 1 0).toInt = nx byt len.toInt ten.toInt) ∧ (nuP byt len.toInt ten.toInt least.toInt most.toInt r) ∧ (0 ≤ (u.1 0 0).toInt ∧ (u.1 0 0).toInt ≤ 160) ∧ (0 ≤ (u.1 1 0).toInt ∧ (u.1 1 0).toInt ≤ 160)) (Bw (dC, dI) A (fun u : US => (wTxt cI cZ cQ a byt len (u.1 0 0) (u.1 1 0)))) A) ([.ref (a 14), .int least, .int most] : List Value).toArray s 0 0 A) (F0 m 51 ls []) := by
          intro nn
          induction nn with
          | zero =>
            intro y51_4 y51_5 H locs ls i51_0 i51_1 i51_2 i51_3 i51_4 hm51
            exact absurd hm51 (Nat.not_lt_zero _)
          | succ nn ih51 =>
            intro y51_4 y51_5 H locs ls i51_0 i51_1 i51_2 i51_3 i51_4 hm51 hP hD hS hl
            refine lv_iload hx hb dX7_readNumber_51 (lv_at hl 4 rfl) ?_
            refine lv_aload_n hx hb dX7_readNumber_53 rfl (lv_at hl 0 rfl) ?_
            refine va_get (D := (dC, dI)) (ci := 7) (v := .int ten_c5) (C := RX7) (T := TX7) (N := 4) hx hb hts inX7 hown hK hP 0 rfl rfl 3 (by decide) lf26 (fun _ h9 => h9) rfl dX7_readNumber_54 ?_
            refine lv_icmp_ge (tgt := 84) hx hb dX7_readNumber_57 (by decide) (fun c14 => ?_) (fun c14 => ?_)
            · have dc14 : ten_c5.toInt ≤ y51_5.toInt := leC rfl rfl c14
              refine lv_iload hx hb dX7_readNumber_84 (lv_at hl 3 rfl) ?_
              refine lv_iload_n hx hb dX7_readNumber_86 rfl (lv_at hl 1 rfl) ?_
              refine lv_iload_n hx hb dX7_readNumber_87 rfl (lv_at hl 2 rfl) ?_
              refine rdSN (As := [.int y51_4, .int least, .int most]) (rest := []) ⟨hx, hb, hml, hown, hts⟩ (k_X9_within l dC dI cI cZ cQ y51_4 least most) ⟨va_cnB (host := "PalaceOfRooms") 3 hts gX7_readNumber_X9_within_n80 rfl rfl rfl (hN _ (by decide +kernel)) (hts (.initialized RX9) (List.mem_cons_of_mem _ (List.mem_append_left _ (List.mem_of_getElem? (i := 13) rfl)))) (by decide +kernel) ⟨Nat.le_of_ble_eq_true rfl, Nat.le_of_ble_eq_true rfl⟩, hts (.static yX9_within) (List.mem_cons_of_mem _ (List.mem_append_left _ (List.mem_of_getElem? (i := 12) rfl))), trivial⟩ hP hK hN [] rfl rfl hl.1 rfl (Nat.le_of_ble_eq_true rfl) dX7_readNumber_88 ⟨Nat.le_of_ble_eq_true rfl, Nat.le_of_ble_eq_true rfl⟩ (fun r15 h16 => ?_)
              have h16 : ((((r15 = 1) ∧ (least.toInt ≤ y51_4.toInt) ∧ (y51_4.toInt ≤ most.toInt)) ∨ ((r15 = 0) ∧ (y51_4.toInt < least.toInt ∨ most.toInt < y51_4.toInt)))) := h16
              rcases h16 with (⟨rfl, h16_a0, h16_a1⟩ | ⟨rfl, h16_a0⟩)
              · refine lv_if_eq (tgt := 99) hx hb dX7_readNumber_91 (by decide) (fun c9 => absurd c9 (by decide)) (fun _ => ?_)
                refine lv_iload hx hb dX7_readNumber_94 (lv_at hl 3 rfl) ?_
                refine lv_goto (tgt := 100) hx hb dX7_readNumber_96 (by decide) ?_
                exact W.iret (v := y51_4) hx hb hr (fun tq ht hW => ⟨⟨y51_4, (uS [(fun _ => tst_c4), (fun _ => ten_c5)] 0 (fun _ => 0)), rfl, ⟨(show tst_c4.toInt ≤ ten_c5.toInt from by omega), (show ten_c5.toInt ≤ len.toInt from by omega), (show y51_4.toInt = -1 ∨ (least.toInt ≤ y51_4.toInt ∧ y51_4.toInt ≤ most.toInt) from by omega), (show tst_c4.toInt = tS byt len.toInt ten.toInt from by assumption), (show ten_c5.toInt = nx byt len.toInt ten.toInt from by exact nx_of (by assumption) (by assumption)), (show nuP byt len.toInt ten.toInt least.toInt most.toInt y51_4 from by (first | exact nu_n1 (by assumption) (nx_of (by assumption) (by assumption)) (by omega) | exact nu_n2 (by assumption) (nx_of (by assumption) (by assumption)) (by assumption) (by omega) | exact nu_ok (by assumption) (nx_of (by assumption) (by assumption)) i51_2 (by omega) (by assumption) (by omega) (by omega) (by omega) | exact nu_n3 (by assumption) (nx_of (by assumption) (by assumption)) i51_2 (by omega) (by omega))), h2_4, h2_5⟩, by rw [ht]; exact hP, hD⟩, hS.F ht⟩) hS.2.2 dX7_readNumber_100
              · refine lv_if_eq (tgt := 99) hx hb dX7_readNumber_91 (by decide) (fun _ => ?_) (fun c9 => absurd (by decide) c9)
                refine lv_iconst (v := (-1)) hx hb dX7_readNumber_99 (by decide) ?_
                exact W.iret (v := (-1)) hx hb hr (fun tq ht hW => ⟨⟨(-1), (uS [(fun _ => tst_c4), (fun _ => ten_c5)] 0 (fun _ => 0)), rfl, ⟨(show tst_c4.toInt ≤ ten_c5.toInt from by (try rw [show ((-1) : Int32).toInt = (-1) from (show ((-1) : Int32).toInt = (-1) from rfl)]); omega), (show ten_c5.toInt ≤ len.toInt from by (try rw [show ((-1) : Int32).toInt = (-1) from (show ((-1) : Int32).toInt = (-1) from rfl)]); omega), (show ((-1) : Int32).toInt = -1 ∨ (least.toInt ≤ ((-1) : Int32).toInt ∧ ((-1) : Int32).toInt ≤ most.toInt) from by (try rw [show ((-1) : Int32).toInt = (-1) from (show ((-1) : Int32).toInt = (-1) from rfl)]); omega), (show tst_c4.toInt = tS byt len.toInt ten.toInt from by (try rw [show ((-1) : Int32).toInt = (-1) from (show ((-1) : Int32).toInt = (-1) from rfl)]); assumption), (show ten_c5.toInt = nx byt len.toInt ten.toInt from by (try rw [show ((-1) : Int32).toInt = (-1) from (show ((-1) : Int32).toInt = (-1) from rfl)]); exact nx_of (by assumption) (by assumption)), (show nuP byt len.toInt ten.toInt least.toInt most.toInt ((-1) : Int32) from by (try rw [show ((-1) : Int32).toInt = (-1) from (show ((-1) : Int32).toInt = (-1) from rfl)]); (first | exact nu_n1 (by assumption) (nx_of (by assumption) (by assumption)) (by omega) | exact nu_n2 (by assumption) (nx_of (by assumption) (by assumption)) (by assumption) (by omega) | exact nu_ok (by assumption) (nx_of (by assumption) (by assumption)) i51_2 (by omega) (by assumption) (by omega) (by omega) (by omega) | exact nu_n3 (by assumption) (nx_of (by assumption) (by assumption)) i51_2 (by omega) (by omega))), h2_4, h2_5⟩, by rw [ht]; exact hP, hD⟩, hS.F ht⟩) hS.2.2 dX7_readNumber_100
            · have dc14 : y51_5.toInt < ten_c5.toInt := nleC rfl rfl c14
              refine lv_iload hx hb dX7_readNumber_60 (lv_at hl 3 rfl) ?_
              refine lv_bipush (v := 10) hx hb dX7_readNumber_62 (by decide) ?_
              refine lv_imul hx hb dX7_readNumber_64 ?_
              refine lv_aload_n hx hb dX7_readNumber_65 rfl (lv_at hl 0 rfl) ?_
              refine va_get (D := (dC, dI)) (ci := 7) (v := .ref (a 15)) (C := RX7) (T := TX7) (N := 4) hx hb hts inX7 hown hK hP 0 rfl rfl 0 (by decide) lf9 (fun _ h9 => h9) rfl dX7_readNumber_66 ?_
              refine lv_iload hx hb dX7_readNumber_69 (lv_at hl 4 rfl) ?_
              have b17 : vp_in y51_5 160 := inC rfl (by omega) (by omega)
              refine va_iald hx hb hK hP 1 0 rfl rfl b17 dX7_readNumber_71 ?_
              refine lv_iadd hx hb dX7_readNumber_72 ?_
              refine lv_bipush (v := 48) hx hb dX7_readNumber_73 (by decide) ?_
              refine lv_isub hx hb dX7_readNumber_75 ?_
              refine lv_topi (fun x18 ex18 => ?_)
              have ix18 : x18.toInt = (((y51_4 * 10) + (byt y51_5.toNatClampNeg)) - 48).toInt := by rw [ex18]
              refine lv_istore (lv' := [(4, .int x18), (0, .ref (a 14)), (1, .int least), (2, .int most), (5, .int y51_5)]) hx hb dX7_readNumber_76 hl (by decide) rfl (fun ls hl => ?_)
              obtain ⟨z19, ez19⟩ : ∃ y : Int32, y = y51_5 + 1 := ⟨_, rfl⟩
              have iz19 : z19.toInt = y51_5.toInt + 1 := by rw [ez19]; exact addC rfl rfl (by omega) (by omega)
              refine lv_iinc (v := z19) (lv' := [(5, .int z19), (4, .int x18), (0, .ref (a 14)), (1, .int least), (2, .int most)]) hx hb dX7_readNumber_78 hl (k := 4) rfl (by rw [ez19]; rfl) (by decide) rfl (fun ls hl => ?_)
              refine lv_goto (tgt := 51) hx hb dX7_readNumber_81 (by decide) ?_
              exact ih51 x18 z19 _ _ _ (by omega) (by omega) (by (first | exact nv_stepC (y := y51_5) i51_2 (by omega) (by omega) (by assumption) | exact nv_zero (by omega))) (by omega) (by omega) (by omega) hP hD hS (lv_sub hl [2, 3, 4, 1, 0] rfl)
        have kc20 : (0 : Int32).toInt = 0 := rfl
        exact L51 _ 0 tst_c4 _ _ _ (by omega) (by omega) (by (first | exact nv_zero (by omega) | exact nv_stepC (y := y51_5) i51_2 (by omega) (by omega) (by assumption))) (by omega) (by omega) (Nat.lt_succ_self _) hP hD hS (lv_sub hl [3, 4, 5, 1, 0] rfl)
      · have dc13 : r11.toInt ≠ 2 := neC rfl (show (2 : Int32).toInt = 2 from rfl) c13
        refine lv_iconst (v := (-1)) hx hb dX7_readNumber_40 (by decide) ?_
        exact W.iret (v := (-1)) hx hb hr (fun tq ht hW => ⟨⟨(-1), (uS [(fun _ => tst_c4), (fun _ => ten_c5)] 0 (fun _ => 0)), rfl, ⟨(show tst_c4.toInt ≤ ten_c5.toInt from by (try rw [show ((-1) : Int32).toInt = (-1) from (show ((-1) : Int32).toInt = (-1) from rfl)]); omega), (show ten_c5.toInt ≤ len.toInt from by (try rw [show ((-1) : Int32).toInt = (-1) from (show ((-1) : Int32).toInt = (-1) from rfl)]); omega), (show ((-1) : Int32).toInt = -1 ∨ (least.toInt ≤ ((-1) : Int32).toInt ∧ ((-1) : Int32).toInt ≤ most.toInt) from by (try rw [show ((-1) : Int32).toInt = (-1) from (show ((-1) : Int32).toInt = (-1) from rfl)]); omega), (show tst_c4.toInt = tS byt len.toInt ten.toInt from by (try rw [show ((-1) : Int32).toInt = (-1) from (show ((-1) : Int32).toInt = (-1) from rfl)]); assumption), (show ten_c5.toInt = nx byt len.toInt ten.toInt from by (try rw [show ((-1) : Int32).toInt = (-1) from (show ((-1) : Int32).toInt = (-1) from rfl)]); exact nx_of (by assumption) (by assumption)), (show nuP byt len.toInt ten.toInt least.toInt most.toInt ((-1) : Int32) from by (try rw [show ((-1) : Int32).toInt = (-1) from (show ((-1) : Int32).toInt = (-1) from rfl)]); (first | exact nu_n1 (by assumption) (nx_of (by assumption) (by assumption)) (by omega) | exact nu_n2 (by assumption) (nx_of (by assumption) (by assumption)) (by assumption) (by omega) | exact nu_ok (by assumption) (nx_of (by assumption) (by assumption)) i51_2 (by omega) (by assumption) (by omega) (by omega) (by omega) | exact nu_n3 (by assumption) (nx_of (by assumption) (by assumption)) i51_2 (by omega) (by omega))), h2_4, h2_5⟩, by rw [ht]; exact hP, hD⟩, hS.F ht⟩) hS.2.2 dX7_readNumber_41
set_option maxHeartbeats 4000000 in
set_option maxRecDepth 100000 in
theorem k_X7_readRoomLine2 (l : Launch) (dC : Nat → ClassId) (dI : Nat → Nat → Nat) (cI cZ cQ : ClassId) (a : Nat → Nat) (rb0 : Nat) (rb1 : Nat) (rb2 : Nat) (byt : Nat → Int32) (len : Int32) (tst : Int32) (ten : Int32) (mos : Nat → Int32) (wev : Nat → Int32) (aga : Int32) (apa : Int32) (lin : Int32) (sz : Nat) (r_len : 0 ≤ len.toInt ∧ len.toInt ≤ 160) (r_tst : 0 ≤ tst.toInt ∧ tst.toInt ≤ 160) (r_ten : 0 ≤ ten.toInt ∧ ten.toInt ≤ 160) (q0 : ten.toInt ≤ len.toInt) : KW l yX7_readRoomLine wsX7_readRoomLine { frames := 4, cells := 0, slots := 0, locals := 89 } (dC, dI) (TY cI cZ cQ) (wTxR cI cZ cQ a rb0 rb1 rb2 byt len tst ten mos wev aga apa lin) [.ref (a 14), .ref rb0] sz 0 0 (fun (r : Int32) (u : US) => ((((r = 1) ∧ (∃ x y : Int32, rmT byt len.toInt ten.toInt x y (u.1 0 0).toInt (u.1 1 0).toInt ∧ (u.1 2) = upd mos x.toNatClampNeg y)) ∨ ((r = 0) ∧ (rmN byt len.toInt ten.toInt (u.1 0 0).toInt)))) ∧ ((u.1 0 0).toInt ≤ (u.1 1 0).toInt) ∧ ((u.1 1 0).toInt ≤ len.toInt) ∧ (0 ≤ (u.1 0 0).toInt ∧ (u.1 0 0).toInt ≤ 160) ∧ (0 ≤ (u.1 1 0).toInt ∧ (u.1 1 0).toInt ≤ 160)) (fun u : US => (wTxR cI cZ cQ a rb0 rb1 rb2 byt len (u.1 0 0) (u.1 1 0) (u.1 2) wev aga apa lin)) := by
  refine Met.ofW (cc := cX7_readRoomLine) (maxL := 3) (ret := (some .boolean)) (by decide) rfl ?_
  intro p e s m args below meth c s₁ B hml hv
  obtain ⟨rfl, hsz, hP, hK, hD0, hN⟩ := hv
  have hx := B.exec
  have hb := B.bytes
  have hr := B.returns
  have hts := atoms_spec (ws := wsX7_readRoomLine) B.pre
  have hown : s.vm.findClass RX7 = some m.cls := findClass_of_methodNamed B.named
  have hlocks := B.notSynchronized
  have lf68 := hN.use (w := .fieldLinkNest "PalaceOfRooms$Text" 68 "PalaceOfRooms$RuleBook" "mostIn" "[I" "PalaceOfRooms") (List.mem_of_getElem? (i := 21) rfl) ([.ref (a 14), .ref rb0] : List Value).toArray
  have inX5 : ∀ w ∈ wsX50, w ∈ wsX7_readRoomLine := fun w h => List.mem_cons_of_mem _ (List.mem_append_left _ (List.mem_append_right _ h))
  subst hsz
  have hD := hD0.self (sz := s.heap.size)
  generalize hAe : va_A (wTxR cI cZ cQ a rb0 rb1 rb2 byt len tst ten mos wev aga apa lin) s.heap.size = A at hD ⊢
  have hA : ∀ q : Nat, s.heap.size ≤ q → A q := fun q h => by rw [← hAe]; exact Or.inr h
  have hS : va_S A s.heap s.heap [] := va_S.rf
  have hl := lv_entry ([.ref (a 14), .ref rb0]) (n := 3) (Nat.le_of_ble_eq_true rfl)
  rw [lg_entry_eq]
  generalize (lg_sl ([.ref (a 14), .ref rb0]) ++ List.replicate (3 - (lg_sl ([.ref (a 14), .ref rb0])).length) Slot.unset).toArray = ls at hl ⊢
  have hl : lv_has ls 3 [(0, .ref (a 14)), (1, .ref rb0)] := hl
  refine lv_aload_n hx hb dX7_readRoomLine_0 rfl (lv_at hl 0 rfl) ?_
  refine lv_iconst (v := 0) hx hb dX7_readRoomLine_1 (by decide) ?_
  refine lv_bipush (v := 7) hx hb dX7_readRoomLine_2 (by decide) ?_
  refine wrV (As := [.int 0, .int 7]) (rest := []) (wr := [(rb0, .inr (5, [.ref rb1, .ref rb2, .int aga, .int apa, .int lin])), (rb1, .inl (cI, 8, .inl mos)), (rb2, .inl (cI, 8, .inl wev))]) (w2 := (fun u : US => (wTxR cI cZ cQ a rb0 rb1 rb2 byt len (u.1 0 0) (u.1 1 0) mos wev aga apa lin))) ⟨hx, hb, hml, hown, hts⟩ (k_X7_readNumber2 l dC dI cI cZ cQ a byt len tst ten _ (0 : Int32) (7 : Int32) r_len r_tst r_ten (by omega)) (cwV 2 hts gX7_readRoomLine_X7_readNumber rfl rfl rfl (by decide +kernel) ⟨Nat.le_of_ble_eq_true rfl, Nat.le_of_ble_eq_true rfl⟩) hP hD hS hA hK hN [0, 1] [2, 3, 4] [3, 4, 0, 1, 2] rfl rfl (by decide) (by decide) (by decide) (fun _ => rfl) (by decide) 0 7 rfl rfl rfl hl.1 rfl (Nat.le_of_ble_eq_true rfl) dX7_readRoomLine_4 ⟨Nat.le_of_ble_eq_true rfl, Nat.le_of_ble_eq_true rfl⟩ (fun r1 u3 H locs h2 hP hD hS => ?_)
  obtain ⟨tst_c4, etst_c4⟩ : ∃ f : Int32, f = (u3.1 0 0) := ⟨_, rfl⟩
  obtain ⟨ten_c5, eten_c5⟩ : ∃ f : Int32, f = (u3.1 1 0) := ⟨_, rfl⟩
  have hP : va_P (dC, dI) vwCl (wTxR cI cZ cQ a rb0 rb1 rb2 byt len tst_c4 ten_c5 mos wev aga apa lin) H := by rw [etst_c4, eten_c5]; exact hP
  have hD : va_D A (wTxR cI cZ cQ a rb0 rb1 rb2 byt len tst_c4 ten_c5 mos wev aga apa lin) := by rw [etst_c4, eten_c5]; exact hD
  have h2 : (tst_c4.toInt ≤ ten_c5.toInt) ∧ (ten_c5.toInt ≤ len.toInt) ∧ (r1.toInt = -1 ∨ ((0) ≤ r1.toInt ∧ r1.toInt ≤ (7))) ∧ (tst_c4.toInt = tS byt len.toInt ten.toInt) ∧ (ten_c5.toInt = nx byt len.toInt ten.toInt) ∧ (nuP byt len.toInt ten.toInt (0) (7) r1) ∧ (0 ≤ tst_c4.toInt ∧ tst_c4.toInt ≤ 160) ∧ (0 ≤ ten_c5.toInt ∧ ten_c5.toInt ≤ 160) := by (try rw [etst_c4]); (try rw [eten_c5]); exact h2
  obtain ⟨h2_0, h2_1, h2_2, h2_3, h2_4, h2_5, h2_6, h2_7⟩ := h2
  refine lv_istore_n (lv' := [(2, .int r1), (0, .ref (a 14)), (1, .ref rb0)]) hx hb dX7_readRoomLine_7 rfl hl (by decide) rfl (fun ls hl => ?_)
  refine lv_iload_n hx hb dX7_readRoomLine_8 rfl (lv_at hl 0 rfl) ?_
  refine lv_iconst (v := (-1)) hx hb dX7_readRoomLine_9 (by decide) ?_
  refine lv_icmp_ne (tgt := 15) hx hb dX7_readRoomLine_10 (by decide) (fun c6 => ?_) (fun c6 => ?_)
  · have dc6 : r1.toInt ≠ (-1) := neC rfl (show ((-1) : Int32).toInt = (-1) from rfl) c6
    refine lv_aload_n hx hb dX7_readRoomLine_15 rfl (lv_at hl 2 rfl) ?_
    refine va_getN (D := (dC, dI)) (ci := 5) (v := .ref rb1) (C := RX5) (T := TX5) (N := 5) hx hb hts inX5 hown hK hP 2 rfl rfl 0 (by decide) lf68 (fun _ h9 => h9) rfl dX7_readRoomLine_16 ?_
    refine lv_iload_n hx hb dX7_readRoomLine_19 rfl (lv_at hl 0 rfl) ?_
    refine lv_aload_n hx hb dX7_readRoomLine_20 rfl (lv_at hl 1 rfl) ?_
    refine lv_iconst (v := 0) hx hb dX7_readRoomLine_21 (by decide) ?_
    refine lv_bipush (v := 8) hx hb dX7_readRoomLine_22 (by decide) ?_
    refine wrV (As := [.int 0, .int 8]) (rest := [.int r1, .ref rb1]) (wr := [(rb0, .inr (5, [.ref rb1, .ref rb2, .int aga, .int apa, .int lin])), (rb1, .inl (cI, 8, .inl mos)), (rb2, .inl (cI, 8, .inl wev))]) (w2 := (fun u : US => (wTxR cI cZ cQ a rb0 rb1 rb2 byt len (u.1 0 0) (u.1 1 0) mos wev aga apa lin))) ⟨hx, hb, hml, hown, hts⟩ (k_X7_readNumber2 l dC dI cI cZ cQ a byt len tst_c4 ten_c5 _ (0 : Int32) (8 : Int32) r_len h2_6 h2_7 (by omega)) (cwV 2 hts gX7_readRoomLine_X7_readNumber rfl rfl rfl (by decide +kernel) ⟨Nat.le_of_ble_eq_true rfl, Nat.le_of_ble_eq_true rfl⟩) hP hD hS hA hK hN [0, 1] [2, 3, 4] [3, 4, 0, 1, 2] rfl rfl (by decide) (by decide) (by decide) (fun _ => rfl) (by decide) 0 7 rfl rfl rfl hl.1 rfl (Nat.le_of_ble_eq_true rfl) dX7_readRoomLine_24 ⟨Nat.le_of_ble_eq_true rfl, Nat.le_of_ble_eq_true rfl⟩ (fun r7 u9 H locs h8 hP hD hS => ?_)
    obtain ⟨tst_c10, etst_c10⟩ : ∃ f : Int32, f = (u9.1 0 0) := ⟨_, rfl⟩
    obtain ⟨ten_c11, eten_c11⟩ : ∃ f : Int32, f = (u9.1 1 0) := ⟨_, rfl⟩
    have hP : va_P (dC, dI) vwCl (wTxR cI cZ cQ a rb0 rb1 rb2 byt len tst_c10 ten_c11 mos wev aga apa lin) H := by rw [etst_c10, eten_c11]; exact hP
    have hD : va_D A (wTxR cI cZ cQ a rb0 rb1 rb2 byt len tst_c10 ten_c11 mos wev aga apa lin) := by rw [etst_c10, eten_c11]; exact hD
    have h8 : (tst_c10.toInt ≤ ten_c11.toInt) ∧ (ten_c11.toInt ≤ len.toInt) ∧ (r7.toInt = -1 ∨ ((0) ≤ r7.toInt ∧ r7.toInt ≤ (8))) ∧ (tst_c10.toInt = tS byt len.toInt ten_c5.toInt) ∧ (ten_c11.toInt = nx byt len.toInt ten_c5.toInt) ∧ (nuP byt len.toInt ten_c5.toInt (0) (8) r7) ∧ (0 ≤ tst_c10.toInt ∧ tst_c10.toInt ≤ 160) ∧ (0 ≤ ten_c11.toInt ∧ ten_c11.toInt ≤ 160) := by (try rw [etst_c10]); (try rw [eten_c11]); exact h8
    obtain ⟨h8_0, h8_1, h8_2, h8_3, h8_4, h8_5, h8_6, h8_7⟩ := h8
    have b12 : vp_in r1 8 := inC rfl (by omega) (by omega)
    refine va_iast hx hb hK hP hD hS 3 0 rfl rfl b12 dX7_readRoomLine_27 (fun H locs hP hD hS => ?_)
    obtain ⟨mos_u13, emos_u13⟩ : ∃ f : Nat → Int32, f = upd mos r1.toNatClampNeg r7 := ⟨_, rfl⟩
    have hP : va_P (dC, dI) vwCl (wTxR cI cZ cQ a rb0 rb1 rb2 byt len tst_c10 ten_c11 mos_u13 wev aga apa lin) H := by rw [emos_u13]; exact hP
    have hD : va_D A (wTxR cI cZ cQ a rb0 rb1 rb2 byt len tst_c10 ten_c11 mos_u13 wev aga apa lin) := by rw [emos_u13]; exact hD
    refine lv_aload_n hx hb dX7_readRoomLine_28 rfl (lv_at hl 2 rfl) ?_
    refine va_getN (D := (dC, dI)) (ci := 5) (v := .ref rb1) (C := RX5) (T := TX5) (N := 5) hx hb hts inX5 hown hK hP 2 rfl rfl 0 (by decide) lf68 (fun _ h9 => h9) rfl dX7_readRoomLine_29 ?_
    refine lv_iload_n hx hb dX7_readRoomLine_32 rfl (lv_at hl 0 rfl) ?_
    have b14 : vp_in r1 8 := inC rfl (by omega) (by omega)
    refine va_iald hx hb hK hP 3 0 rfl rfl b14 dX7_readRoomLine_33 ?_
    have o15 : (mos_u13 r1.toNatClampNeg).toInt = r7.toInt := by rw [emos_u13, pk_us]
    refine lv_iconst (v := (-1)) hx hb dX7_readRoomLine_34 (by decide) ?_
    refine lv_icmp_eq (tgt := 42) hx hb dX7_readRoomLine_35 (by decide) (fun c16 => ?_) (fun c16 => ?_)
    · have dc16 : (mos_u13 r1.toNatClampNeg).toInt = (-1) := eqC rfl (show ((-1) : Int32).toInt = (-1) from rfl) c16
      refine lv_iconst (v := 0) hx hb dX7_readRoomLine_42 (by decide) ?_
      exact W.zret (v := 0) hx hb hr (by decide) (fun tq ht hW => ⟨⟨0, (uS [(fun _ => tst_c10), (fun _ => ten_c11), mos_u13] 0 (fun _ => 0)), rfl, ⟨(Or.inr (⟨rfl, (show rmN byt len.toInt ten.toInt tst_c10.toInt from by (try rw [show (0 : Int32).toInt = 0 from (show (0 : Int32).toInt = 0 from rfl)]); (first | exact ⟨_, _, rm_yes (by assumption) (by assumption) (by assumption) (by assumption) (ne_m1 (by omega)) (by assumption) (by assumption), by assumption⟩ | exact rm_n1 (by assumption) (by assumption) (by assumption) | exact rm_n2 (by assumption) (by assumption) (by assumption) (by assumption) (eq_m1 (by omega)) (by assumption)))⟩)), (show tst_c10.toInt ≤ ten_c11.toInt from by (try rw [show (0 : Int32).toInt = 0 from (show (0 : Int32).toInt = 0 from rfl)]); omega), (show ten_c11.toInt ≤ len.toInt from by (try rw [show (0 : Int32).toInt = 0 from (show (0 : Int32).toInt = 0 from rfl)]); omega), h8_6, h8_7⟩, by rw [ht]; exact hP, hD⟩, hS.F ht⟩) hS.2.2 dX7_readRoomLine_43
    · have dc16 : (mos_u13 r1.toNatClampNeg).toInt ≠ (-1) := neC rfl (show ((-1) : Int32).toInt = (-1) from rfl) c16
      refine lv_iconst (v := 1) hx hb dX7_readRoomLine_38 (by decide) ?_
      refine lv_goto (tgt := 43) hx hb dX7_readRoomLine_39 (by decide) ?_
      exact W.zret (v := 1) hx hb hr (by decide) (fun tq ht hW => ⟨⟨1, (uS [(fun _ => tst_c10), (fun _ => ten_c11), mos_u13] 0 (fun _ => 0)), rfl, ⟨(Or.inl (⟨rfl, (show ∃ x y : Int32, rmT byt len.toInt ten.toInt x y tst_c10.toInt ten_c11.toInt ∧ mos_u13 = upd mos x.toNatClampNeg y from by (try rw [show (1 : Int32).toInt = 1 from (show (1 : Int32).toInt = 1 from rfl)]); (first | exact ⟨_, _, rm_yes (by assumption) (by assumption) (by assumption) (by assumption) (ne_m1 (by omega)) (by assumption) (by assumption), by assumption⟩ | exact rm_n1 (by assumption) (by assumption) (by assumption) | exact rm_n2 (by assumption) (by assumption) (by assumption) (by assumption) (eq_m1 (by omega)) (by assumption)))⟩)), (show tst_c10.toInt ≤ ten_c11.toInt from by (try rw [show (1 : Int32).toInt = 1 from (show (1 : Int32).toInt = 1 from rfl)]); omega), (show ten_c11.toInt ≤ len.toInt from by (try rw [show (1 : Int32).toInt = 1 from (show (1 : Int32).toInt = 1 from rfl)]); omega), h8_6, h8_7⟩, by rw [ht]; exact hP, hD⟩, hS.F ht⟩) hS.2.2 dX7_readRoomLine_43
  · have dc6 : r1.toInt = (-1) := eqC rfl (show ((-1) : Int32).toInt = (-1) from rfl) c6
    refine lv_iconst (v := 0) hx hb dX7_readRoomLine_13 (by decide) ?_
    exact W.zret (v := 0) hx hb hr (by decide) (fun tq ht hW => ⟨⟨0, (uS [(fun _ => tst_c4), (fun _ => ten_c5), mos] 0 (fun _ => 0)), rfl, ⟨(Or.inr (⟨rfl, (show rmN byt len.toInt ten.toInt tst_c4.toInt from by (try rw [show (0 : Int32).toInt = 0 from (show (0 : Int32).toInt = 0 from rfl)]); (first | exact ⟨_, _, rm_yes (by assumption) (by assumption) (by assumption) (by assumption) (ne_m1 (by omega)) (by assumption) (by assumption), by assumption⟩ | exact rm_n1 (by assumption) (by assumption) (by assumption) | exact rm_n2 (by assumption) (by assumption) (by assumption) (by assumption) (eq_m1 (by omega)) (by assumption)))⟩)), (show tst_c4.toInt ≤ ten_c5.toInt from by (try rw [show (0 : Int32).toInt = 0 from (show (0 : Int32).toInt = 0 from rfl)]); omega), (show ten_c5.toInt ≤ len.toInt from by (try rw [show (0 : Int32).toInt = 0 from (show (0 : Int32).toInt = 0 from rfl)]); omega), h2_6, h2_7⟩, by rw [ht]; exact hP, hD⟩, hS.F ht⟩) hS.2.2 dX7_readRoomLine_14
set_option maxHeartbeats 4000000 in
set_option maxRecDepth 100000 in
theorem k_X7_readWalkLine2 (l : Launch) (dC : Nat → ClassId) (dI : Nat → Nat → Nat) (cI cZ cQ : ClassId) (a : Nat → Nat) (rb0 : Nat) (rb1 : Nat) (rb2 : Nat) (byt : Nat → Int32) (len : Int32) (tst : Int32) (ten : Int32) (mos : Nat → Int32) (wev : Nat → Int32) (aga : Int32) (apa : Int32) (lin : Int32) (ak av : Nat → Nat) (sz : Nat) (r_len : 0 ≤ len.toInt ∧ len.toInt ≤ 160) (r_tst : 0 ≤ tst.toInt ∧ tst.toInt ≤ 160) (r_ten : 0 ≤ ten.toInt ∧ ten.toInt ≤ 160) (q0 : ten.toInt ≤ len.toInt) : KWS l yX7_readWalkLine wsX7_readWalkLine { frames := 5, cells := 0, slots := 0, locals := 107 } (dC, dI) (TY cI cZ cQ) (wTxR cI cZ cQ a rb0 rb1 rb2 byt len tst ten mos wev aga apa lin) ak av [.ref (a 14), .ref rb0] sz 0 0 (fun (r : Int32) (u : US) => ((((r = 1) ∧ (∃ x y : Int32, wkT byt len.toInt ten.toInt x y (u.1 0 0).toInt (u.1 1 0).toInt ∧ (u.1 2) = upd wev x.toNatClampNeg y)) ∨ ((r = 0) ∧ (wkN byt len.toInt ten.toInt (u.1 0 0).toInt)))) ∧ ((u.1 0 0).toInt ≤ (u.1 1 0).toInt) ∧ ((u.1 1 0).toInt ≤ len.toInt) ∧ (0 ≤ (u.1 0 0).toInt ∧ (u.1 0 0).toInt ≤ 160) ∧ (0 ≤ (u.1 1 0).toInt ∧ (u.1 1 0).toInt ≤ 160)) (fun u : US => (wTxR cI cZ cQ a rb0 rb1 rb2 byt len (u.1 0 0) (u.1 1 0) mos (u.1 2) aga apa lin)) := by
  refine Met.ofW (cc := cX7_readWalkLine) (maxL := 3) (ret := (some .boolean)) (by decide) rfl ?_
  intro p e s m args below meth c s₁ B hml hv
  obtain ⟨rfl, hsz, hP, hK, hD0, hN, hSV⟩ := hv
  have hx := B.exec
  have hb := B.bytes
  have hr := B.returns
  have hts := atoms_spec (ws := wsX7_readWalkLine) B.pre
  have hown : s.vm.findClass RX7 = some m.cls := findClass_of_methodNamed B.named
  have hlocks := B.notSynchronized
  have lf73 := hN.use (w := .fieldLinkNest "PalaceOfRooms$Text" 73 "PalaceOfRooms$RuleBook" "walkEvery" "[I" "PalaceOfRooms") (List.mem_of_getElem? (i := 23) rfl) ([.ref (a 14), .ref rb0] : List Value).toArray
  have inX5 : ∀ w ∈ wsX50, w ∈ wsX7_readWalkLine := fun w h => List.mem_cons_of_mem _ (List.mem_append_left _ (List.mem_append_right _ h))
  subst hsz
  have hD := hD0.self (sz := s.heap.size)
  generalize hAe : va_A (wTxR cI cZ cQ a rb0 rb1 rb2 byt len tst ten mos wev aga apa lin) s.heap.size = A at hD hSV ⊢
  have hA : ∀ q : Nat, s.heap.size ≤ q → A q := fun q h => by rw [← hAe]; exact Or.inr h
  have hS : va_S A s.heap s.heap [] := va_S.rf
  have hl := lv_entry ([.ref (a 14), .ref rb0]) (n := 3) (Nat.le_of_ble_eq_true rfl)
  rw [lg_entry_eq]
  generalize (lg_sl ([.ref (a 14), .ref rb0]) ++ List.replicate (3 - (lg_sl ([.ref (a 14), .ref rb0])).length) Slot.unset).toArray = ls at hl ⊢
  have hl : lv_has ls 3 [(0, .ref (a 14)), (1, .ref rb0)] := hl
  refine lv_aload_n hx hb dX7_readWalkLine_0 rfl (lv_at hl 0 rfl) ?_
  refine lv_iconst (v := 0) hx hb dX7_readWalkLine_1 (by decide) ?_
  refine lv_bipush (v := 7) hx hb dX7_readWalkLine_2 (by decide) ?_
  refine wrV (As := [.int 0, .int 7]) (rest := []) (wr := [(rb0, .inr (5, [.ref rb1, .ref rb2, .int aga, .int apa, .int lin])), (rb1, .inl (cI, 8, .inl mos)), (rb2, .inl (cI, 8, .inl wev))]) (w2 := (fun u : US => (wTxR cI cZ cQ a rb0 rb1 rb2 byt len (u.1 0 0) (u.1 1 0) mos wev aga apa lin))) ⟨hx, hb, hml, hown, hts⟩ (k_X7_readNumber2 l dC dI cI cZ cQ a byt len tst ten _ (0 : Int32) (7 : Int32) r_len r_tst r_ten (by omega)) (cwV 2 hts gX7_readWalkLine_X7_readNumber rfl rfl rfl (by decide +kernel) ⟨Nat.le_of_ble_eq_true rfl, Nat.le_of_ble_eq_true rfl⟩) hP hD hS hA hK hN [0, 1] [2, 3, 4] [3, 4, 0, 1, 2] rfl rfl (by decide) (by decide) (by decide) (fun _ => rfl) (by decide) 0 7 rfl rfl rfl hl.1 rfl (Nat.le_of_ble_eq_true rfl) dX7_readWalkLine_4 ⟨Nat.le_of_ble_eq_true rfl, Nat.le_of_ble_eq_true rfl⟩ (fun r1 u3 H locs h2 hP hD hS => ?_)
  obtain ⟨tst_c4, etst_c4⟩ : ∃ f : Int32, f = (u3.1 0 0) := ⟨_, rfl⟩
  obtain ⟨ten_c5, eten_c5⟩ : ∃ f : Int32, f = (u3.1 1 0) := ⟨_, rfl⟩
  have hP : va_P (dC, dI) vwCl (wTxR cI cZ cQ a rb0 rb1 rb2 byt len tst_c4 ten_c5 mos wev aga apa lin) H := by rw [etst_c4, eten_c5]; exact hP
  have hD : va_D A (wTxR cI cZ cQ a rb0 rb1 rb2 byt len tst_c4 ten_c5 mos wev aga apa lin) := by rw [etst_c4, eten_c5]; exact hD
  have h2 : (tst_c4.toInt ≤ ten_c5.toInt) ∧ (ten_c5.toInt ≤ len.toInt) ∧ (r1.toInt = -1 ∨ ((0) ≤ r1.toInt ∧ r1.toInt ≤ (7))) ∧ (tst_c4.toInt = tS byt len.toInt ten.toInt) ∧ (ten_c5.toInt = nx byt len.toInt ten.toInt) ∧ (nuP byt len.toInt ten.toInt (0) (7) r1) ∧ (0 ≤ tst_c4.toInt ∧ tst_c4.toInt ≤ 160) ∧ (0 ≤ ten_c5.toInt ∧ ten_c5.toInt ≤ 160) := by (try rw [etst_c4]); (try rw [eten_c5]); exact h2
  obtain ⟨h2_0, h2_1, h2_2, h2_3, h2_4, h2_5, h2_6, h2_7⟩ := h2
  refine lv_istore_n (lv' := [(2, .int r1), (0, .ref (a 14)), (1, .ref rb0)]) hx hb dX7_readWalkLine_7 rfl hl (by decide) rfl (fun ls hl => ?_)
  refine lv_iload_n hx hb dX7_readWalkLine_8 rfl (lv_at hl 0 rfl) ?_
  refine lv_iconst (v := (-1)) hx hb dX7_readWalkLine_9 (by decide) ?_
  refine lv_icmp_ne (tgt := 15) hx hb dX7_readWalkLine_10 (by decide) (fun c6 => ?_) (fun c6 => ?_)
  · have dc6 : r1.toInt ≠ (-1) := neC rfl (show ((-1) : Int32).toInt = (-1) from rfl) c6
    refine lv_aload_n hx hb dX7_readWalkLine_15 rfl (lv_at hl 1 rfl) ?_
    refine wvV (As := []) (rest := []) (wr := [(rb0, .inr (5, [.ref rb1, .ref rb2, .int aga, .int apa, .int lin])), (rb1, .inl (cI, 8, .inl mos)), (rb2, .inl (cI, 8, .inl wev))]) (w2 := (fun u : US => (wTxR cI cZ cQ a rb0 rb1 rb2 byt len (u.1 0 0) (u.1 1 0) mos wev aga apa lin))) ⟨hx, hb, hml, hown, hts⟩ (k_X7_nextToken2 l dC dI cI cZ cQ a byt len tst_c4 ten_c5 _ r_len h2_6 h2_7 (by omega)) (cwV 0 hts gX7_readWalkLine_X7_nextToken rfl rfl rfl (by decide +kernel) ⟨Nat.le_of_ble_eq_true rfl, Nat.le_of_ble_eq_true rfl⟩) hP hD hS hA hK hN [0, 1] [2, 3, 4] [3, 4, 0, 1, 2] rfl rfl (by decide) (by decide) (by decide) (fun _ => rfl) (by decide) 0 7 rfl rfl rfl hl.1 rfl (Nat.le_of_ble_eq_true rfl) dX7_readWalkLine_16 ⟨Nat.le_of_ble_eq_true rfl, Nat.le_of_ble_eq_true rfl⟩ (fun u9 H locs h8 hP hD hS => ?_)
    obtain ⟨tst_c10, etst_c10⟩ : ∃ f : Int32, f = (u9.1 0 0) := ⟨_, rfl⟩
    obtain ⟨ten_c11, eten_c11⟩ : ∃ f : Int32, f = (u9.1 1 0) := ⟨_, rfl⟩
    have hP : va_P (dC, dI) vwCl (wTxR cI cZ cQ a rb0 rb1 rb2 byt len tst_c10 ten_c11 mos wev aga apa lin) H := by rw [etst_c10, eten_c11]; exact hP
    have hD : va_D A (wTxR cI cZ cQ a rb0 rb1 rb2 byt len tst_c10 ten_c11 mos wev aga apa lin) := by rw [etst_c10, eten_c11]; exact hD
    have h8 : (tst_c10.toInt ≤ ten_c11.toInt) ∧ (ten_c11.toInt ≤ len.toInt) ∧ (tst_c10.toInt = tS byt len.toInt ten_c5.toInt) ∧ (ten_c11.toInt = tE byt len.toInt tst_c10.toInt) ∧ (0 ≤ tst_c10.toInt ∧ tst_c10.toInt ≤ 160) ∧ (0 ≤ ten_c11.toInt ∧ ten_c11.toInt ≤ 160) := by (try rw [etst_c10]); (try rw [eten_c11]); exact h8
    obtain ⟨h8_0, h8_1, h8_2, h8_3, h8_4, h8_5⟩ := h8
    refine lv_aload_n hx hb dX7_readWalkLine_19 rfl (lv_at hl 1 rfl) ?_
    refine va_ldcS hx hb hown hSV.2.2.2.2.2 dX7_readWalkLine_20 ?_
    refine rdVT (As := [.ref (ak 4)]) (rest := []) ⟨hx, hb, hml, hown, hts⟩ (k_X7_tokenIs2 l dC dI cI cZ cQ a byt len tst_c10 ten_c11 (ak 4) (av 4) (lenS.getD 4 0) (fS 4) r_len h8_4 h8_5 (by omega) (by decide)) (cwV 1 hts gX7_readWalkLine_X7_tokenIs rfl rfl rfl (by decide +kernel) ⟨Nat.le_of_ble_eq_true rfl, Nat.le_of_ble_eq_true rfl⟩) (((hSV.kept hS.2.1).1 4 (by decide)).narrow (fun _ h => h.elim)) hP hK hN [0, 1] rfl 0 7 rfl rfl rfl hl.1 rfl (Nat.le_of_ble_eq_true rfl) dX7_readWalkLine_22 ⟨Nat.le_of_ble_eq_true rfl, Nat.le_of_ble_eq_true rfl⟩ (fun r12 h13 => ?_)
    have h13 : ((((r12 = 1) ∧ (wdP byt tst_c10.toInt ten_c11.toInt (lenS.getD 4 0) (fS 4))) ∨ ((r12 = 0) ∧ (¬ wdP byt tst_c10.toInt ten_c11.toInt (lenS.getD 4 0) (fS 4))))) := h13
    rcases h13 with (⟨rfl, h13_a0⟩ | ⟨rfl, h13_a0⟩)
    · refine lv_if_ne (tgt := 30) hx hb dX7_readWalkLine_25 (by decide) (fun _ => ?_) (fun c9 => absurd c9 (by decide))
      refine lv_aload_n hx hb dX7_readWalkLine_30 rfl (lv_at hl 2 rfl) ?_
      refine va_getN (D := (dC, dI)) (ci := 5) (v := .ref rb2) (C := RX5) (T := TX5) (N := 5) hx hb hts inX5 hown hK hP 2 rfl rfl 1 (by decide) lf73 (fun _ h9 => h9) rfl dX7_readWalkLine_31 ?_
      refine lv_iload_n hx hb dX7_readWalkLine_34 rfl (lv_at hl 0 rfl) ?_
      refine lv_aload_n hx hb dX7_readWalkLine_35 rfl (lv_at hl 1 rfl) ?_
      refine lv_iconst (v := 1) hx hb dX7_readWalkLine_36 (by decide) ?_
      refine lv_bipush (v := 99) hx hb dX7_readWalkLine_37 (by decide) ?_
      refine wrV (As := [.int 1, .int 99]) (rest := [.int r1, .ref rb2]) (wr := [(rb0, .inr (5, [.ref rb1, .ref rb2, .int aga, .int apa, .int lin])), (rb1, .inl (cI, 8, .inl mos)), (rb2, .inl (cI, 8, .inl wev))]) (w2 := (fun u : US => (wTxR cI cZ cQ a rb0 rb1 rb2 byt len (u.1 0 0) (u.1 1 0) mos wev aga apa lin))) ⟨hx, hb, hml, hown, hts⟩ (k_X7_readNumber2 l dC dI cI cZ cQ a byt len tst_c10 ten_c11 _ (1 : Int32) (99 : Int32) r_len h8_4 h8_5 (by omega)) (cwV 2 hts gX7_readWalkLine_X7_readNumber rfl rfl rfl (by decide +kernel) ⟨Nat.le_of_ble_eq_true rfl, Nat.le_of_ble_eq_true rfl⟩) hP hD hS hA hK hN [0, 1] [2, 3, 4] [3, 4, 0, 1, 2] rfl rfl (by decide) (by decide) (by decide) (fun _ => rfl) (by decide) 0 7 rfl rfl rfl hl.1 rfl (Nat.le_of_ble_eq_true rfl) dX7_readWalkLine_39 ⟨Nat.le_of_ble_eq_true rfl, Nat.le_of_ble_eq_true rfl⟩ (fun r14 u16 H locs h15 hP hD hS => ?_)
      obtain ⟨tst_c17, etst_c17⟩ : ∃ f : Int32, f = (u16.1 0 0) := ⟨_, rfl⟩
      obtain ⟨ten_c18, eten_c18⟩ : ∃ f : Int32, f = (u16.1 1 0) := ⟨_, rfl⟩
      have hP : va_P (dC, dI) vwCl (wTxR cI cZ cQ a rb0 rb1 rb2 byt len tst_c17 ten_c18 mos wev aga apa lin) H := by rw [etst_c17, eten_c18]; exact hP
      have hD : va_D A (wTxR cI cZ cQ a rb0 rb1 rb2 byt len tst_c17 ten_c18 mos wev aga apa lin) := by rw [etst_c17, eten_c18]; exact hD
      have h15 : (tst_c17.toInt ≤ ten_c18.toInt) ∧ (ten_c18.toInt ≤ len.toInt) ∧ (r14.toInt = -1 ∨ ((1) ≤ r14.toInt ∧ r14.toInt ≤ (99))) ∧ (tst_c17.toInt = tS byt len.toInt ten_c11.toInt) ∧ (ten_c18.toInt = nx byt len.toInt ten_c11.toInt) ∧ (nuP byt len.toInt ten_c11.toInt (1) (99) r14) ∧ (0 ≤ tst_c17.toInt ∧ tst_c17.toInt ≤ 160) ∧ (0 ≤ ten_c18.toInt ∧ ten_c18.toInt ≤ 160) := by (try rw [etst_c17]); (try rw [eten_c18]); exact h15
      obtain ⟨h15_0, h15_1, h15_2, h15_3, h15_4, h15_5, h15_6, h15_7⟩ := h15
      have b19 : vp_in r1 8 := inC rfl (by omega) (by omega)
      refine va_iast hx hb hK hP hD hS 4 0 rfl rfl b19 dX7_readWalkLine_42 (fun H locs hP hD hS => ?_)
      obtain ⟨wev_u20, ewev_u20⟩ : ∃ f : Nat → Int32, f = upd wev r1.toNatClampNeg r14 := ⟨_, rfl⟩
      have hP : va_P (dC, dI) vwCl (wTxR cI cZ cQ a rb0 rb1 rb2 byt len tst_c17 ten_c18 mos wev_u20 aga apa lin) H := by rw [ewev_u20]; exact hP
      have hD : va_D A (wTxR cI cZ cQ a rb0 rb1 rb2 byt len tst_c17 ten_c18 mos wev_u20 aga apa lin) := by rw [ewev_u20]; exact hD
      refine lv_aload_n hx hb dX7_readWalkLine_43 rfl (lv_at hl 2 rfl) ?_
      refine va_getN (D := (dC, dI)) (ci := 5) (v := .ref rb2) (C := RX5) (T := TX5) (N := 5) hx hb hts inX5 hown hK hP 2 rfl rfl 1 (by decide) lf73 (fun _ h9 => h9) rfl dX7_readWalkLine_44 ?_
      refine lv_iload_n hx hb dX7_readWalkLine_47 rfl (lv_at hl 0 rfl) ?_
      have b21 : vp_in r1 8 := inC rfl (by omega) (by omega)
      refine va_iald hx hb hK hP 4 0 rfl rfl b21 dX7_readWalkLine_48 ?_
      have o22 : (wev_u20 r1.toNatClampNeg).toInt = r14.toInt := by rw [ewev_u20, pk_us]
      refine lv_iconst (v := (-1)) hx hb dX7_readWalkLine_49 (by decide) ?_
      refine lv_icmp_eq (tgt := 57) hx hb dX7_readWalkLine_50 (by decide) (fun c23 => ?_) (fun c23 => ?_)
      · have dc23 : (wev_u20 r1.toNatClampNeg).toInt = (-1) := eqC rfl (show ((-1) : Int32).toInt = (-1) from rfl) c23
        refine lv_iconst (v := 0) hx hb dX7_readWalkLine_57 (by decide) ?_
        exact W.zret (v := 0) hx hb hr (by decide) (fun tq ht hW => ⟨⟨0, (uS [(fun _ => tst_c17), (fun _ => ten_c18), wev_u20] 0 (fun _ => 0)), rfl, ⟨(Or.inr (⟨rfl, (show wkN byt len.toInt ten.toInt tst_c17.toInt from by (try rw [show (0 : Int32).toInt = 0 from (show (0 : Int32).toInt = 0 from rfl)]); (first | exact ⟨_, _, wk_yes (by assumption) (by assumption) (by assumption) (by assumption) (by assumption) (by omega) (by omega) (by assumption) (by assumption) (ne_m1 (by omega)) (by assumption) (by assumption), by assumption⟩ | exact wk_n1 (by assumption) (by assumption) (by assumption) | exact wk_n2 (by assumption) (by assumption) (by assumption) (by assumption) (by assumption) (by omega) (by omega) (by assumption) rfl | exact wk_n3 (by assumption) (by assumption) (by assumption) (by assumption) (by assumption) (by omega) (by omega) (by assumption) (by assumption) (eq_m1 (by omega)) (by assumption)))⟩)), (show tst_c17.toInt ≤ ten_c18.toInt from by (try rw [show (0 : Int32).toInt = 0 from (show (0 : Int32).toInt = 0 from rfl)]); omega), (show ten_c18.toInt ≤ len.toInt from by (try rw [show (0 : Int32).toInt = 0 from (show (0 : Int32).toInt = 0 from rfl)]); omega), h15_6, h15_7⟩, by rw [ht]; exact hP, hD⟩, hS.F ht⟩) hS.2.2 dX7_readWalkLine_58
      · have dc23 : (wev_u20 r1.toNatClampNeg).toInt ≠ (-1) := neC rfl (show ((-1) : Int32).toInt = (-1) from rfl) c23
        refine lv_iconst (v := 1) hx hb dX7_readWalkLine_53 (by decide) ?_
        refine lv_goto (tgt := 58) hx hb dX7_readWalkLine_54 (by decide) ?_
        exact W.zret (v := 1) hx hb hr (by decide) (fun tq ht hW => ⟨⟨1, (uS [(fun _ => tst_c17), (fun _ => ten_c18), wev_u20] 0 (fun _ => 0)), rfl, ⟨(Or.inl (⟨rfl, (show ∃ x y : Int32, wkT byt len.toInt ten.toInt x y tst_c17.toInt ten_c18.toInt ∧ wev_u20 = upd wev x.toNatClampNeg y from by (try rw [show (1 : Int32).toInt = 1 from (show (1 : Int32).toInt = 1 from rfl)]); (first | exact ⟨_, _, wk_yes (by assumption) (by assumption) (by assumption) (by assumption) (by assumption) (by omega) (by omega) (by assumption) (by assumption) (ne_m1 (by omega)) (by assumption) (by assumption), by assumption⟩ | exact wk_n1 (by assumption) (by assumption) (by assumption) | exact wk_n2 (by assumption) (by assumption) (by assumption) (by assumption) (by assumption) (by omega) (by omega) (by assumption) rfl | exact wk_n3 (by assumption) (by assumption) (by assumption) (by assumption) (by assumption) (by omega) (by omega) (by assumption) (by assumption) (eq_m1 (by omega)) (by assumption)))⟩)), (show tst_c17.toInt ≤ ten_c18.toInt from by (try rw [show (1 : Int32).toInt = 1 from (show (1 : Int32).toInt = 1 from rfl)]); omega), (show ten_c18.toInt ≤ len.toInt from by (try rw [show (1 : Int32).toInt = 1 from (show (1 : Int32).toInt = 1 from rfl)]); omega), h15_6, h15_7⟩, by rw [ht]; exact hP, hD⟩, hS.F ht⟩) hS.2.2 dX7_readWalkLine_58
    · refine lv_if_ne (tgt := 30) hx hb dX7_readWalkLine_25 (by decide) (fun c9 => absurd (by decide) c9) (fun _ => ?_)
      refine lv_iconst (v := 0) hx hb dX7_readWalkLine_28 (by decide) ?_
      exact W.zret (v := 0) hx hb hr (by decide) (fun tq ht hW => ⟨⟨0, (uS [(fun _ => tst_c10), (fun _ => ten_c11), wev] 0 (fun _ => 0)), rfl, ⟨(Or.inr (⟨rfl, (show wkN byt len.toInt ten.toInt tst_c10.toInt from by (try rw [show (0 : Int32).toInt = 0 from (show (0 : Int32).toInt = 0 from rfl)]); (first | exact ⟨_, _, wk_yes (by assumption) (by assumption) (by assumption) (by assumption) (by assumption) (by omega) (by omega) (by assumption) (by assumption) (ne_m1 (by omega)) (by assumption) (by assumption), by assumption⟩ | exact wk_n1 (by assumption) (by assumption) (by assumption) | exact wk_n2 (by assumption) (by assumption) (by assumption) (by assumption) (by assumption) (by omega) (by omega) (by assumption) rfl | exact wk_n3 (by assumption) (by assumption) (by assumption) (by assumption) (by assumption) (by omega) (by omega) (by assumption) (by assumption) (eq_m1 (by omega)) (by assumption)))⟩)), (show tst_c10.toInt ≤ ten_c11.toInt from by (try rw [show (0 : Int32).toInt = 0 from (show (0 : Int32).toInt = 0 from rfl)]); omega), (show ten_c11.toInt ≤ len.toInt from by (try rw [show (0 : Int32).toInt = 0 from (show (0 : Int32).toInt = 0 from rfl)]); omega), h8_4, h8_5⟩, by rw [ht]; exact hP, hD⟩, hS.F ht⟩) hS.2.2 dX7_readWalkLine_29
  · have dc6 : r1.toInt = (-1) := eqC rfl (show ((-1) : Int32).toInt = (-1) from rfl) c6
    refine lv_iconst (v := 0) hx hb dX7_readWalkLine_13 (by decide) ?_
    exact W.zret (v := 0) hx hb hr (by decide) (fun tq ht hW => ⟨⟨0, (uS [(fun _ => tst_c4), (fun _ => ten_c5), wev] 0 (fun _ => 0)), rfl, ⟨(Or.inr (⟨rfl, (show wkN byt len.toInt ten.toInt tst_c4.toInt from by (try rw [show (0 : Int32).toInt = 0 from (show (0 : Int32).toInt = 0 from rfl)]); (first | exact ⟨_, _, wk_yes (by assumption) (by assumption) (by assumption) (by assumption) (by assumption) (by omega) (by omega) (by assumption) (by assumption) (ne_m1 (by omega)) (by assumption) (by assumption), by assumption⟩ | exact wk_n1 (by assumption) (by assumption) (by assumption) | exact wk_n2 (by assumption) (by assumption) (by assumption) (by assumption) (by assumption) (by omega) (by omega) (by assumption) rfl | exact wk_n3 (by assumption) (by assumption) (by assumption) (by assumption) (by assumption) (by omega) (by omega) (by assumption) (by assumption) (eq_m1 (by omega)) (by assumption)))⟩)), (show tst_c4.toInt ≤ ten_c5.toInt from by (try rw [show (0 : Int32).toInt = 0 from (show (0 : Int32).toInt = 0 from rfl)]); omega), (show ten_c5.toInt ≤ len.toInt from by (try rw [show (0 : Int32).toInt = 0 from (show (0 : Int32).toInt = 0 from rfl)]); omega), h2_6, h2_7⟩, by rw [ht]; exact hP, hD⟩, hS.F ht⟩) hS.2.2 dX7_readWalkLine_14
set_option maxHeartbeats 4000000 in
set_option maxRecDepth 100000 in
theorem k_X7_readLine2 (l : Launch) (dC : Nat → ClassId) (dI : Nat → Nat → Nat) (cI cZ cQ : ClassId) (a : Nat → Nat) (rb0 : Nat) (rb1 : Nat) (rb2 : Nat) (byt : Nat → Int32) (len : Int32) (tst : Int32) (ten : Int32) (mos : Nat → Int32) (wev : Nat → Int32) (aga : Int32) (apa : Int32) (lin : Int32) (ak av : Nat → Nat) (sz : Nat) (r_len : 0 ≤ len.toInt ∧ len.toInt ≤ 160) (r_tst : 0 ≤ tst.toInt ∧ tst.toInt ≤ 160) (r_ten : 0 ≤ ten.toInt ∧ ten.toInt ≤ 160) (q0 : ten.toInt ≤ len.toInt) : KWS l yX7_readLine wsX7_readLine { frames := 6, cells := 0, slots := 0, locals := 129 } (dC, dI) (TY cI cZ cQ) (wTxR cI cZ cQ a rb0 rb1 rb2 byt len tst ten mos wev aga apa lin) ak av [.ref (a 14), .ref rb0] sz 0 0 (fun (r : Int32) (u : US) => ((((r = 1) ∧ (lnE byt len.toInt ten.toInt (u.1 0 0).toInt (u.1 1 0).toInt mos wev aga apa (u.1 2) (u.1 3) (u.1 4 0) (u.1 5 0))) ∨ ((r = 0) ∧ (lnN byt len.toInt ten.toInt (u.1 0 0).toInt)))) ∧ ((u.1 0 0).toInt ≤ (u.1 1 0).toInt) ∧ ((u.1 1 0).toInt ≤ len.toInt) ∧ (0 ≤ (u.1 0 0).toInt ∧ (u.1 0 0).toInt ≤ 160) ∧ (0 ≤ (u.1 1 0).toInt ∧ (u.1 1 0).toInt ≤ 160)) (fun u : US => (wTxR cI cZ cQ a rb0 rb1 rb2 byt len (u.1 0 0) (u.1 1 0) (u.1 2) (u.1 3) (u.1 4 0) (u.1 5 0) lin)) := by
  refine Met.ofW (cc := cX7_readLine) (maxL := 2) (ret := (some .boolean)) (by decide) rfl ?_
  intro p e s m args below meth c s₁ B hml hv
  obtain ⟨rfl, hsz, hP, hK, hD0, hN, hSV⟩ := hv
  have hx := B.exec
  have hb := B.bytes
  have hr := B.returns
  have hts := atoms_spec (ws := wsX7_readLine) B.pre
  have hown : s.vm.findClass RX7 = some m.cls := findClass_of_methodNamed B.named
  have hlocks := B.notSynchronized
  have lf57 := hN.use (w := .fieldLinkNest "PalaceOfRooms$Text" 57 "PalaceOfRooms$RuleBook" "again" "I" "PalaceOfRooms") (List.mem_of_getElem? (i := 25) rfl) ([.ref (a 14), .ref rb0] : List Value).toArray
  have inX5 : ∀ w ∈ wsX50, w ∈ wsX7_readLine := fun w h => List.mem_cons_of_mem _ (List.mem_append_left _ (List.mem_append_right _ h))
  have lf61 := hN.use (w := .fieldLinkNest "PalaceOfRooms$Text" 61 "PalaceOfRooms$RuleBook" "apart" "I" "PalaceOfRooms") (List.mem_of_getElem? (i := 27) rfl) ([.ref (a 14), .ref rb0] : List Value).toArray
  subst hsz
  have hD := hD0.self (sz := s.heap.size)
  generalize hAe : va_A (wTxR cI cZ cQ a rb0 rb1 rb2 byt len tst ten mos wev aga apa lin) s.heap.size = A at hD hSV ⊢
  have hA : ∀ q : Nat, s.heap.size ≤ q → A q := fun q h => by rw [← hAe]; exact Or.inr h
  have hS : va_S A s.heap s.heap [] := va_S.rf
  have hl := lv_entry ([.ref (a 14), .ref rb0]) (n := 2) (Nat.le_of_ble_eq_true rfl)
  rw [lg_entry_eq]
  generalize (lg_sl ([.ref (a 14), .ref rb0]) ++ List.replicate (2 - (lg_sl ([.ref (a 14), .ref rb0])).length) Slot.unset).toArray = ls at hl ⊢
  have hl : lv_has ls 2 [(0, .ref (a 14)), (1, .ref rb0)] := hl
  refine lv_aload_n hx hb dX7_readLine_0 rfl (lv_at hl 0 rfl) ?_
  refine wvV (As := []) (rest := []) (wr := [(rb0, .inr (5, [.ref rb1, .ref rb2, .int aga, .int apa, .int lin])), (rb1, .inl (cI, 8, .inl mos)), (rb2, .inl (cI, 8, .inl wev))]) (w2 := (fun u : US => (wTxR cI cZ cQ a rb0 rb1 rb2 byt len (u.1 0 0) (u.1 1 0) mos wev aga apa lin))) ⟨hx, hb, hml, hown, hts⟩ (k_X7_nextToken2 l dC dI cI cZ cQ a byt len tst ten _ r_len r_tst r_ten (by omega)) (cwV 0 hts gX7_readLine_X7_nextToken rfl rfl rfl (by decide +kernel) ⟨Nat.le_of_ble_eq_true rfl, Nat.le_of_ble_eq_true rfl⟩) hP hD hS hA hK hN [0, 1] [2, 3, 4] [3, 4, 0, 1, 2] rfl rfl (by decide) (by decide) (by decide) (fun _ => rfl) (by decide) 0 7 rfl rfl rfl hl.1 rfl (Nat.le_of_ble_eq_true rfl) dX7_readLine_1 ⟨Nat.le_of_ble_eq_true rfl, Nat.le_of_ble_eq_true rfl⟩ (fun u3 H locs h2 hP hD hS => ?_)
  obtain ⟨tst_c4, etst_c4⟩ : ∃ f : Int32, f = (u3.1 0 0) := ⟨_, rfl⟩
  obtain ⟨ten_c5, eten_c5⟩ : ∃ f : Int32, f = (u3.1 1 0) := ⟨_, rfl⟩
  have hP : va_P (dC, dI) vwCl (wTxR cI cZ cQ a rb0 rb1 rb2 byt len tst_c4 ten_c5 mos wev aga apa lin) H := by rw [etst_c4, eten_c5]; exact hP
  have hD : va_D A (wTxR cI cZ cQ a rb0 rb1 rb2 byt len tst_c4 ten_c5 mos wev aga apa lin) := by rw [etst_c4, eten_c5]; exact hD
  have h2 : (tst_c4.toInt ≤ ten_c5.toInt) ∧ (ten_c5.toInt ≤ len.toInt) ∧ (tst_c4.toInt = tS byt len.toInt ten.toInt) ∧ (ten_c5.toInt = tE byt len.toInt tst_c4.toInt) ∧ (0 ≤ tst_c4.toInt ∧ tst_c4.toInt ≤ 160) ∧ (0 ≤ ten_c5.toInt ∧ ten_c5.toInt ≤ 160) := by (try rw [etst_c4]); (try rw [eten_c5]); exact h2
  obtain ⟨h2_0, h2_1, h2_2, h2_3, h2_4, h2_5⟩ := h2
  refine lv_aload_n hx hb dX7_readLine_4 rfl (lv_at hl 0 rfl) ?_
  refine va_ldcS hx hb hown hSV.2.1 dX7_readLine_5 ?_
  refine rdVT (As := [.ref (ak 0)]) (rest := []) ⟨hx, hb, hml, hown, hts⟩ (k_X7_tokenIs2 l dC dI cI cZ cQ a byt len tst_c4 ten_c5 (ak 0) (av 0) (lenS.getD 0 0) (fS 0) r_len h2_4 h2_5 (by omega) (by decide)) (cwV 1 hts gX7_readLine_X7_tokenIs rfl rfl rfl (by decide +kernel) ⟨Nat.le_of_ble_eq_true rfl, Nat.le_of_ble_eq_true rfl⟩) (((hSV.kept hS.2.1).1 0 (by decide)).narrow (fun _ h => h.elim)) hP hK hN [0, 1] rfl 0 7 rfl rfl rfl hl.1 rfl (Nat.le_of_ble_eq_true rfl) dX7_readLine_7 ⟨Nat.le_of_ble_eq_true rfl, Nat.le_of_ble_eq_true rfl⟩ (fun r6 h7 => ?_)
  have h7 : ((((r6 = 1) ∧ (wdP byt tst_c4.toInt ten_c5.toInt (lenS.getD 0 0) (fS 0))) ∨ ((r6 = 0) ∧ (¬ wdP byt tst_c4.toInt ten_c5.toInt (lenS.getD 0 0) (fS 0))))) := h7
  rcases h7 with (⟨rfl, h7_a0⟩ | ⟨rfl, h7_a0⟩)
  · refine lv_if_eq (tgt := 19) hx hb dX7_readLine_10 (by decide) (fun c9 => absurd c9 (by decide)) (fun _ => ?_)
    refine lv_aload_n hx hb dX7_readLine_13 rfl (lv_at hl 0 rfl) ?_
    refine lv_aload_n hx hb dX7_readLine_14 rfl (lv_at hl 1 rfl) ?_
    refine wrV (As := [.ref rb0]) (rest := []) (wr := []) (w2 := (fun u : US => (wTxR cI cZ cQ a rb0 rb1 rb2 byt len (u.1 0 0) (u.1 1 0) (u.1 2) wev aga apa lin))) ⟨hx, hb, hml, hown, hts⟩ (k_X7_readRoomLine2 l dC dI cI cZ cQ a rb0 rb1 rb2 byt len tst_c4 ten_c5 mos wev aga apa lin _ r_len h2_4 h2_5 (by omega)) (cwV 1 hts gX7_readLine_X7_readRoomLine rfl rfl rfl (by decide +kernel) ⟨Nat.le_of_ble_eq_true rfl, Nat.le_of_ble_eq_true rfl⟩) hP hD hS hA hK hN [0, 1, 2, 3, 4] [] [0, 1, 2, 3, 4] rfl rfl (by decide) (by decide) (by decide) (fun _ => rfl) (by decide) 0 7 rfl rfl rfl hl.1 rfl (Nat.le_of_ble_eq_true rfl) dX7_readLine_15 ⟨Nat.le_of_ble_eq_true rfl, Nat.le_of_ble_eq_true rfl⟩ (fun r8 u10 H locs h9 hP hD hS => ?_)
    obtain ⟨tst_c11, etst_c11⟩ : ∃ f : Int32, f = (u10.1 0 0) := ⟨_, rfl⟩
    obtain ⟨ten_c12, eten_c12⟩ : ∃ f : Int32, f = (u10.1 1 0) := ⟨_, rfl⟩
    obtain ⟨mos_c13, emos_c13⟩ : ∃ f : Nat → Int32, f = (u10.1 2) := ⟨_, rfl⟩
    have hP : va_P (dC, dI) vwCl (wTxR cI cZ cQ a rb0 rb1 rb2 byt len tst_c11 ten_c12 mos_c13 wev aga apa lin) H := by rw [etst_c11, eten_c12, emos_c13]; exact hP
    have hD : va_D A (wTxR cI cZ cQ a rb0 rb1 rb2 byt len tst_c11 ten_c12 mos_c13 wev aga apa lin) := by rw [etst_c11, eten_c12, emos_c13]; exact hD
    have h9 : ((((r8 = 1) ∧ (∃ x y : Int32, rmT byt len.toInt ten_c5.toInt x y tst_c11.toInt ten_c12.toInt ∧ mos_c13 = upd mos x.toNatClampNeg y)) ∨ ((r8 = 0) ∧ (rmN byt len.toInt ten_c5.toInt tst_c11.toInt)))) ∧ (tst_c11.toInt ≤ ten_c12.toInt) ∧ (ten_c12.toInt ≤ len.toInt) ∧ (0 ≤ tst_c11.toInt ∧ tst_c11.toInt ≤ 160) ∧ (0 ≤ ten_c12.toInt ∧ ten_c12.toInt ≤ 160) := by (try rw [etst_c11]); (try rw [eten_c12]); (try rw [emos_c13]); exact h9
    rcases h9 with ⟨(⟨rfl, h9_a0⟩ | ⟨rfl, h9_a0⟩), h9_0, h9_1, h9_2, h9_3⟩
    · exact W.zret (v := 1) hx hb hr (by decide) (fun tq ht hW => ⟨⟨1, (uS [(fun _ => tst_c11), (fun _ => ten_c12), mos_c13, wev, (fun _ => aga), (fun _ => apa)] 0 (fun _ => 0)), rfl, ⟨(Or.inl (⟨rfl, (show lnE byt len.toInt ten.toInt tst_c11.toInt ten_c12.toInt mos wev aga apa mos_c13 wev aga apa from by (try rw [show (1 : Int32).toInt = 1 from (show (1 : Int32).toInt = 1 from rfl)]); (first | exact le_room (by assumption) (by assumption) (by omega) (by omega) (by assumption) (by assumption) | exact ln_roomN (by assumption) (by assumption) (by omega) (by omega) (by assumption) (by assumption) | exact ⟨1, 0, _, ln_again (by assumption) (by assumption) (by omega) (by omega) (by assumption) (by assumption) (by assumption) (by assumption) (by assumption), Or.inr (Or.inl ⟨rfl, rfl, rfl, rfl, rfl⟩)⟩ | exact ln_againN (by assumption) (by assumption) (by omega) (by omega) (by assumption) (by assumption) (by assumption) (by assumption) | exact ⟨2, 0, _, ln_apart (by assumption) (by assumption) (by omega) (by omega) (by assumption) (by assumption) (by assumption) (by assumption) (by assumption), Or.inr (Or.inr (Or.inl ⟨rfl, rfl, rfl, rfl, rfl⟩))⟩ | exact ln_apartN (by assumption) (by assumption) (by omega) (by omega) (by assumption) (by assumption) (by assumption) (by assumption) | exact le_walk (by assumption) (by assumption) (by omega) (by omega) (by assumption) (by assumption) | exact ln_walkN (by assumption) (by assumption) (by omega) (by omega) (by assumption) (by assumption) | exact ln_none (by assumption) (by assumption) (by omega) (by omega) (by assumption) (by assumption) (by assumption) (by assumption) rfl))⟩)), (show tst_c11.toInt ≤ ten_c12.toInt from by (try rw [show (1 : Int32).toInt = 1 from (show (1 : Int32).toInt = 1 from rfl)]); omega), (show ten_c12.toInt ≤ len.toInt from by (try rw [show (1 : Int32).toInt = 1 from (show (1 : Int32).toInt = 1 from rfl)]); omega), h9_2, h9_3⟩, by rw [ht]; exact hP, hD⟩, hS.F ht⟩) hS.2.2 dX7_readLine_18
    · exact W.zret (v := 0) hx hb hr (by decide) (fun tq ht hW => ⟨⟨0, (uS [(fun _ => tst_c11), (fun _ => ten_c12), mos_c13, wev, (fun _ => aga), (fun _ => apa)] 0 (fun _ => 0)), rfl, ⟨(Or.inr (⟨rfl, (show lnN byt len.toInt ten.toInt tst_c11.toInt from by (try rw [show (0 : Int32).toInt = 0 from (show (0 : Int32).toInt = 0 from rfl)]); (first | exact le_room (by assumption) (by assumption) (by omega) (by omega) (by assumption) (by assumption) | exact ln_roomN (by assumption) (by assumption) (by omega) (by omega) (by assumption) (by assumption) | exact ⟨1, 0, _, ln_again (by assumption) (by assumption) (by omega) (by omega) (by assumption) (by assumption) (by assumption) (by assumption) (by assumption), Or.inr (Or.inl ⟨rfl, rfl, rfl, rfl, rfl⟩)⟩ | exact ln_againN (by assumption) (by assumption) (by omega) (by omega) (by assumption) (by assumption) (by assumption) (by assumption) | exact ⟨2, 0, _, ln_apart (by assumption) (by assumption) (by omega) (by omega) (by assumption) (by assumption) (by assumption) (by assumption) (by assumption), Or.inr (Or.inr (Or.inl ⟨rfl, rfl, rfl, rfl, rfl⟩))⟩ | exact ln_apartN (by assumption) (by assumption) (by omega) (by omega) (by assumption) (by assumption) (by assumption) (by assumption) | exact le_walk (by assumption) (by assumption) (by omega) (by omega) (by assumption) (by assumption) | exact ln_walkN (by assumption) (by assumption) (by omega) (by omega) (by assumption) (by assumption) | exact ln_none (by assumption) (by assumption) (by omega) (by omega) (by assumption) (by assumption) (by assumption) (by assumption) rfl))⟩)), (show tst_c11.toInt ≤ ten_c12.toInt from by (try rw [show (0 : Int32).toInt = 0 from (show (0 : Int32).toInt = 0 from rfl)]); omega), (show ten_c12.toInt ≤ len.toInt from by (try rw [show (0 : Int32).toInt = 0 from (show (0 : Int32).toInt = 0 from rfl)]); omega), h9_2, h9_3⟩, by rw [ht]; exact hP, hD⟩, hS.F ht⟩) hS.2.2 dX7_readLine_18
  · refine lv_if_eq (tgt := 19) hx hb dX7_readLine_10 (by decide) (fun _ => ?_) (fun c9 => absurd (by decide) c9)
    refine lv_aload_n hx hb dX7_readLine_19 rfl (lv_at hl 0 rfl) ?_
    refine va_ldcS hx hb hown hSV.2.2.1 dX7_readLine_20 ?_
    refine rdVT (As := [.ref (ak 1)]) (rest := []) ⟨hx, hb, hml, hown, hts⟩ (k_X7_tokenIs2 l dC dI cI cZ cQ a byt len tst_c4 ten_c5 (ak 1) (av 1) (lenS.getD 1 0) (fS 1) r_len h2_4 h2_5 (by omega) (by decide)) (cwV 1 hts gX7_readLine_X7_tokenIs rfl rfl rfl (by decide +kernel) ⟨Nat.le_of_ble_eq_true rfl, Nat.le_of_ble_eq_true rfl⟩) (((hSV.kept hS.2.1).1 1 (by decide)).narrow (fun _ h => h.elim)) hP hK hN [0, 1] rfl 0 7 rfl rfl rfl hl.1 rfl (Nat.le_of_ble_eq_true rfl) dX7_readLine_22 ⟨Nat.le_of_ble_eq_true rfl, Nat.le_of_ble_eq_true rfl⟩ (fun r14 h15 => ?_)
    have h15 : ((((r14 = 1) ∧ (wdP byt tst_c4.toInt ten_c5.toInt (lenS.getD 1 0) (fS 1))) ∨ ((r14 = 0) ∧ (¬ wdP byt tst_c4.toInt ten_c5.toInt (lenS.getD 1 0) (fS 1))))) := h15
    rcases h15 with (⟨rfl, h15_a0⟩ | ⟨rfl, h15_a0⟩)
    · refine lv_if_eq (tgt := 53) hx hb dX7_readLine_25 (by decide) (fun c9 => absurd c9 (by decide)) (fun _ => ?_)
      refine lv_aload_n hx hb dX7_readLine_28 rfl (lv_at hl 1 rfl) ?_
      refine lv_aload_n hx hb dX7_readLine_29 rfl (lv_at hl 0 rfl) ?_
      refine lv_iconst (v := 1) hx hb dX7_readLine_30 (by decide) ?_
      refine lv_bipush (v := 99) hx hb dX7_readLine_31 (by decide) ?_
      refine wrV (As := [.int 1, .int 99]) (rest := [.ref rb0]) (wr := [(rb0, .inr (5, [.ref rb1, .ref rb2, .int aga, .int apa, .int lin])), (rb1, .inl (cI, 8, .inl mos)), (rb2, .inl (cI, 8, .inl wev))]) (w2 := (fun u : US => (wTxR cI cZ cQ a rb0 rb1 rb2 byt len (u.1 0 0) (u.1 1 0) mos wev aga apa lin))) ⟨hx, hb, hml, hown, hts⟩ (k_X7_readNumber2 l dC dI cI cZ cQ a byt len tst_c4 ten_c5 _ (1 : Int32) (99 : Int32) r_len h2_4 h2_5 (by omega)) (cwV 2 hts gX7_readLine_X7_readNumber rfl rfl rfl (by decide +kernel) ⟨Nat.le_of_ble_eq_true rfl, Nat.le_of_ble_eq_true rfl⟩) hP hD hS hA hK hN [0, 1] [2, 3, 4] [3, 4, 0, 1, 2] rfl rfl (by decide) (by decide) (by decide) (fun _ => rfl) (by decide) 0 7 rfl rfl rfl hl.1 rfl (Nat.le_of_ble_eq_true rfl) dX7_readLine_33 ⟨Nat.le_of_ble_eq_true rfl, Nat.le_of_ble_eq_true rfl⟩ (fun r16 u18 H locs h17 hP hD hS => ?_)
      obtain ⟨tst_c19, etst_c19⟩ : ∃ f : Int32, f = (u18.1 0 0) := ⟨_, rfl⟩
      obtain ⟨ten_c20, eten_c20⟩ : ∃ f : Int32, f = (u18.1 1 0) := ⟨_, rfl⟩
      have hP : va_P (dC, dI) vwCl (wTxR cI cZ cQ a rb0 rb1 rb2 byt len tst_c19 ten_c20 mos wev aga apa lin) H := by rw [etst_c19, eten_c20]; exact hP
      have hD : va_D A (wTxR cI cZ cQ a rb0 rb1 rb2 byt len tst_c19 ten_c20 mos wev aga apa lin) := by rw [etst_c19, eten_c20]; exact hD
      have h17 : (tst_c19.toInt ≤ ten_c20.toInt) ∧ (ten_c20.toInt ≤ len.toInt) ∧ (r16.toInt = -1 ∨ ((1) ≤ r16.toInt ∧ r16.toInt ≤ (99))) ∧ (tst_c19.toInt = tS byt len.toInt ten_c5.toInt) ∧ (ten_c20.toInt = nx byt len.toInt ten_c5.toInt) ∧ (nuP byt len.toInt ten_c5.toInt (1) (99) r16) ∧ (0 ≤ tst_c19.toInt ∧ tst_c19.toInt ≤ 160) ∧ (0 ≤ ten_c20.toInt ∧ ten_c20.toInt ≤ 160) := by (try rw [etst_c19]); (try rw [eten_c20]); exact h17
      obtain ⟨h17_0, h17_1, h17_2, h17_3, h17_4, h17_5, h17_6, h17_7⟩ := h17
      refine va_putN (D := (dC, dI)) (ci := 5) (v := .int r16) (ty := .int) (C := RX5) (T := TX5) (N := 5) hx hb hts inX5 tyX5 tyX5_ok nmX5 hown hK hP hD hS 2 rfl rfl 2 (by decide) lf57 (fun _ h9 => h9) rfl (by decide +kernel) rfl rfl (Nat.le_of_ble_eq_true rfl) dX7_readLine_36 (fun H locs hP hD hS => ?_)
      have hP : va_P (dC, dI) vwCl (wTxR cI cZ cQ a rb0 rb1 rb2 byt len tst_c19 ten_c20 mos wev r16 apa lin) H := hP
      have hD : va_D A (wTxR cI cZ cQ a rb0 rb1 rb2 byt len tst_c19 ten_c20 mos wev r16 apa lin) := hD
      refine lv_aload_n hx hb dX7_readLine_39 rfl (lv_at hl 1 rfl) ?_
      refine va_getN (D := (dC, dI)) (ci := 5) (v := .int r16) (C := RX5) (T := TX5) (N := 5) hx hb hts inX5 hown hK hP 2 rfl rfl 2 (by decide) lf57 (fun _ h9 => h9) rfl dX7_readLine_40 ?_
      refine lv_iconst (v := (-1)) hx hb dX7_readLine_43 (by decide) ?_
      refine lv_icmp_eq (tgt := 51) hx hb dX7_readLine_44 (by decide) (fun c21 => ?_) (fun c21 => ?_)
      · have dc21 : r16.toInt = (-1) := eqC rfl (show ((-1) : Int32).toInt = (-1) from rfl) c21
        refine lv_iconst (v := 0) hx hb dX7_readLine_51 (by decide) ?_
        exact W.zret (v := 0) hx hb hr (by decide) (fun tq ht hW => ⟨⟨0, (uS [(fun _ => tst_c19), (fun _ => ten_c20), mos, wev, (fun _ => r16), (fun _ => apa)] 0 (fun _ => 0)), rfl, ⟨(Or.inr (⟨rfl, (show lnN byt len.toInt ten.toInt tst_c19.toInt from by (try rw [show (0 : Int32).toInt = 0 from (show (0 : Int32).toInt = 0 from rfl)]); (first | exact le_room (by assumption) (by assumption) (by omega) (by omega) (by assumption) (by assumption) | exact ln_roomN (by assumption) (by assumption) (by omega) (by omega) (by assumption) (by assumption) | exact ⟨1, 0, _, ln_again (by assumption) (by assumption) (by omega) (by omega) (by assumption) (by assumption) (by assumption) (by assumption) (by assumption), Or.inr (Or.inl ⟨rfl, rfl, rfl, rfl, rfl⟩)⟩ | exact ln_againN (by assumption) (by assumption) (by omega) (by omega) (by assumption) (by assumption) (by assumption) (by assumption) | exact ⟨2, 0, _, ln_apart (by assumption) (by assumption) (by omega) (by omega) (by assumption) (by assumption) (by assumption) (by assumption) (by assumption), Or.inr (Or.inr (Or.inl ⟨rfl, rfl, rfl, rfl, rfl⟩))⟩ | exact ln_apartN (by assumption) (by assumption) (by omega) (by omega) (by assumption) (by assumption) (by assumption) (by assumption) | exact le_walk (by assumption) (by assumption) (by omega) (by omega) (by assumption) (by assumption) | exact ln_walkN (by assumption) (by assumption) (by omega) (by omega) (by assumption) (by assumption) | exact ln_none (by assumption) (by assumption) (by omega) (by omega) (by assumption) (by assumption) (by assumption) (by assumption) rfl))⟩)), (show tst_c19.toInt ≤ ten_c20.toInt from by (try rw [show (0 : Int32).toInt = 0 from (show (0 : Int32).toInt = 0 from rfl)]); omega), (show ten_c20.toInt ≤ len.toInt from by (try rw [show (0 : Int32).toInt = 0 from (show (0 : Int32).toInt = 0 from rfl)]); omega), h17_6, h17_7⟩, by rw [ht]; exact hP, hD⟩, hS.F ht⟩) hS.2.2 dX7_readLine_52
      · have dc21 : r16.toInt ≠ (-1) := neC rfl (show ((-1) : Int32).toInt = (-1) from rfl) c21
        refine lv_iconst (v := 1) hx hb dX7_readLine_47 (by decide) ?_
        refine lv_goto (tgt := 52) hx hb dX7_readLine_48 (by decide) ?_
        exact W.zret (v := 1) hx hb hr (by decide) (fun tq ht hW => ⟨⟨1, (uS [(fun _ => tst_c19), (fun _ => ten_c20), mos, wev, (fun _ => r16), (fun _ => apa)] 0 (fun _ => 0)), rfl, ⟨(Or.inl (⟨rfl, (show lnE byt len.toInt ten.toInt tst_c19.toInt ten_c20.toInt mos wev aga apa mos wev r16 apa from by (try rw [show (1 : Int32).toInt = 1 from (show (1 : Int32).toInt = 1 from rfl)]); (first | exact le_room (by assumption) (by assumption) (by omega) (by omega) (by assumption) (by assumption) | exact ln_roomN (by assumption) (by assumption) (by omega) (by omega) (by assumption) (by assumption) | exact ⟨1, 0, _, ln_again (by assumption) (by assumption) (by omega) (by omega) (by assumption) (by assumption) (by assumption) (by assumption) (by assumption), Or.inr (Or.inl ⟨rfl, rfl, rfl, rfl, rfl⟩)⟩ | exact ln_againN (by assumption) (by assumption) (by omega) (by omega) (by assumption) (by assumption) (by assumption) (by assumption) | exact ⟨2, 0, _, ln_apart (by assumption) (by assumption) (by omega) (by omega) (by assumption) (by assumption) (by assumption) (by assumption) (by assumption), Or.inr (Or.inr (Or.inl ⟨rfl, rfl, rfl, rfl, rfl⟩))⟩ | exact ln_apartN (by assumption) (by assumption) (by omega) (by omega) (by assumption) (by assumption) (by assumption) (by assumption) | exact le_walk (by assumption) (by assumption) (by omega) (by omega) (by assumption) (by assumption) | exact ln_walkN (by assumption) (by assumption) (by omega) (by omega) (by assumption) (by assumption) | exact ln_none (by assumption) (by assumption) (by omega) (by omega) (by assumption) (by assumption) (by assumption) (by assumption) rfl))⟩)), (show tst_c19.toInt ≤ ten_c20.toInt from by (try rw [show (1 : Int32).toInt = 1 from (show (1 : Int32).toInt = 1 from rfl)]); omega), (show ten_c20.toInt ≤ len.toInt from by (try rw [show (1 : Int32).toInt = 1 from (show (1 : Int32).toInt = 1 from rfl)]); omega), h17_6, h17_7⟩, by rw [ht]; exact hP, hD⟩, hS.F ht⟩) hS.2.2 dX7_readLine_52
    · refine lv_if_eq (tgt := 53) hx hb dX7_readLine_25 (by decide) (fun _ => ?_) (fun c9 => absurd (by decide) c9)
      refine lv_aload_n hx hb dX7_readLine_53 rfl (lv_at hl 0 rfl) ?_
      refine va_ldcS hx hb hown hSV.2.2.2.1 dX7_readLine_54 ?_
      refine rdVT (As := [.ref (ak 2)]) (rest := []) ⟨hx, hb, hml, hown, hts⟩ (k_X7_tokenIs2 l dC dI cI cZ cQ a byt len tst_c4 ten_c5 (ak 2) (av 2) (lenS.getD 2 0) (fS 2) r_len h2_4 h2_5 (by omega) (by decide)) (cwV 1 hts gX7_readLine_X7_tokenIs rfl rfl rfl (by decide +kernel) ⟨Nat.le_of_ble_eq_true rfl, Nat.le_of_ble_eq_true rfl⟩) (((hSV.kept hS.2.1).1 2 (by decide)).narrow (fun _ h => h.elim)) hP hK hN [0, 1] rfl 0 7 rfl rfl rfl hl.1 rfl (Nat.le_of_ble_eq_true rfl) dX7_readLine_56 ⟨Nat.le_of_ble_eq_true rfl, Nat.le_of_ble_eq_true rfl⟩ (fun r22 h23 => ?_)
      have h23 : ((((r22 = 1) ∧ (wdP byt tst_c4.toInt ten_c5.toInt (lenS.getD 2 0) (fS 2))) ∨ ((r22 = 0) ∧ (¬ wdP byt tst_c4.toInt ten_c5.toInt (lenS.getD 2 0) (fS 2))))) := h23
      rcases h23 with (⟨rfl, h23_a0⟩ | ⟨rfl, h23_a0⟩)
      · refine lv_if_eq (tgt := 87) hx hb dX7_readLine_59 (by decide) (fun c9 => absurd c9 (by decide)) (fun _ => ?_)
        refine lv_aload_n hx hb dX7_readLine_62 rfl (lv_at hl 1 rfl) ?_
        refine lv_aload_n hx hb dX7_readLine_63 rfl (lv_at hl 0 rfl) ?_
        refine lv_iconst (v := 0) hx hb dX7_readLine_64 (by decide) ?_
        refine lv_bipush (v := 8) hx hb dX7_readLine_65 (by decide) ?_
        refine wrV (As := [.int 0, .int 8]) (rest := [.ref rb0]) (wr := [(rb0, .inr (5, [.ref rb1, .ref rb2, .int aga, .int apa, .int lin])), (rb1, .inl (cI, 8, .inl mos)), (rb2, .inl (cI, 8, .inl wev))]) (w2 := (fun u : US => (wTxR cI cZ cQ a rb0 rb1 rb2 byt len (u.1 0 0) (u.1 1 0) mos wev aga apa lin))) ⟨hx, hb, hml, hown, hts⟩ (k_X7_readNumber2 l dC dI cI cZ cQ a byt len tst_c4 ten_c5 _ (0 : Int32) (8 : Int32) r_len h2_4 h2_5 (by omega)) (cwV 2 hts gX7_readLine_X7_readNumber rfl rfl rfl (by decide +kernel) ⟨Nat.le_of_ble_eq_true rfl, Nat.le_of_ble_eq_true rfl⟩) hP hD hS hA hK hN [0, 1] [2, 3, 4] [3, 4, 0, 1, 2] rfl rfl (by decide) (by decide) (by decide) (fun _ => rfl) (by decide) 0 7 rfl rfl rfl hl.1 rfl (Nat.le_of_ble_eq_true rfl) dX7_readLine_67 ⟨Nat.le_of_ble_eq_true rfl, Nat.le_of_ble_eq_true rfl⟩ (fun r24 u26 H locs h25 hP hD hS => ?_)
        obtain ⟨tst_c27, etst_c27⟩ : ∃ f : Int32, f = (u26.1 0 0) := ⟨_, rfl⟩
        obtain ⟨ten_c28, eten_c28⟩ : ∃ f : Int32, f = (u26.1 1 0) := ⟨_, rfl⟩
        have hP : va_P (dC, dI) vwCl (wTxR cI cZ cQ a rb0 rb1 rb2 byt len tst_c27 ten_c28 mos wev aga apa lin) H := by rw [etst_c27, eten_c28]; exact hP
        have hD : va_D A (wTxR cI cZ cQ a rb0 rb1 rb2 byt len tst_c27 ten_c28 mos wev aga apa lin) := by rw [etst_c27, eten_c28]; exact hD
        have h25 : (tst_c27.toInt ≤ ten_c28.toInt) ∧ (ten_c28.toInt ≤ len.toInt) ∧ (r24.toInt = -1 ∨ ((0) ≤ r24.toInt ∧ r24.toInt ≤ (8))) ∧ (tst_c27.toInt = tS byt len.toInt ten_c5.toInt) ∧ (ten_c28.toInt = nx byt len.toInt ten_c5.toInt) ∧ (nuP byt len.toInt ten_c5.toInt (0) (8) r24) ∧ (0 ≤ tst_c27.toInt ∧ tst_c27.toInt ≤ 160) ∧ (0 ≤ ten_c28.toInt ∧ ten_c28.toInt ≤ 160) := by (try rw [etst_c27]); (try rw [eten_c28]); exact h25
        obtain ⟨h25_0, h25_1, h25_2, h25_3, h25_4, h25_5, h25_6, h25_7⟩ := h25
        refine va_putN (D := (dC, dI)) (ci := 5) (v := .int r24) (ty := .int) (C := RX5) (T := TX5) (N := 5) hx hb hts inX5 tyX5 tyX5_ok nmX5 hown hK hP hD hS 2 rfl rfl 3 (by decide) lf61 (fun _ h9 => h9) rfl (by decide +kernel) rfl rfl (Nat.le_of_ble_eq_true rfl) dX7_readLine_70 (fun H locs hP hD hS => ?_)
        have hP : va_P (dC, dI) vwCl (wTxR cI cZ cQ a rb0 rb1 rb2 byt len tst_c27 ten_c28 mos wev aga r24 lin) H := hP
        have hD : va_D A (wTxR cI cZ cQ a rb0 rb1 rb2 byt len tst_c27 ten_c28 mos wev aga r24 lin) := hD
        refine lv_aload_n hx hb dX7_readLine_73 rfl (lv_at hl 1 rfl) ?_
        refine va_getN (D := (dC, dI)) (ci := 5) (v := .int r24) (C := RX5) (T := TX5) (N := 5) hx hb hts inX5 hown hK hP 2 rfl rfl 3 (by decide) lf61 (fun _ h9 => h9) rfl dX7_readLine_74 ?_
        refine lv_iconst (v := (-1)) hx hb dX7_readLine_77 (by decide) ?_
        refine lv_icmp_eq (tgt := 85) hx hb dX7_readLine_78 (by decide) (fun c29 => ?_) (fun c29 => ?_)
        · have dc29 : r24.toInt = (-1) := eqC rfl (show ((-1) : Int32).toInt = (-1) from rfl) c29
          refine lv_iconst (v := 0) hx hb dX7_readLine_85 (by decide) ?_
          exact W.zret (v := 0) hx hb hr (by decide) (fun tq ht hW => ⟨⟨0, (uS [(fun _ => tst_c27), (fun _ => ten_c28), mos, wev, (fun _ => aga), (fun _ => r24)] 0 (fun _ => 0)), rfl, ⟨(Or.inr (⟨rfl, (show lnN byt len.toInt ten.toInt tst_c27.toInt from by (try rw [show (0 : Int32).toInt = 0 from (show (0 : Int32).toInt = 0 from rfl)]); (first | exact le_room (by assumption) (by assumption) (by omega) (by omega) (by assumption) (by assumption) | exact ln_roomN (by assumption) (by assumption) (by omega) (by omega) (by assumption) (by assumption) | exact ⟨1, 0, _, ln_again (by assumption) (by assumption) (by omega) (by omega) (by assumption) (by assumption) (by assumption) (by assumption) (by assumption), Or.inr (Or.inl ⟨rfl, rfl, rfl, rfl, rfl⟩)⟩ | exact ln_againN (by assumption) (by assumption) (by omega) (by omega) (by assumption) (by assumption) (by assumption) (by assumption) | exact ⟨2, 0, _, ln_apart (by assumption) (by assumption) (by omega) (by omega) (by assumption) (by assumption) (by assumption) (by assumption) (by assumption), Or.inr (Or.inr (Or.inl ⟨rfl, rfl, rfl, rfl, rfl⟩))⟩ | exact ln_apartN (by assumption) (by assumption) (by omega) (by omega) (by assumption) (by assumption) (by assumption) (by assumption) | exact le_walk (by assumption) (by assumption) (by omega) (by omega) (by assumption) (by assumption) | exact ln_walkN (by assumption) (by assumption) (by omega) (by omega) (by assumption) (by assumption) | exact ln_none (by assumption) (by assumption) (by omega) (by omega) (by assumption) (by assumption) (by assumption) (by assumption) rfl))⟩)), (show tst_c27.toInt ≤ ten_c28.toInt from by (try rw [show (0 : Int32).toInt = 0 from (show (0 : Int32).toInt = 0 from rfl)]); omega), (show ten_c28.toInt ≤ len.toInt from by (try rw [show (0 : Int32).toInt = 0 from (show (0 : Int32).toInt = 0 from rfl)]); omega), h25_6, h25_7⟩, by rw [ht]; exact hP, hD⟩, hS.F ht⟩) hS.2.2 dX7_readLine_86
        · have dc29 : r24.toInt ≠ (-1) := neC rfl (show ((-1) : Int32).toInt = (-1) from rfl) c29
          refine lv_iconst (v := 1) hx hb dX7_readLine_81 (by decide) ?_
          refine lv_goto (tgt := 86) hx hb dX7_readLine_82 (by decide) ?_
          exact W.zret (v := 1) hx hb hr (by decide) (fun tq ht hW => ⟨⟨1, (uS [(fun _ => tst_c27), (fun _ => ten_c28), mos, wev, (fun _ => aga), (fun _ => r24)] 0 (fun _ => 0)), rfl, ⟨(Or.inl (⟨rfl, (show lnE byt len.toInt ten.toInt tst_c27.toInt ten_c28.toInt mos wev aga apa mos wev aga r24 from by (try rw [show (1 : Int32).toInt = 1 from (show (1 : Int32).toInt = 1 from rfl)]); (first | exact le_room (by assumption) (by assumption) (by omega) (by omega) (by assumption) (by assumption) | exact ln_roomN (by assumption) (by assumption) (by omega) (by omega) (by assumption) (by assumption) | exact ⟨1, 0, _, ln_again (by assumption) (by assumption) (by omega) (by omega) (by assumption) (by assumption) (by assumption) (by assumption) (by assumption), Or.inr (Or.inl ⟨rfl, rfl, rfl, rfl, rfl⟩)⟩ | exact ln_againN (by assumption) (by assumption) (by omega) (by omega) (by assumption) (by assumption) (by assumption) (by assumption) | exact ⟨2, 0, _, ln_apart (by assumption) (by assumption) (by omega) (by omega) (by assumption) (by assumption) (by assumption) (by assumption) (by assumption), Or.inr (Or.inr (Or.inl ⟨rfl, rfl, rfl, rfl, rfl⟩))⟩ | exact ln_apartN (by assumption) (by assumption) (by omega) (by omega) (by assumption) (by assumption) (by assumption) (by assumption) | exact le_walk (by assumption) (by assumption) (by omega) (by omega) (by assumption) (by assumption) | exact ln_walkN (by assumption) (by assumption) (by omega) (by omega) (by assumption) (by assumption) | exact ln_none (by assumption) (by assumption) (by omega) (by omega) (by assumption) (by assumption) (by assumption) (by assumption) rfl))⟩)), (show tst_c27.toInt ≤ ten_c28.toInt from by (try rw [show (1 : Int32).toInt = 1 from (show (1 : Int32).toInt = 1 from rfl)]); omega), (show ten_c28.toInt ≤ len.toInt from by (try rw [show (1 : Int32).toInt = 1 from (show (1 : Int32).toInt = 1 from rfl)]); omega), h25_6, h25_7⟩, by rw [ht]; exact hP, hD⟩, hS.F ht⟩) hS.2.2 dX7_readLine_86
      · refine lv_if_eq (tgt := 87) hx hb dX7_readLine_59 (by decide) (fun _ => ?_) (fun c9 => absurd (by decide) c9)
        refine lv_aload_n hx hb dX7_readLine_87 rfl (lv_at hl 0 rfl) ?_
        refine va_ldcS hx hb hown hSV.2.2.2.2.1 dX7_readLine_88 ?_
        refine rdVT (As := [.ref (ak 3)]) (rest := []) ⟨hx, hb, hml, hown, hts⟩ (k_X7_tokenIs2 l dC dI cI cZ cQ a byt len tst_c4 ten_c5 (ak 3) (av 3) (lenS.getD 3 0) (fS 3) r_len h2_4 h2_5 (by omega) (by decide)) (cwV 1 hts gX7_readLine_X7_tokenIs rfl rfl rfl (by decide +kernel) ⟨Nat.le_of_ble_eq_true rfl, Nat.le_of_ble_eq_true rfl⟩) (((hSV.kept hS.2.1).1 3 (by decide)).narrow (fun _ h => h.elim)) hP hK hN [0, 1] rfl 0 7 rfl rfl rfl hl.1 rfl (Nat.le_of_ble_eq_true rfl) dX7_readLine_90 ⟨Nat.le_of_ble_eq_true rfl, Nat.le_of_ble_eq_true rfl⟩ (fun r30 h31 => ?_)
        have h31 : ((((r30 = 1) ∧ (wdP byt tst_c4.toInt ten_c5.toInt (lenS.getD 3 0) (fS 3))) ∨ ((r30 = 0) ∧ (¬ wdP byt tst_c4.toInt ten_c5.toInt (lenS.getD 3 0) (fS 3))))) := h31
        rcases h31 with (⟨rfl, h31_a0⟩ | ⟨rfl, h31_a0⟩)
        · refine lv_if_eq (tgt := 108) hx hb dX7_readLine_93 (by decide) (fun c9 => absurd c9 (by decide)) (fun _ => ?_)
          refine lv_aload_n hx hb dX7_readLine_96 rfl (lv_at hl 0 rfl) ?_
          refine lv_aload_n hx hb dX7_readLine_97 rfl (lv_at hl 1 rfl) ?_
          refine wrVS (As := [.ref rb0]) (rest := []) (wr := []) (w2 := (fun u : US => (wTxR cI cZ cQ a rb0 rb1 rb2 byt len (u.1 0 0) (u.1 1 0) mos (u.1 2) aga apa lin))) ⟨hx, hb, hml, hown, hts⟩ (k_X7_readWalkLine2 l dC dI cI cZ cQ a rb0 rb1 rb2 byt len tst_c4 ten_c5 mos wev aga apa lin ak av _ r_len h2_4 h2_5 (by omega)) (cwV 1 hts gX7_readLine_X7_readWalkLine rfl rfl rfl (by decide +kernel) ⟨Nat.le_of_ble_eq_true rfl, Nat.le_of_ble_eq_true rfl⟩) (hSV.kept hS.2.1) hP hD hS hA hK hN [0, 1, 2, 3, 4] [] [0, 1, 2, 3, 4] rfl rfl (by decide) (by decide) (by decide) (fun _ => rfl) (by decide) 0 7 rfl rfl rfl hl.1 rfl (Nat.le_of_ble_eq_true rfl) dX7_readLine_98 ⟨Nat.le_of_ble_eq_true rfl, Nat.le_of_ble_eq_true rfl⟩ (fun r32 u34 H locs h33 hP hD hS => ?_)
          obtain ⟨tst_c35, etst_c35⟩ : ∃ f : Int32, f = (u34.1 0 0) := ⟨_, rfl⟩
          obtain ⟨ten_c36, eten_c36⟩ : ∃ f : Int32, f = (u34.1 1 0) := ⟨_, rfl⟩
          obtain ⟨wev_c37, ewev_c37⟩ : ∃ f : Nat → Int32, f = (u34.1 2) := ⟨_, rfl⟩
          have hP : va_P (dC, dI) vwCl (wTxR cI cZ cQ a rb0 rb1 rb2 byt len tst_c35 ten_c36 mos wev_c37 aga apa lin) H := by rw [etst_c35, eten_c36, ewev_c37]; exact hP
          have hD : va_D A (wTxR cI cZ cQ a rb0 rb1 rb2 byt len tst_c35 ten_c36 mos wev_c37 aga apa lin) := by rw [etst_c35, eten_c36, ewev_c37]; exact hD
          have h33 : ((((r32 = 1) ∧ (∃ x y : Int32, wkT byt len.toInt ten_c5.toInt x y tst_c35.toInt ten_c36.toInt ∧ wev_c37 = upd wev x.toNatClampNeg y)) ∨ ((r32 = 0) ∧ (wkN byt len.toInt ten_c5.toInt tst_c35.toInt)))) ∧ (tst_c35.toInt ≤ ten_c36.toInt) ∧ (ten_c36.toInt ≤ len.toInt) ∧ (0 ≤ tst_c35.toInt ∧ tst_c35.toInt ≤ 160) ∧ (0 ≤ ten_c36.toInt ∧ ten_c36.toInt ≤ 160) := by (try rw [etst_c35]); (try rw [eten_c36]); (try rw [ewev_c37]); exact h33
          rcases h33 with ⟨(⟨rfl, h33_a0⟩ | ⟨rfl, h33_a0⟩), h33_0, h33_1, h33_2, h33_3⟩
          · refine lv_if_eq (tgt := 108) hx hb dX7_readLine_101 (by decide) (fun c9 => absurd c9 (by decide)) (fun _ => ?_)
            refine lv_iconst (v := 1) hx hb dX7_readLine_104 (by decide) ?_
            refine lv_goto (tgt := 109) hx hb dX7_readLine_105 (by decide) ?_
            exact W.zret (v := 1) hx hb hr (by decide) (fun tq ht hW => ⟨⟨1, (uS [(fun _ => tst_c35), (fun _ => ten_c36), mos, wev_c37, (fun _ => aga), (fun _ => apa)] 0 (fun _ => 0)), rfl, ⟨(Or.inl (⟨rfl, (show lnE byt len.toInt ten.toInt tst_c35.toInt ten_c36.toInt mos wev aga apa mos wev_c37 aga apa from by (try rw [show (1 : Int32).toInt = 1 from (show (1 : Int32).toInt = 1 from rfl)]); (first | exact le_room (by assumption) (by assumption) (by omega) (by omega) (by assumption) (by assumption) | exact ln_roomN (by assumption) (by assumption) (by omega) (by omega) (by assumption) (by assumption) | exact ⟨1, 0, _, ln_again (by assumption) (by assumption) (by omega) (by omega) (by assumption) (by assumption) (by assumption) (by assumption) (by assumption), Or.inr (Or.inl ⟨rfl, rfl, rfl, rfl, rfl⟩)⟩ | exact ln_againN (by assumption) (by assumption) (by omega) (by omega) (by assumption) (by assumption) (by assumption) (by assumption) | exact ⟨2, 0, _, ln_apart (by assumption) (by assumption) (by omega) (by omega) (by assumption) (by assumption) (by assumption) (by assumption) (by assumption), Or.inr (Or.inr (Or.inl ⟨rfl, rfl, rfl, rfl, rfl⟩))⟩ | exact ln_apartN (by assumption) (by assumption) (by omega) (by omega) (by assumption) (by assumption) (by assumption) (by assumption) | exact le_walk (by assumption) (by assumption) (by omega) (by omega) (by assumption) (by assumption) | exact ln_walkN (by assumption) (by assumption) (by omega) (by omega) (by assumption) (by assumption) | exact ln_none (by assumption) (by assumption) (by omega) (by omega) (by assumption) (by assumption) (by assumption) (by assumption) rfl))⟩)), (show tst_c35.toInt ≤ ten_c36.toInt from by (try rw [show (1 : Int32).toInt = 1 from (show (1 : Int32).toInt = 1 from rfl)]); omega), (show ten_c36.toInt ≤ len.toInt from by (try rw [show (1 : Int32).toInt = 1 from (show (1 : Int32).toInt = 1 from rfl)]); omega), h33_2, h33_3⟩, by rw [ht]; exact hP, hD⟩, hS.F ht⟩) hS.2.2 dX7_readLine_109
          · refine lv_if_eq (tgt := 108) hx hb dX7_readLine_101 (by decide) (fun _ => ?_) (fun c9 => absurd (by decide) c9)
            refine lv_iconst (v := 0) hx hb dX7_readLine_108 (by decide) ?_
            exact W.zret (v := 0) hx hb hr (by decide) (fun tq ht hW => ⟨⟨0, (uS [(fun _ => tst_c35), (fun _ => ten_c36), mos, wev_c37, (fun _ => aga), (fun _ => apa)] 0 (fun _ => 0)), rfl, ⟨(Or.inr (⟨rfl, (show lnN byt len.toInt ten.toInt tst_c35.toInt from by (try rw [show (0 : Int32).toInt = 0 from (show (0 : Int32).toInt = 0 from rfl)]); (first | exact le_room (by assumption) (by assumption) (by omega) (by omega) (by assumption) (by assumption) | exact ln_roomN (by assumption) (by assumption) (by omega) (by omega) (by assumption) (by assumption) | exact ⟨1, 0, _, ln_again (by assumption) (by assumption) (by omega) (by omega) (by assumption) (by assumption) (by assumption) (by assumption) (by assumption), Or.inr (Or.inl ⟨rfl, rfl, rfl, rfl, rfl⟩)⟩ | exact ln_againN (by assumption) (by assumption) (by omega) (by omega) (by assumption) (by assumption) (by assumption) (by assumption) | exact ⟨2, 0, _, ln_apart (by assumption) (by assumption) (by omega) (by omega) (by assumption) (by assumption) (by assumption) (by assumption) (by assumption), Or.inr (Or.inr (Or.inl ⟨rfl, rfl, rfl, rfl, rfl⟩))⟩ | exact ln_apartN (by assumption) (by assumption) (by omega) (by omega) (by assumption) (by assumption) (by assumption) (by assumption) | exact le_walk (by assumption) (by assumption) (by omega) (by omega) (by assumption) (by assumption) | exact ln_walkN (by assumption) (by assumption) (by omega) (by omega) (by assumption) (by assumption) | exact ln_none (by assumption) (by assumption) (by omega) (by omega) (by assumption) (by assumption) (by assumption) (by assumption) rfl))⟩)), (show tst_c35.toInt ≤ ten_c36.toInt from by (try rw [show (0 : Int32).toInt = 0 from (show (0 : Int32).toInt = 0 from rfl)]); omega), (show ten_c36.toInt ≤ len.toInt from by (try rw [show (0 : Int32).toInt = 0 from (show (0 : Int32).toInt = 0 from rfl)]); omega), h33_2, h33_3⟩, by rw [ht]; exact hP, hD⟩, hS.F ht⟩) hS.2.2 dX7_readLine_109
        · refine lv_if_eq (tgt := 108) hx hb dX7_readLine_93 (by decide) (fun _ => ?_) (fun c9 => absurd (by decide) c9)
          refine lv_iconst (v := 0) hx hb dX7_readLine_108 (by decide) ?_
          exact W.zret (v := 0) hx hb hr (by decide) (fun tq ht hW => ⟨⟨0, (uS [(fun _ => tst_c4), (fun _ => ten_c5), mos, wev, (fun _ => aga), (fun _ => apa)] 0 (fun _ => 0)), rfl, ⟨(Or.inr (⟨rfl, (show lnN byt len.toInt ten.toInt tst_c4.toInt from by (try rw [show (0 : Int32).toInt = 0 from (show (0 : Int32).toInt = 0 from rfl)]); (first | exact le_room (by assumption) (by assumption) (by omega) (by omega) (by assumption) (by assumption) | exact ln_roomN (by assumption) (by assumption) (by omega) (by omega) (by assumption) (by assumption) | exact ⟨1, 0, _, ln_again (by assumption) (by assumption) (by omega) (by omega) (by assumption) (by assumption) (by assumption) (by assumption) (by assumption), Or.inr (Or.inl ⟨rfl, rfl, rfl, rfl, rfl⟩)⟩ | exact ln_againN (by assumption) (by assumption) (by omega) (by omega) (by assumption) (by assumption) (by assumption) (by assumption) | exact ⟨2, 0, _, ln_apart (by assumption) (by assumption) (by omega) (by omega) (by assumption) (by assumption) (by assumption) (by assumption) (by assumption), Or.inr (Or.inr (Or.inl ⟨rfl, rfl, rfl, rfl, rfl⟩))⟩ | exact ln_apartN (by assumption) (by assumption) (by omega) (by omega) (by assumption) (by assumption) (by assumption) (by assumption) | exact le_walk (by assumption) (by assumption) (by omega) (by omega) (by assumption) (by assumption) | exact ln_walkN (by assumption) (by assumption) (by omega) (by omega) (by assumption) (by assumption) | exact ln_none (by assumption) (by assumption) (by omega) (by omega) (by assumption) (by assumption) (by assumption) (by assumption) rfl))⟩)), (show tst_c4.toInt ≤ ten_c5.toInt from by (try rw [show (0 : Int32).toInt = 0 from (show (0 : Int32).toInt = 0 from rfl)]); omega), (show ten_c5.toInt ≤ len.toInt from by (try rw [show (0 : Int32).toInt = 0 from (show (0 : Int32).toInt = 0 from rfl)]); omega), h2_4, h2_5⟩, by rw [ht]; exact hP, hD⟩, hS.F ht⟩) hS.2.2 dX7_readLine_109
set_option maxHeartbeats 4000000 in
set_option maxRecDepth 100000 in
theorem k_X7_readInto2 (l : Launch) (dC : Nat → ClassId) (dI : Nat → Nat → Nat) (cI cZ cQ : ClassId) (a : Nat → Nat) (rb0 : Nat) (rb1 : Nat) (rb2 : Nat) (byt : Nat → Int32) (len : Int32) (tst : Int32) (ten : Int32) (mos : Nat → Int32) (wev : Nat → Int32) (aga : Int32) (apa : Int32) (lin : Int32) (ak av : Nat → Nat) (sz : Nat) (r_len : 0 ≤ len.toInt ∧ len.toInt ≤ 160) (r_tst : 0 ≤ tst.toInt ∧ tst.toInt ≤ 160) (r_ten : 0 ≤ ten.toInt ∧ ten.toInt ≤ 160) : KWS l yX7_readInto wsX7_readInto { frames := 7, cells := 0, slots := 0, locals := 150 } (dC, dI) (TY cI cZ cQ) (wTxR cI cZ cQ a rb0 rb1 rb2 byt len tst ten mos wev aga apa lin) ak av [.ref (a 14), .ref rb0] sz 0 0 (fun (r : Int32) (u : US) => (roC byt len.toInt r (u.1 2) (u.1 3) (u.1 4 0) (u.1 5 0) (u.1 6 0)) ∧ (0 ≤ (u.1 0 0).toInt ∧ (u.1 0 0).toInt ≤ 160) ∧ (0 ≤ (u.1 1 0).toInt ∧ (u.1 1 0).toInt ≤ 160)) (fun u : US => (wTxR cI cZ cQ a rb0 rb1 rb2 byt len (u.1 0 0) (u.1 1 0) (u.1 2) (u.1 3) (u.1 4 0) (u.1 5 0) (u.1 6 0))) := by
  refine Met.ofW (cc := cX7_readInto) (maxL := 3) (ret := (some .int)) (by decide) rfl ?_
  intro p e s m args below meth c s₁ B hml hv
  obtain ⟨rfl, hsz, hP, hK, hD0, hN, hSV⟩ := hv
  have hx := B.exec
  have hb := B.bytes
  have hr := B.returns
  have hts := atoms_spec (ws := wsX7_readInto) B.pre
  have hown : s.vm.findClass RX7 = some m.cls := findClass_of_methodNamed B.named
  have hlocks := B.notSynchronized
  have lf26 := hts (.fieldLink RX7 26 "PalaceOfRooms$Text" "tokenEnd" "I") (List.mem_cons_of_mem _ (List.mem_append_left _ (List.mem_append_left _ (List.mem_append_left _ (List.mem_of_getElem? (i := 0) rfl)))))
  have inX7 : ∀ w ∈ wsX70, w ∈ wsX7_readInto := fun w h => List.mem_cons_of_mem _ (List.mem_append_left _ (List.mem_append_right _ h))
  have lf33 := hts (.fieldLink RX7 33 "PalaceOfRooms$Text" "tokenStart" "I") (List.mem_cons_of_mem _ (List.mem_append_left _ (List.mem_append_left _ (List.mem_append_left _ (List.mem_of_getElem? (i := 1) rfl)))))
  have lf36 := hN.use (w := .fieldLinkNest "PalaceOfRooms$Text" 36 "PalaceOfRooms$RuleBook" "lines" "I" "PalaceOfRooms") (List.mem_of_getElem? (i := 29) rfl) ([.ref (a 14), .ref rb0] : List Value).toArray
  have inX5 : ∀ w ∈ wsX50, w ∈ wsX7_readInto := fun w h => List.mem_cons_of_mem _ (List.mem_append_right _ h)
  have lf15 := hts (.fieldLink RX7 15 "PalaceOfRooms$Text" "length" "I") (List.mem_cons_of_mem _ (List.mem_append_left _ (List.mem_append_left _ (List.mem_append_left _ (List.mem_of_getElem? (i := 2) rfl)))))
  have lf9 := hts (.fieldLink RX7 9 "PalaceOfRooms$Text" "bytes" "[I") (List.mem_cons_of_mem _ (List.mem_append_left _ (List.mem_append_left _ (List.mem_append_left _ (List.mem_of_getElem? (i := 3) rfl)))))
  subst hsz
  have hD := hD0.self (sz := s.heap.size)
  generalize hAe : va_A (wTxR cI cZ cQ a rb0 rb1 rb2 byt len tst ten mos wev aga apa lin) s.heap.size = A at hD hSV ⊢
  have hA : ∀ q : Nat, s.heap.size ≤ q → A q := fun q h => by rw [← hAe]; exact Or.inr h
  have hS : va_S A s.heap s.heap [] := va_S.rf
  have hl := lv_entry ([.ref (a 14), .ref rb0]) (n := 3) (Nat.le_of_ble_eq_true rfl)
  rw [lg_entry_eq]
  generalize (lg_sl ([.ref (a 14), .ref rb0]) ++ List.replicate (3 - (lg_sl ([.ref (a 14), .ref rb0])).length) Slot.unset).toArray = ls at hl ⊢
  have hl : lv_has ls 3 [(0, .ref (a 14)), (1, .ref rb0)] := hl
  refine lv_aload_n hx hb dX7_readInto_0 rfl (lv_at hl 1 rfl) ?_
  refine wvV (As := []) (rest := []) (wr := [((a 14), .inr (7, [.ref (a 15), .int len, .int tst, .int ten])), ((a 15), .inl (cI, 160, .inl byt))]) (w2 := (fun u : US => (wTxR cI cZ cQ a rb0 rb1 rb2 byt len tst ten (u.1 0) (u.1 1) (u.1 2 0) (u.1 3 0) (u.1 4 0)))) ⟨hx, hb, hml, hown, hts⟩ (k_X5_forget l dC dI cI cZ cQ rb0 rb1 rb2 mos wev aga apa lin _) (cwV 0 hts gX7_readInto_X5_forget rfl rfl rfl (by decide +kernel) ⟨Nat.le_of_ble_eq_true rfl, Nat.le_of_ble_eq_true rfl⟩) hP hD hS hA hK hN [2, 3, 4] [0, 1] [0, 1, 2, 3, 4] rfl rfl (by decide) (by decide) (by decide) (fun _ => rfl) (by decide) 2 5 rfl rfl rfl hl.1 rfl (Nat.le_of_ble_eq_true rfl) dX7_readInto_1 ⟨Nat.le_of_ble_eq_true rfl, Nat.le_of_ble_eq_true rfl⟩ (fun u3 H locs h2 hP hD hS => ?_)
  obtain ⟨mos_c4, emos_c4⟩ : ∃ f : Nat → Int32, f = (u3.1 0) := ⟨_, rfl⟩
  obtain ⟨wev_c5, ewev_c5⟩ : ∃ f : Nat → Int32, f = (u3.1 1) := ⟨_, rfl⟩
  obtain ⟨aga_c6, eaga_c6⟩ : ∃ f : Int32, f = (u3.1 2 0) := ⟨_, rfl⟩
  obtain ⟨apa_c7, eapa_c7⟩ : ∃ f : Int32, f = (u3.1 3 0) := ⟨_, rfl⟩
  obtain ⟨lin_c8, elin_c8⟩ : ∃ f : Int32, f = (u3.1 4 0) := ⟨_, rfl⟩
  have hP : va_P (dC, dI) vwCl (wTxR cI cZ cQ a rb0 rb1 rb2 byt len tst ten mos_c4 wev_c5 aga_c6 apa_c7 lin_c8) H := by rw [emos_c4, ewev_c5, eaga_c6, eapa_c7, elin_c8]; exact hP
  have hD : va_D A (wTxR cI cZ cQ a rb0 rb1 rb2 byt len tst ten mos_c4 wev_c5 aga_c6 apa_c7 lin_c8) := by rw [emos_c4, ewev_c5, eaga_c6, eapa_c7, elin_c8]; exact hD
  have h2 : (∀ j, j < 8 → mos_c4 j = -1) ∧ (∀ j, j < 8 → wev_c5 j = -1) ∧ (aga_c6 = -1) ∧ (apa_c7 = -1) ∧ (lin_c8 = 0) := by (try rw [emos_c4]); (try rw [ewev_c5]); (try rw [eaga_c6]); (try rw [eapa_c7]); (try rw [elin_c8]); exact h2
  obtain ⟨h2_0, h2_1, h2_2, h2_3, h2_4⟩ := h2
  refine lv_aload_n hx hb dX7_readInto_4 rfl (lv_at hl 0 rfl) ?_
  refine lv_iconst (v := 0) hx hb dX7_readInto_5 (by decide) ?_
  refine va_put (D := (dC, dI)) (ci := 7) (v := .int 0) (ty := .int) (C := RX7) (T := TX7) (N := 4) hx hb hts inX7 tyX7 tyX7_ok nmX7 hown hK hP hD hS 0 rfl rfl 3 (by decide) lf26 (fun _ h9 => h9) rfl (by decide +kernel) rfl rfl (Nat.le_of_ble_eq_true rfl) dX7_readInto_6 (fun H locs hP hD hS => ?_)
  have g9 : 0 ≤ (0 : Int32).toInt ∧ (0 : Int32).toInt ≤ 160 := by rw [show (0 : Int32).toInt = 0 from (show (0 : Int32).toInt = 0 from rfl)]; exact ⟨by omega, by omega⟩
  have hP : va_P (dC, dI) vwCl (wTxR cI cZ cQ a rb0 rb1 rb2 byt len tst 0 mos_c4 wev_c5 aga_c6 apa_c7 lin_c8) H := hP
  have hD : va_D A (wTxR cI cZ cQ a rb0 rb1 rb2 byt len tst 0 mos_c4 wev_c5 aga_c6 apa_c7 lin_c8) := hD
  refine lv_iconst (v := 0) hx hb dX7_readInto_9 (by decide) ?_
  refine lv_istore_n (lv' := [(2, .int 0), (0, .ref (a 14)), (1, .ref rb0)]) hx hb dX7_readInto_10 rfl hl (by decide) rfl (fun ls hl => ?_)
  have L11 : ∀ (nn : Nat) (y11_2 : Int32) (tst_11 : Int32) (ten_11 : Int32) (mos_11 : Nat → Int32) (wev_11 : Nat → Int32) (aga_11 : Int32) (apa_11 : Int32) (lin_11 : Int32) (H : Heap) (locs : List Loc) (ls : Array Slot), (0 ≤ tst_11.toInt ∧ tst_11.toInt ≤ 160) → (0 ≤ ten_11.toInt ∧ ten_11.toInt ≤ 160) → (0 ≤ (y11_2.toInt)) → ((y11_2.toInt) ≤ 10) → (ten_11.toInt ≤ len.toInt) → (rdB byt len.toInt ((y11_2.toInt)).toNat ten_11.toInt mos_11 wev_11 aga_11 apa_11) → (lin_11 = nI ((y11_2.toInt)).toNat) → ((y11_2.toInt) ≤ 9 ∨ roX byt len.toInt tst_11.toInt) → (10 - (y11_2.toInt)).toNat < nn → va_P (dC, dI) vwCl (wTxR cI cZ cQ a rb0 rb1 rb2 byt len tst_11 ten_11 mos_11 wev_11 aga_11 apa_11 lin_11) H → va_D A (wTxR cI cZ cQ a rb0 rb1 rb2 byt len tst_11 ten_11 mos_11 wev_11 aga_11 apa_11 lin_11) → va_S A s.heap H locs → lv_has ls 3 [(0, .ref (a 14)), (1, .ref rb0), (2, .int y11_2)] → W p l e (headSpec wsX7_readInto { frames := 7, cells := 0, slots := 0, locals := 150 }).room s m ([.ref (a 14), .ref rb0] : List Value).toArray below meth c H locs 0 0 (MQ below (va_Qi (fun (r : Int32) (u : US) => (roC byt len.toInt r (u.1 2) (u.1 3) (u.1 4 0) (u.1 5 0) (u.1 6 0)) ∧ (0 ≤ (u.1 0 0).toInt ∧ (u.1 0 0).toInt ≤ 160) ∧ (0 ≤ (u.1 1 0).toInt ∧ (u.1 1 0).toInt ≤ 160)) (Bw (dC, dI) A (fun u : US => (wTxR cI cZ cQ a rb0 rb1 rb2 byt len (u.1 0 0) (u.1 1 0) (u.1 2) (u.1 3) (u.1 4 0) (u.1 5 0) (u.1 6 0)))) A) ([.ref (a 14), .ref rb0] : List Value).toArray s 0 0 A) (F0 m 11 ls []) := by
    intro nn
    induction nn with
    | zero =>
      intro y11_2 tst_11 ten_11 mos_11 wev_11 aga_11 apa_11 lin_11 H locs ls r_tst_11 r_ten_11 i11_0 i11_1 i11_2 i11_3 i11_4 i11_5 hm11
      exact absurd hm11 (Nat.not_lt_zero _)
    | succ nn ih11 =>
      intro y11_2 tst_11 ten_11 mos_11 wev_11 aga_11 apa_11 lin_11 H locs ls r_tst_11 r_ten_11 i11_0 i11_1 i11_2 i11_3 i11_4 i11_5 hm11 hP hD hS hl
      refine lv_iload_n hx hb dX7_readInto_11 rfl (lv_at hl 2 rfl) ?_
      refine lv_bipush (v := 10) hx hb dX7_readInto_12 (by decide) ?_
      refine lv_icmp_ge (tgt := 82) hx hb dX7_readInto_14 (by decide) (fun c10 => ?_) (fun c10 => ?_)
      · have dc10 : 10 ≤ y11_2.toInt := leC (show (10 : Int32).toInt = 10 from rfl) rfl c10
        refine lv_aload_n hx hb dX7_readInto_82 rfl (lv_at hl 0 rfl) ?_
        refine va_get (D := (dC, dI)) (ci := 7) (v := .int tst_11) (C := RX7) (T := TX7) (N := 4) hx hb hts inX7 hown hK hP 0 rfl rfl 2 (by decide) lf33 (fun _ h9 => h9) rfl dX7_readInto_83 ?_
        exact W.iret (v := tst_11) hx hb hr (fun tq ht hW => ⟨⟨tst_11, (uS [(fun _ => tst_11), (fun _ => ten_11), mos_11, wev_11, (fun _ => aga_11), (fun _ => apa_11), (fun _ => lin_11)] 0 (fun _ => 0)), rfl, ⟨(show roC byt len.toInt tst_11 mos_11 wev_11 aga_11 apa_11 lin_11 from by (first | exact ro_n i11_3 (by omega) (by assumption) | exact ro_ok i11_3 (by omega) (by assumption) (by assumption) (by omega) (by omega) rfl (li_s i11_4 (by assumption) (by omega) rfl) | exact ro_f i11_3 (by omega) (by assumption) (by assumption) (by omega) (Or.inl (by rw [← idx_eq]; omega)) rfl | exact (i11_5.resolve_left (by omega)) _ _ _ _ _ _ rfl)), r_tst_11, r_ten_11⟩, by rw [ht]; exact hP, hD⟩, hS.F ht⟩) hS.2.2 dX7_readInto_86
      · have dc10 : y11_2.toInt < 10 := nleC (show (10 : Int32).toInt = 10 from rfl) rfl c10
        refine lv_aload_n hx hb dX7_readInto_17 rfl (lv_at hl 0 rfl) ?_
        refine lv_aload_n hx hb dX7_readInto_18 rfl (lv_at hl 1 rfl) ?_
        refine wrVS (As := [.ref rb0]) (rest := []) (wr := []) (w2 := (fun u : US => (wTxR cI cZ cQ a rb0 rb1 rb2 byt len (u.1 0 0) (u.1 1 0) (u.1 2) (u.1 3) (u.1 4 0) (u.1 5 0) lin_11))) ⟨hx, hb, hml, hown, hts⟩ (k_X7_readLine2 l dC dI cI cZ cQ a rb0 rb1 rb2 byt len tst_11 ten_11 mos_11 wev_11 aga_11 apa_11 lin_11 ak av _ r_len r_tst_11 r_ten_11 (by omega)) (cwV 1 hts gX7_readInto_X7_readLine rfl rfl rfl (by decide +kernel) ⟨Nat.le_of_ble_eq_true rfl, Nat.le_of_ble_eq_true rfl⟩) (hSV.kept hS.2.1) hP hD hS hA hK hN [0, 1, 2, 3, 4] [] [0, 1, 2, 3, 4] rfl rfl (by decide) (by decide) (by decide) (fun _ => rfl) (by decide) 0 7 rfl rfl rfl hl.1 rfl (Nat.le_of_ble_eq_true rfl) dX7_readInto_19 ⟨Nat.le_of_ble_eq_true rfl, Nat.le_of_ble_eq_true rfl⟩ (fun r11 u13 H locs h12 hP hD hS => ?_)
        obtain ⟨tst_c14, etst_c14⟩ : ∃ f : Int32, f = (u13.1 0 0) := ⟨_, rfl⟩
        obtain ⟨ten_c15, eten_c15⟩ : ∃ f : Int32, f = (u13.1 1 0) := ⟨_, rfl⟩
        obtain ⟨mos_c16, emos_c16⟩ : ∃ f : Nat → Int32, f = (u13.1 2) := ⟨_, rfl⟩
        obtain ⟨wev_c17, ewev_c17⟩ : ∃ f : Nat → Int32, f = (u13.1 3) := ⟨_, rfl⟩
        obtain ⟨aga_c18, eaga_c18⟩ : ∃ f : Int32, f = (u13.1 4 0) := ⟨_, rfl⟩
        obtain ⟨apa_c19, eapa_c19⟩ : ∃ f : Int32, f = (u13.1 5 0) := ⟨_, rfl⟩
        have hP : va_P (dC, dI) vwCl (wTxR cI cZ cQ a rb0 rb1 rb2 byt len tst_c14 ten_c15 mos_c16 wev_c17 aga_c18 apa_c19 lin_11) H := by rw [etst_c14, eten_c15, emos_c16, ewev_c17, eaga_c18, eapa_c19]; exact hP
        have hD : va_D A (wTxR cI cZ cQ a rb0 rb1 rb2 byt len tst_c14 ten_c15 mos_c16 wev_c17 aga_c18 apa_c19 lin_11) := by rw [etst_c14, eten_c15, emos_c16, ewev_c17, eaga_c18, eapa_c19]; exact hD
        have h12 : ((((r11 = 1) ∧ (lnE byt len.toInt ten_11.toInt tst_c14.toInt ten_c15.toInt mos_11 wev_11 aga_11 apa_11 mos_c16 wev_c17 aga_c18 apa_c19)) ∨ ((r11 = 0) ∧ (lnN byt len.toInt ten_11.toInt tst_c14.toInt)))) ∧ (tst_c14.toInt ≤ ten_c15.toInt) ∧ (ten_c15.toInt ≤ len.toInt) ∧ (0 ≤ tst_c14.toInt ∧ tst_c14.toInt ≤ 160) ∧ (0 ≤ ten_c15.toInt ∧ ten_c15.toInt ≤ 160) := by (try rw [etst_c14]); (try rw [eten_c15]); (try rw [emos_c16]); (try rw [ewev_c17]); (try rw [eaga_c18]); (try rw [eapa_c19]); exact h12
        rcases h12 with ⟨(⟨rfl, h12_a0⟩ | ⟨rfl, h12_a0⟩), h12_0, h12_1, h12_2, h12_3⟩
        · refine lv_if_ne (tgt := 30) hx hb dX7_readInto_22 (by decide) (fun _ => ?_) (fun c9 => absurd c9 (by decide))
          refine lv_aload_n hx hb dX7_readInto_30 rfl (lv_at hl 1 rfl) ?_
          refine lv_dup hx hb dX7_readInto_31 rfl ?_
          refine va_getN (D := (dC, dI)) (ci := 5) (v := .int lin_11) (C := RX5) (T := TX5) (N := 5) hx hb hts inX5 hown hK hP 2 rfl rfl 4 (by decide) lf36 (fun _ h9 => h9) rfl dX7_readInto_32 ?_
          refine lv_iconst (v := 1) hx hb dX7_readInto_35 (by decide) ?_
          refine lv_iadd hx hb dX7_readInto_36 ?_
          refine lv_topi (fun x20 ex20 => ?_)
          have ix20 : x20.toInt = (lin_11 + 1).toInt := by rw [ex20]
          refine va_putN (D := (dC, dI)) (ci := 5) (v := .int x20) (ty := .int) (C := RX5) (T := TX5) (N := 5) hx hb hts inX5 tyX5 tyX5_ok nmX5 hown hK hP hD hS 2 rfl rfl 4 (by decide) lf36 (fun _ h9 => h9) rfl (by decide +kernel) rfl rfl (Nat.le_of_ble_eq_true rfl) dX7_readInto_37 (fun H locs hP hD hS => ?_)
          have hP : va_P (dC, dI) vwCl (wTxR cI cZ cQ a rb0 rb1 rb2 byt len tst_c14 ten_c15 mos_c16 wev_c17 aga_c18 apa_c19 x20) H := hP
          have hD : va_D A (wTxR cI cZ cQ a rb0 rb1 rb2 byt len tst_c14 ten_c15 mos_c16 wev_c17 aga_c18 apa_c19 x20) := hD
          refine lv_aload_n hx hb dX7_readInto_40 rfl (lv_at hl 0 rfl) ?_
          refine wvV (As := []) (rest := []) (wr := [(rb0, .inr (5, [.ref rb1, .ref rb2, .int aga_c18, .int apa_c19, .int x20])), (rb1, .inl (cI, 8, .inl mos_c16)), (rb2, .inl (cI, 8, .inl wev_c17))]) (w2 := (fun u : US => (wTxR cI cZ cQ a rb0 rb1 rb2 byt len (u.1 0 0) (u.1 1 0) mos_c16 wev_c17 aga_c18 apa_c19 x20))) ⟨hx, hb, hml, hown, hts⟩ (k_X7_nextToken2 l dC dI cI cZ cQ a byt len tst_c14 ten_c15 _ r_len h12_2 h12_3 (by omega)) (cwV 0 hts gX7_readInto_X7_nextToken rfl rfl rfl (by decide +kernel) ⟨Nat.le_of_ble_eq_true rfl, Nat.le_of_ble_eq_true rfl⟩) hP hD hS hA hK hN [0, 1] [2, 3, 4] [3, 4, 0, 1, 2] rfl rfl (by decide) (by decide) (by decide) (fun _ => rfl) (by decide) 0 7 rfl rfl rfl hl.1 rfl (Nat.le_of_ble_eq_true rfl) dX7_readInto_41 ⟨Nat.le_of_ble_eq_true rfl, Nat.le_of_ble_eq_true rfl⟩ (fun u23 H locs h22 hP hD hS => ?_)
          obtain ⟨tst_c24, etst_c24⟩ : ∃ f : Int32, f = (u23.1 0 0) := ⟨_, rfl⟩
          obtain ⟨ten_c25, eten_c25⟩ : ∃ f : Int32, f = (u23.1 1 0) := ⟨_, rfl⟩
          have hP : va_P (dC, dI) vwCl (wTxR cI cZ cQ a rb0 rb1 rb2 byt len tst_c24 ten_c25 mos_c16 wev_c17 aga_c18 apa_c19 x20) H := by rw [etst_c24, eten_c25]; exact hP
          have hD : va_D A (wTxR cI cZ cQ a rb0 rb1 rb2 byt len tst_c24 ten_c25 mos_c16 wev_c17 aga_c18 apa_c19 x20) := by rw [etst_c24, eten_c25]; exact hD
          have h22 : (tst_c24.toInt ≤ ten_c25.toInt) ∧ (ten_c25.toInt ≤ len.toInt) ∧ (tst_c24.toInt = tS byt len.toInt ten_c15.toInt) ∧ (ten_c25.toInt = tE byt len.toInt tst_c24.toInt) ∧ (0 ≤ tst_c24.toInt ∧ tst_c24.toInt ≤ 160) ∧ (0 ≤ ten_c25.toInt ∧ ten_c25.toInt ≤ 160) := by (try rw [etst_c24]); (try rw [eten_c25]); exact h22
          obtain ⟨h22_0, h22_1, h22_2, h22_3, h22_4, h22_5⟩ := h22
          refine lv_aload_n hx hb dX7_readInto_44 rfl (lv_at hl 0 rfl) ?_
          refine va_get (D := (dC, dI)) (ci := 7) (v := .int tst_c24) (C := RX7) (T := TX7) (N := 4) hx hb hts inX7 hown hK hP 0 rfl rfl 2 (by decide) lf33 (fun _ h9 => h9) rfl dX7_readInto_45 ?_
          refine lv_aload_n hx hb dX7_readInto_48 rfl (lv_at hl 0 rfl) ?_
          refine va_get (D := (dC, dI)) (ci := 7) (v := .int len) (C := RX7) (T := TX7) (N := 4) hx hb hts inX7 hown hK hP 0 rfl rfl 1 (by decide) lf15 (fun _ h9 => h9) rfl dX7_readInto_49 ?_
          refine lv_icmp_lt (tgt := 57) hx hb dX7_readInto_52 (by decide) (fun c26 => ?_) (fun c26 => ?_)
          · have dc26 : tst_c24.toInt < len.toInt := ltC rfl rfl c26
            refine lv_aload_n hx hb dX7_readInto_57 rfl (lv_at hl 0 rfl) ?_
            refine va_get (D := (dC, dI)) (ci := 7) (v := .ref (a 15)) (C := RX7) (T := TX7) (N := 4) hx hb hts inX7 hown hK hP 0 rfl rfl 0 (by decide) lf9 (fun _ h9 => h9) rfl dX7_readInto_58 ?_
            refine lv_aload_n hx hb dX7_readInto_61 rfl (lv_at hl 0 rfl) ?_
            refine va_get (D := (dC, dI)) (ci := 7) (v := .int tst_c24) (C := RX7) (T := TX7) (N := 4) hx hb hts inX7 hown hK hP 0 rfl rfl 2 (by decide) lf33 (fun _ h9 => h9) rfl dX7_readInto_62 ?_
            have b27 : vp_in tst_c24 160 := inC rfl (by omega) (by omega)
            refine va_iald hx hb hK hP 1 0 rfl rfl b27 dX7_readInto_65 ?_
            refine lv_bipush (v := 59) hx hb dX7_readInto_66 (by decide) ?_
            refine lv_icmp_eq (tgt := 76) hx hb dX7_readInto_68 (by decide) (fun c28 => ?_) (fun c28 => ?_)
            · have dc28 : (byt tst_c24.toNatClampNeg).toInt = 59 := eqC rfl (show (59 : Int32).toInt = 59 from rfl) c28
              obtain ⟨z29, ez29⟩ : ∃ y : Int32, y = y11_2 + 1 := ⟨_, rfl⟩
              have iz29 : z29.toInt = y11_2.toInt + 1 := by rw [ez29]; exact addC rfl rfl (by omega) (by omega)
              refine lv_iinc (v := z29) (lv' := [(2, .int z29), (0, .ref (a 14)), (1, .ref rb0)]) hx hb dX7_readInto_76 hl (k := 2) rfl (by rw [ez29]; rfl) (by decide) rfl (fun ls hl => ?_)
              refine lv_goto (tgt := 11) hx hb dX7_readInto_79 (by decide) ?_
              exact ih11 z29 tst_c24 ten_c25 mos_c16 wev_c17 aga_c18 apa_c19 x20 _ _ _ h22_4 h22_5 (by omega) (by omega) (by omega) (by (first | exact rb_step i11_3 (by assumption) (by assumption) (by assumption) (by omega) (by rw [← idx_eq]; omega) (by omega) | exact rb_init (by first | rfl | omega) (by assumption) (by assumption) (by assumption) (by assumption) (by first | rfl | omega))) (by (first | exact li_s i11_4 (by assumption) (by omega) (by omega) | exact li_0 (by assumption) (by first | rfl | omega))) (by (first | exact rx_step i11_3 (by omega) (by assumption) (by assumption) (by omega) (by omega) | exact Or.inl (by omega))) (by omega) hP hD hS (lv_sub hl [1, 2, 0] rfl)
            · have dc28 : (byt tst_c24.toNatClampNeg).toInt ≠ 59 := neC rfl (show (59 : Int32).toInt = 59 from rfl) c28
              refine lv_aload_n hx hb dX7_readInto_71 rfl (lv_at hl 0 rfl) ?_
              refine va_get (D := (dC, dI)) (ci := 7) (v := .int tst_c24) (C := RX7) (T := TX7) (N := 4) hx hb hts inX7 hown hK hP 0 rfl rfl 2 (by decide) lf33 (fun _ h9 => h9) rfl dX7_readInto_72 ?_
              exact W.iret (v := tst_c24) hx hb hr (fun tq ht hW => ⟨⟨tst_c24, (uS [(fun _ => tst_c24), (fun _ => ten_c25), mos_c16, wev_c17, (fun _ => aga_c18), (fun _ => apa_c19), (fun _ => x20)] 0 (fun _ => 0)), rfl, ⟨(show roC byt len.toInt tst_c24 mos_c16 wev_c17 aga_c18 apa_c19 x20 from by (first | exact ro_n i11_3 (by omega) (by assumption) | exact ro_ok i11_3 (by omega) (by assumption) (by assumption) (by omega) (by omega) rfl (li_s i11_4 (by assumption) (by omega) rfl) | exact ro_f i11_3 (by omega) (by assumption) (by assumption) (by omega) (Or.inl (by rw [← idx_eq]; omega)) rfl | exact (i11_5.resolve_left (by omega)) _ _ _ _ _ _ rfl)), h22_4, h22_5⟩, by rw [ht]; exact hP, hD⟩, hS.F ht⟩) hS.2.2 dX7_readInto_75
          · have dc26 : len.toInt ≤ tst_c24.toInt := nltC rfl rfl c26
            refine lv_iconst (v := (-1)) hx hb dX7_readInto_55 (by decide) ?_
            exact W.iret (v := (-1)) hx hb hr (fun tq ht hW => ⟨⟨(-1), (uS [(fun _ => tst_c24), (fun _ => ten_c25), mos_c16, wev_c17, (fun _ => aga_c18), (fun _ => apa_c19), (fun _ => x20)] 0 (fun _ => 0)), rfl, ⟨(show roC byt len.toInt ((-1) : Int32) mos_c16 wev_c17 aga_c18 apa_c19 x20 from by (try rw [show ((-1) : Int32).toInt = (-1) from (show ((-1) : Int32).toInt = (-1) from rfl)]); (first | exact ro_n i11_3 (by omega) (by assumption) | exact ro_ok i11_3 (by omega) (by assumption) (by assumption) (by omega) (by omega) rfl (li_s i11_4 (by assumption) (by omega) rfl) | exact ro_f i11_3 (by omega) (by assumption) (by assumption) (by omega) (Or.inl (by rw [← idx_eq]; omega)) rfl | exact (i11_5.resolve_left (by omega)) _ _ _ _ _ _ rfl)), h22_4, h22_5⟩, by rw [ht]; exact hP, hD⟩, hS.F ht⟩) hS.2.2 dX7_readInto_56
        · refine lv_if_ne (tgt := 30) hx hb dX7_readInto_22 (by decide) (fun c9 => absurd (by decide) c9) (fun _ => ?_)
          refine lv_aload_n hx hb dX7_readInto_25 rfl (lv_at hl 0 rfl) ?_
          refine va_get (D := (dC, dI)) (ci := 7) (v := .int tst_c14) (C := RX7) (T := TX7) (N := 4) hx hb hts inX7 hown hK hP 0 rfl rfl 2 (by decide) lf33 (fun _ h9 => h9) rfl dX7_readInto_26 ?_
          exact W.iret (v := tst_c14) hx hb hr (fun tq ht hW => ⟨⟨tst_c14, (uS [(fun _ => tst_c14), (fun _ => ten_c15), mos_c16, wev_c17, (fun _ => aga_c18), (fun _ => apa_c19), (fun _ => lin_11)] 0 (fun _ => 0)), rfl, ⟨(show roC byt len.toInt tst_c14 mos_c16 wev_c17 aga_c18 apa_c19 lin_11 from by (first | exact ro_n i11_3 (by omega) (by assumption) | exact ro_ok i11_3 (by omega) (by assumption) (by assumption) (by omega) (by omega) rfl (li_s i11_4 (by assumption) (by omega) rfl) | exact ro_f i11_3 (by omega) (by assumption) (by assumption) (by omega) (Or.inl (by rw [← idx_eq]; omega)) rfl | exact (i11_5.resolve_left (by omega)) _ _ _ _ _ _ rfl)), h12_2, h12_3⟩, by rw [ht]; exact hP, hD⟩, hS.F ht⟩) hS.2.2 dX7_readInto_29
  have kc30 : (0 : Int32).toInt = 0 := rfl
  exact L11 _ 0 tst 0 mos_c4 wev_c5 aga_c6 apa_c7 lin_c8 _ _ _ r_tst g9 (by omega) (by omega) (by omega) (by (first | exact rb_step i11_3 (by assumption) (by assumption) (by assumption) (by omega) (by rw [← idx_eq]; omega) (by omega) | exact rb_init (by first | rfl | omega) (by assumption) (by assumption) (by assumption) (by assumption) (by first | rfl | omega))) (by (first | exact li_s i11_4 (by assumption) (by omega) (by omega) | exact li_0 (by assumption) (by first | rfl | omega))) (by (first | exact rx_step i11_3 (by omega) (by assumption) (by assumption) (by omega) (by omega) | exact Or.inl (by omega))) (Nat.lt_succ_self _) hP hD hS (lv_sub hl [1, 2, 0] rfl)
end
section
set_option maxHeartbeats 4000000 in
set_option maxRecDepth 100000 in
theorem k_X9_fault2 (l : Launch) (dC : Nat → ClassId) (dI : Nat → Nat → Nat) (cI cZ cQ : ClassId) (a : Nat → Nat) (rb0 : Nat) (rb1 : Nat) (rb2 : Nat) (db0 : Nat) (db1 : Nat) (db2 : Nat) (byt : Nat → Int32) (len : Int32) (tst : Int32) (ten : Int32) (dmos : Nat → Int32) (dwev : Nat → Int32) (daga : Int32) (dapa : Int32) (dlin : Int32) (ak av : Nat → Nat) (sz : Nat) (r_len : 0 ≤ len.toInt ∧ len.toInt ≤ 160) (r_tst : 0 ≤ tst.toInt ∧ tst.toInt ≤ 160) (r_ten : 0 ≤ ten.toInt ∧ ten.toInt ≤ 160) : KWS l yX9_fault wsX9_fault { frames := 8, cells := 0, slots := 0, locals := 172 } (dC, dI) (TY cI cZ cQ) (wsTD cI cZ cQ a rb0 rb1 rb2 db0 db1 db2 byt len tst ten dmos dwev daga dapa dlin) ak av [.ref (a 43)] sz 0 0 (fun (r : Int32) (u : US) => (spFltC byt len r) ∧ (0 ≤ (u.1 0 0).toInt ∧ (u.1 0 0).toInt ≤ 160) ∧ (0 ≤ (u.1 1 0).toInt ∧ (u.1 1 0).toInt ≤ 160)) (fun u : US => (wsTD cI cZ cQ a rb0 rb1 rb2 db0 db1 db2 byt len (u.1 0 0) (u.1 1 0) (u.1 2) (u.1 3) (u.1 4 0) (u.1 5 0) (u.1 6 0))) := by
  refine Met.ofW (cc := cX9_fault) (maxL := 1) (ret := (some .int)) (by decide) rfl ?_
  intro p e s m args below meth c s₁ B hml hv
  obtain ⟨rfl, hsz, hP, hK, hD0, hN, hSV⟩ := hv
  have hx := B.exec
  have hb := B.bytes
  have hr := B.returns
  have hts := atoms_spec (ws := wsX9_fault) B.pre
  have hown : s.vm.findClass RX9 = some m.cls := findClass_of_methodNamed B.named
  have hlocks := B.notSynchronized
  have lf35 := hts (.fieldLink RX9 35 "PalaceOfRooms" "text" "LPalaceOfRooms$Text;") (List.mem_cons_of_mem _ (List.mem_append_left _ (List.mem_append_left _ (List.mem_append_left _ (List.mem_append_left _ (List.mem_of_getElem? (i := 0) rfl))))))
  have inX9 : ∀ w ∈ wsX90, w ∈ wsX9_fault := fun w h => List.mem_cons_of_mem _ (List.mem_append_left _ (List.mem_append_left _ (List.mem_append_right _ h)))
  have lf80 := hts (.fieldLink RX9 80 "PalaceOfRooms" "draft" "LPalaceOfRooms$RuleBook;") (List.mem_cons_of_mem _ (List.mem_append_left _ (List.mem_append_left _ (List.mem_append_left _ (List.mem_append_left _ (List.mem_of_getElem? (i := 1) rfl))))))
  subst hsz
  have hD := hD0.self (sz := s.heap.size)
  generalize hAe : va_A (wsTD cI cZ cQ a rb0 rb1 rb2 db0 db1 db2 byt len tst ten dmos dwev daga dapa dlin) s.heap.size = A at hD hSV ⊢
  have hA : ∀ q : Nat, s.heap.size ≤ q → A q := fun q h => by rw [← hAe]; exact Or.inr h
  have hS : va_S A s.heap s.heap [] := va_S.rf
  have hl := lv_entry ([.ref (a 43)]) (n := 1) (Nat.le_of_ble_eq_true rfl)
  rw [lg_entry_eq]
  generalize (lg_sl ([.ref (a 43)]) ++ List.replicate (1 - (lg_sl ([.ref (a 43)])).length) Slot.unset).toArray = ls at hl ⊢
  have hl : lv_has ls 1 [(0, .ref (a 43))] := hl
  refine lv_aload_n hx hb dX9_fault_0 rfl (lv_at hl 0 rfl) ?_
  refine va_get (D := (dC, dI)) (ci := 9) (v := .ref (a 14)) (C := RX9) (T := TX9) (N := 11) hx hb hts inX9 hown hK hP 0 rfl rfl 3 (by decide) lf35 (fun _ h9 => h9) rfl dX9_fault_1 ?_
  refine lv_aload_n hx hb dX9_fault_4 rfl (lv_at hl 0 rfl) ?_
  refine va_get (D := (dC, dI)) (ci := 9) (v := .ref db0) (C := RX9) (T := TX9) (N := 11) hx hb hts inX9 hown hK hP 0 rfl rfl 10 (by decide) lf80 (fun _ h9 => h9) rfl dX9_fault_5 ?_
  refine wrVS (As := [.ref db0]) (rest := []) (wr := [((a 43), .inr (9, [.ref (a 0), .ref (a 2), .ref (a 4), .ref (a 14), .ref (a 16), .ref (a 23), .ref (a 28), .ref (a 33), .ref (a 42), .ref rb0, .ref db0]))]) (w2 := (fun u : US => (wsTD cI cZ cQ a rb0 rb1 rb2 db0 db1 db2 byt len (u.1 0 0) (u.1 1 0) (u.1 2) (u.1 3) (u.1 4 0) (u.1 5 0) (u.1 6 0)))) ⟨hx, hb, hml, hown, hts⟩ (k_X7_readInto2 l dC dI cI cZ cQ a db0 db1 db2 byt len tst ten dmos dwev daga dapa dlin ak av _ r_len r_tst r_ten) (cwV 1 hts gX9_fault_X7_readInto rfl rfl rfl (by decide +kernel) ⟨Nat.le_of_ble_eq_true rfl, Nat.le_of_ble_eq_true rfl⟩) (hSV.kept hS.2.1) hP hD hS hA hK hN [1, 2, 3, 4, 5] [0] [0, 1, 2, 3, 4, 5] rfl rfl (by decide) (by decide) (by decide) (fun _ => rfl) (by decide) 1 7 rfl rfl rfl hl.1 rfl (Nat.le_of_ble_eq_true rfl) dX9_fault_8 ⟨Nat.le_of_ble_eq_true rfl, Nat.le_of_ble_eq_true rfl⟩ (fun r1 u3 H locs h2 hP hD hS => ?_)
  obtain ⟨tst_c4, etst_c4⟩ : ∃ f : Int32, f = (u3.1 0 0) := ⟨_, rfl⟩
  obtain ⟨ten_c5, eten_c5⟩ : ∃ f : Int32, f = (u3.1 1 0) := ⟨_, rfl⟩
  obtain ⟨dmos_c6, edmos_c6⟩ : ∃ f : Nat → Int32, f = (u3.1 2) := ⟨_, rfl⟩
  obtain ⟨dwev_c7, edwev_c7⟩ : ∃ f : Nat → Int32, f = (u3.1 3) := ⟨_, rfl⟩
  obtain ⟨daga_c8, edaga_c8⟩ : ∃ f : Int32, f = (u3.1 4 0) := ⟨_, rfl⟩
  obtain ⟨dapa_c9, edapa_c9⟩ : ∃ f : Int32, f = (u3.1 5 0) := ⟨_, rfl⟩
  obtain ⟨dlin_c10, edlin_c10⟩ : ∃ f : Int32, f = (u3.1 6 0) := ⟨_, rfl⟩
  have hP : va_P (dC, dI) vwCl (wsTD cI cZ cQ a rb0 rb1 rb2 db0 db1 db2 byt len tst_c4 ten_c5 dmos_c6 dwev_c7 daga_c8 dapa_c9 dlin_c10) H := by rw [etst_c4, eten_c5, edmos_c6, edwev_c7, edaga_c8, edapa_c9, edlin_c10]; exact hP
  have hD : va_D A (wsTD cI cZ cQ a rb0 rb1 rb2 db0 db1 db2 byt len tst_c4 ten_c5 dmos_c6 dwev_c7 daga_c8 dapa_c9 dlin_c10) := by rw [etst_c4, eten_c5, edmos_c6, edwev_c7, edaga_c8, edapa_c9, edlin_c10]; exact hD
  have h2 : (roC byt len.toInt r1 dmos_c6 dwev_c7 daga_c8 dapa_c9 dlin_c10) ∧ (0 ≤ tst_c4.toInt ∧ tst_c4.toInt ≤ 160) ∧ (0 ≤ ten_c5.toInt ∧ ten_c5.toInt ≤ 160) := by (try rw [etst_c4]); (try rw [eten_c5]); (try rw [edmos_c6]); (try rw [edwev_c7]); (try rw [edaga_c8]); (try rw [edapa_c9]); (try rw [edlin_c10]); exact h2
  obtain ⟨h2_0, h2_1, h2_2⟩ := h2
  exact W.iret (v := r1) hx hb hr (fun tq ht hW => ⟨⟨r1, (uS [(fun _ => tst_c4), (fun _ => ten_c5), dmos_c6, dwev_c7, (fun _ => daga_c8), (fun _ => dapa_c9), (fun _ => dlin_c10)] 0 (fun _ => 0)), rfl, ⟨(show spFltC byt len r1 from by exact ⟨_, _, _, _, _, by assumption⟩), h2_1, h2_2⟩, by rw [ht]; exact hP, hD⟩, hS.F ht⟩) hS.2.2 dX9_fault_11
set_option maxHeartbeats 4000000 in
set_option maxRecDepth 100000 in
theorem k_X9_rules2 (l : Launch) (dC : Nat → ClassId) (dI : Nat → Nat → Nat) (cI cZ cQ : ClassId) (a : Nat → Nat) (rb0 : Nat) (rb1 : Nat) (rb2 : Nat) (db0 : Nat) (db1 : Nat) (db2 : Nat) (byt : Nat → Int32) (len : Int32) (tst : Int32) (ten : Int32) (dmos : Nat → Int32) (dwev : Nat → Int32) (daga : Int32) (dapa : Int32) (dlin : Int32) (mos : Nat → Int32) (wev : Nat → Int32) (aga : Int32) (apa : Int32) (lin : Int32) (ak av : Nat → Nat) (sz : Nat) (r_len : 0 ≤ len.toInt ∧ len.toInt ≤ 160) (r_tst : 0 ≤ tst.toInt ∧ tst.toInt ≤ 160) (r_ten : 0 ≤ ten.toInt ∧ ten.toInt ≤ 160) : KWS l yX9_rules wsX9_rules { frames := 8, cells := 0, slots := 0, locals := 172 } (dC, dI) (TY cI cZ cQ) (wsTDR cI cZ cQ a rb0 rb1 rb2 db0 db1 db2 byt len tst ten dmos dwev daga dapa dlin mos wev aga apa lin) ak av [.ref (a 43)] sz 0 0 (fun (r : Int32) (u : US) => (spRulC byt len mos wev aga apa lin r (u.1 12 0) (u.1 7) (u.1 8) (u.1 9 0) (u.1 10 0) (u.1 11 0)) ∧ (0 ≤ (u.1 0 0).toInt ∧ (u.1 0 0).toInt ≤ 160) ∧ (0 ≤ (u.1 1 0).toInt ∧ (u.1 1 0).toInt ≤ 160) ∧ (0 ≤ (u.1 12 0).toInt ∧ (u.1 12 0).toInt ≤ 160)) (fun u : US => (wsTDR cI cZ cQ a (u.2.2 0) (u.2.2 1) (u.2.2 2) (u.2.2 3) (u.2.2 4) (u.2.2 5) byt (u.1 12 0) (u.1 0 0) (u.1 1 0) (u.1 2) (u.1 3) (u.1 4 0) (u.1 5 0) (u.1 6 0) (u.1 7) (u.1 8) (u.1 9 0) (u.1 10 0) (u.1 11 0))) := by
  refine Met.ofW (cc := cX9_rules) (maxL := 2) (ret := (some .int)) (by decide) rfl ?_
  intro p e s m args below meth c s₁ B hml hv
  obtain ⟨rfl, hsz, hP, hK, hD0, hN, hSV⟩ := hv
  have hx := B.exec
  have hb := B.bytes
  have hr := B.returns
  have hts := atoms_spec (ws := wsX9_rules) B.pre
  have hown : s.vm.findClass RX9 = some m.cls := findClass_of_methodNamed B.named
  have hlocks := B.notSynchronized
  have lf35 := hts (.fieldLink RX9 35 "PalaceOfRooms" "text" "LPalaceOfRooms$Text;") (List.mem_cons_of_mem _ (List.mem_append_left _ (List.mem_append_left _ (List.mem_append_left _ (List.mem_append_left _ (List.mem_of_getElem? (i := 0) rfl))))))
  have inX9 : ∀ w ∈ wsX90, w ∈ wsX9_rules := fun w h => List.mem_cons_of_mem _ (List.mem_append_left _ (List.mem_append_left _ (List.mem_append_right _ h)))
  have lf80 := hts (.fieldLink RX9 80 "PalaceOfRooms" "draft" "LPalaceOfRooms$RuleBook;") (List.mem_cons_of_mem _ (List.mem_append_left _ (List.mem_append_left _ (List.mem_append_left _ (List.mem_append_left _ (List.mem_of_getElem? (i := 1) rfl))))))
  have lf76 := hts (.fieldLink RX9 76 "PalaceOfRooms" "rules" "LPalaceOfRooms$RuleBook;") (List.mem_cons_of_mem _ (List.mem_append_left _ (List.mem_append_left _ (List.mem_append_left _ (List.mem_append_left _ (List.mem_of_getElem? (i := 2) rfl))))))
  have lf163 := hN.use (w := .fieldLinkNest "PalaceOfRooms" 163 "PalaceOfRooms$Text" "length" "I" "PalaceOfRooms") (List.mem_of_getElem? (i := 14) rfl) ([.ref (a 43)] : List Value).toArray
  have inX7 : ∀ w ∈ wsX70, w ∈ wsX9_rules := fun w h => List.mem_cons_of_mem _ (List.mem_append_left _ (List.mem_append_right _ h))
  have lf174 := hN.use (w := .fieldLinkNest "PalaceOfRooms" 174 "PalaceOfRooms$RuleBook" "lines" "I" "PalaceOfRooms") (List.mem_of_getElem? (i := 30) rfl) ([.ref (a 43)] : List Value).toArray
  have inX5 : ∀ w ∈ wsX50, w ∈ wsX9_rules := fun w h => List.mem_cons_of_mem _ (List.mem_append_right _ h)
  subst hsz
  have hD := hD0.self (sz := s.heap.size)
  generalize hAe : va_A (wsTDR cI cZ cQ a rb0 rb1 rb2 db0 db1 db2 byt len tst ten dmos dwev daga dapa dlin mos wev aga apa lin) s.heap.size = A at hD hSV ⊢
  have hA : ∀ q : Nat, s.heap.size ≤ q → A q := fun q h => by rw [← hAe]; exact Or.inr h
  have hS : va_S A s.heap s.heap [] := va_S.rf
  have hl := lv_entry ([.ref (a 43)]) (n := 2) (Nat.le_of_ble_eq_true rfl)
  rw [lg_entry_eq]
  generalize (lg_sl ([.ref (a 43)]) ++ List.replicate (2 - (lg_sl ([.ref (a 43)])).length) Slot.unset).toArray = ls at hl ⊢
  have hl : lv_has ls 2 [(0, .ref (a 43))] := hl
  refine lv_aload_n hx hb dX9_rules_0 rfl (lv_at hl 0 rfl) ?_
  refine va_get (D := (dC, dI)) (ci := 9) (v := .ref (a 14)) (C := RX9) (T := TX9) (N := 11) hx hb hts inX9 hown hK hP 0 rfl rfl 3 (by decide) lf35 (fun _ h9 => h9) rfl dX9_rules_1 ?_
  refine lv_aload_n hx hb dX9_rules_4 rfl (lv_at hl 0 rfl) ?_
  refine va_get (D := (dC, dI)) (ci := 9) (v := .ref db0) (C := RX9) (T := TX9) (N := 11) hx hb hts inX9 hown hK hP 0 rfl rfl 10 (by decide) lf80 (fun _ h9 => h9) rfl dX9_rules_5 ?_
  refine wrVS (As := [.ref db0]) (rest := []) (wr := [((a 43), .inr (9, [.ref (a 0), .ref (a 2), .ref (a 4), .ref (a 14), .ref (a 16), .ref (a 23), .ref (a 28), .ref (a 33), .ref (a 42), .ref rb0, .ref db0])), (rb0, .inr (5, [.ref rb1, .ref rb2, .int aga, .int apa, .int lin])), (rb1, .inl (cI, 8, .inl mos)), (rb2, .inl (cI, 8, .inl wev))]) (w2 := (fun u : US => (wsTDR cI cZ cQ a rb0 rb1 rb2 db0 db1 db2 byt len (u.1 0 0) (u.1 1 0) (u.1 2) (u.1 3) (u.1 4 0) (u.1 5 0) (u.1 6 0) mos wev aga apa lin))) ⟨hx, hb, hml, hown, hts⟩ (k_X7_readInto2 l dC dI cI cZ cQ a db0 db1 db2 byt len tst ten dmos dwev daga dapa dlin ak av _ r_len r_tst r_ten) (cwV 1 hts gX9_rules_X7_readInto rfl rfl rfl (by decide +kernel) ⟨Nat.le_of_ble_eq_true rfl, Nat.le_of_ble_eq_true rfl⟩) (hSV.kept hS.2.1) hP hD hS hA hK hN [1, 2, 3, 4, 5] [0, 6, 7, 8] [0, 4, 5, 6, 7, 8, 1, 2, 3] rfl rfl (by decide) (by decide) (by decide) (fun _ => rfl) (by decide) 1 7 rfl rfl rfl hl.1 rfl (Nat.le_of_ble_eq_true rfl) dX9_rules_8 ⟨Nat.le_of_ble_eq_true rfl, Nat.le_of_ble_eq_true rfl⟩ (fun r1 u3 H locs h2 hP hD hS => ?_)
  obtain ⟨tst_c4, etst_c4⟩ : ∃ f : Int32, f = (u3.1 0 0) := ⟨_, rfl⟩
  obtain ⟨ten_c5, eten_c5⟩ : ∃ f : Int32, f = (u3.1 1 0) := ⟨_, rfl⟩
  obtain ⟨dmos_c6, edmos_c6⟩ : ∃ f : Nat → Int32, f = (u3.1 2) := ⟨_, rfl⟩
  obtain ⟨dwev_c7, edwev_c7⟩ : ∃ f : Nat → Int32, f = (u3.1 3) := ⟨_, rfl⟩
  obtain ⟨daga_c8, edaga_c8⟩ : ∃ f : Int32, f = (u3.1 4 0) := ⟨_, rfl⟩
  obtain ⟨dapa_c9, edapa_c9⟩ : ∃ f : Int32, f = (u3.1 5 0) := ⟨_, rfl⟩
  obtain ⟨dlin_c10, edlin_c10⟩ : ∃ f : Int32, f = (u3.1 6 0) := ⟨_, rfl⟩
  have hP : va_P (dC, dI) vwCl (wsTDR cI cZ cQ a rb0 rb1 rb2 db0 db1 db2 byt len tst_c4 ten_c5 dmos_c6 dwev_c7 daga_c8 dapa_c9 dlin_c10 mos wev aga apa lin) H := by rw [etst_c4, eten_c5, edmos_c6, edwev_c7, edaga_c8, edapa_c9, edlin_c10]; exact hP
  have hD : va_D A (wsTDR cI cZ cQ a rb0 rb1 rb2 db0 db1 db2 byt len tst_c4 ten_c5 dmos_c6 dwev_c7 daga_c8 dapa_c9 dlin_c10 mos wev aga apa lin) := by rw [etst_c4, eten_c5, edmos_c6, edwev_c7, edaga_c8, edapa_c9, edlin_c10]; exact hD
  have h2 : (roC byt len.toInt r1 dmos_c6 dwev_c7 daga_c8 dapa_c9 dlin_c10) ∧ (0 ≤ tst_c4.toInt ∧ tst_c4.toInt ≤ 160) ∧ (0 ≤ ten_c5.toInt ∧ ten_c5.toInt ≤ 160) := by (try rw [etst_c4]); (try rw [eten_c5]); (try rw [edmos_c6]); (try rw [edwev_c7]); (try rw [edaga_c8]); (try rw [edapa_c9]); (try rw [edlin_c10]); exact h2
  obtain ⟨h2_0, h2_1, h2_2⟩ := h2
  refine lv_iconst (v := (-1)) hx hb dX9_rules_11 (by decide) ?_
  refine lv_icmp_eq (tgt := 18) hx hb dX9_rules_12 (by decide) (fun c11 => ?_) (fun c11 => ?_)
  · have dc11 : r1.toInt = (-1) := eqC rfl (show ((-1) : Int32).toInt = (-1) from rfl) c11
    refine lv_aload_n hx hb dX9_rules_18 rfl (lv_at hl 0 rfl) ?_
    refine va_get (D := (dC, dI)) (ci := 9) (v := .ref db0) (C := RX9) (T := TX9) (N := 11) hx hb hts inX9 hown hK hP 0 rfl rfl 10 (by decide) lf80 (fun _ h9 => h9) rfl dX9_rules_19 ?_
    refine lv_astore_n (lv' := [(1, .ref db0), (0, .ref (a 43))]) hx hb dX9_rules_22 rfl hl (by decide) rfl (fun ls hl => ?_)
    refine lv_aload_n hx hb dX9_rules_23 rfl (lv_at hl 1 rfl) ?_
    refine lv_aload_n hx hb dX9_rules_24 rfl (lv_at hl 1 rfl) ?_
    refine va_get (D := (dC, dI)) (ci := 9) (v := .ref rb0) (C := RX9) (T := TX9) (N := 11) hx hb hts inX9 hown hK hP 0 rfl rfl 9 (by decide) lf76 (fun _ h9 => h9) rfl dX9_rules_25 ?_
    refine va_put (D := (dC, dI)) (ci := 9) (v := .ref rb0) (ty := (.object "PalaceOfRooms$RuleBook")) (C := RX9) (T := TX9) (N := 11) hx hb hts inX9 tyX9 tyX9_ok nmX9 hown hK hP hD hS 0 rfl rfl 10 (by decide) lf80 (fun _ h9 => h9) rfl (by decide +kernel) rfl rfl (Nat.le_of_ble_eq_true rfl) dX9_rules_28 (fun H locs hP hD hS => ?_)
    have hP : va_P (dC, dI) vwCl [((a 43), .inr (9, [.ref (a 0), .ref (a 2), .ref (a 4), .ref (a 14), .ref (a 16), .ref (a 23), .ref (a 28), .ref (a 33), .ref (a 42), .ref rb0, .ref rb0])), ((a 14), .inr (7, [.ref (a 15), .int len, .int tst_c4, .int ten_c5])), ((a 15), .inl (cI, 160, .inl byt)), (db0, .inr (5, [.ref db1, .ref db2, .int daga_c8, .int dapa_c9, .int dlin_c10])), (db1, .inl (cI, 8, .inl dmos_c6)), (db2, .inl (cI, 8, .inl dwev_c7)), (rb0, .inr (5, [.ref rb1, .ref rb2, .int aga, .int apa, .int lin])), (rb1, .inl (cI, 8, .inl mos)), (rb2, .inl (cI, 8, .inl wev))] H := hP
    have hD : va_D A [((a 43), .inr (9, [.ref (a 0), .ref (a 2), .ref (a 4), .ref (a 14), .ref (a 16), .ref (a 23), .ref (a 28), .ref (a 33), .ref (a 42), .ref rb0, .ref rb0])), ((a 14), .inr (7, [.ref (a 15), .int len, .int tst_c4, .int ten_c5])), ((a 15), .inl (cI, 160, .inl byt)), (db0, .inr (5, [.ref db1, .ref db2, .int daga_c8, .int dapa_c9, .int dlin_c10])), (db1, .inl (cI, 8, .inl dmos_c6)), (db2, .inl (cI, 8, .inl dwev_c7)), (rb0, .inr (5, [.ref rb1, .ref rb2, .int aga, .int apa, .int lin])), (rb1, .inl (cI, 8, .inl mos)), (rb2, .inl (cI, 8, .inl wev))] := hD
    refine lv_aload_n hx hb dX9_rules_31 rfl (lv_at hl 1 rfl) ?_
    refine lv_aload_n hx hb dX9_rules_32 rfl (lv_at hl 0 rfl) ?_
    refine va_put (D := (dC, dI)) (ci := 9) (v := .ref db0) (ty := (.object "PalaceOfRooms$RuleBook")) (C := RX9) (T := TX9) (N := 11) hx hb hts inX9 tyX9 tyX9_ok nmX9 hown hK hP hD hS 0 rfl rfl 9 (by decide) lf76 (fun _ h9 => h9) rfl (by decide +kernel) rfl rfl (Nat.le_of_ble_eq_true rfl) dX9_rules_33 (fun H locs hP hD hS => ?_)
    have hP : va_P (dC, dI) vwCl [((a 43), .inr (9, [.ref (a 0), .ref (a 2), .ref (a 4), .ref (a 14), .ref (a 16), .ref (a 23), .ref (a 28), .ref (a 33), .ref (a 42), .ref db0, .ref rb0])), ((a 14), .inr (7, [.ref (a 15), .int len, .int tst_c4, .int ten_c5])), ((a 15), .inl (cI, 160, .inl byt)), (db0, .inr (5, [.ref db1, .ref db2, .int daga_c8, .int dapa_c9, .int dlin_c10])), (db1, .inl (cI, 8, .inl dmos_c6)), (db2, .inl (cI, 8, .inl dwev_c7)), (rb0, .inr (5, [.ref rb1, .ref rb2, .int aga, .int apa, .int lin])), (rb1, .inl (cI, 8, .inl mos)), (rb2, .inl (cI, 8, .inl wev))] H := hP
    have hD : va_D A [((a 43), .inr (9, [.ref (a 0), .ref (a 2), .ref (a 4), .ref (a 14), .ref (a 16), .ref (a 23), .ref (a 28), .ref (a 33), .ref (a 42), .ref db0, .ref rb0])), ((a 14), .inr (7, [.ref (a 15), .int len, .int tst_c4, .int ten_c5])), ((a 15), .inl (cI, 160, .inl byt)), (db0, .inr (5, [.ref db1, .ref db2, .int daga_c8, .int dapa_c9, .int dlin_c10])), (db1, .inl (cI, 8, .inl dmos_c6)), (db2, .inl (cI, 8, .inl dwev_c7)), (rb0, .inr (5, [.ref rb1, .ref rb2, .int aga, .int apa, .int lin])), (rb1, .inl (cI, 8, .inl mos)), (rb2, .inl (cI, 8, .inl wev))] := hD
    refine lv_aload_n hx hb dX9_rules_36 rfl (lv_at hl 1 rfl) ?_
    refine va_get (D := (dC, dI)) (ci := 9) (v := .ref (a 14)) (C := RX9) (T := TX9) (N := 11) hx hb hts inX9 hown hK hP 0 rfl rfl 3 (by decide) lf35 (fun _ h9 => h9) rfl dX9_rules_37 ?_
    refine lv_iconst (v := 0) hx hb dX9_rules_40 (by decide) ?_
    refine va_putN (D := (dC, dI)) (ci := 7) (v := .int 0) (ty := .int) (C := RX7) (T := TX7) (N := 4) hx hb hts inX7 tyX7 tyX7_ok nmX7 hown hK hP hD hS 1 rfl rfl 1 (by decide) lf163 (fun _ h9 => h9) rfl (by decide +kernel) rfl rfl (Nat.le_of_ble_eq_true rfl) dX9_rules_41 (fun H locs hP hD hS => ?_)
    have g12 : 0 ≤ (0 : Int32).toInt ∧ (0 : Int32).toInt ≤ 160 := by rw [show (0 : Int32).toInt = 0 from (show (0 : Int32).toInt = 0 from rfl)]; exact ⟨by omega, by omega⟩
    have hP : va_P (dC, dI) vwCl [((a 43), .inr (9, [.ref (a 0), .ref (a 2), .ref (a 4), .ref (a 14), .ref (a 16), .ref (a 23), .ref (a 28), .ref (a 33), .ref (a 42), .ref db0, .ref rb0])), ((a 14), .inr (7, [.ref (a 15), .int 0, .int tst_c4, .int ten_c5])), ((a 15), .inl (cI, 160, .inl byt)), (db0, .inr (5, [.ref db1, .ref db2, .int daga_c8, .int dapa_c9, .int dlin_c10])), (db1, .inl (cI, 8, .inl dmos_c6)), (db2, .inl (cI, 8, .inl dwev_c7)), (rb0, .inr (5, [.ref rb1, .ref rb2, .int aga, .int apa, .int lin])), (rb1, .inl (cI, 8, .inl mos)), (rb2, .inl (cI, 8, .inl wev))] H := hP
    have hD : va_D A [((a 43), .inr (9, [.ref (a 0), .ref (a 2), .ref (a 4), .ref (a 14), .ref (a 16), .ref (a 23), .ref (a 28), .ref (a 33), .ref (a 42), .ref db0, .ref rb0])), ((a 14), .inr (7, [.ref (a 15), .int 0, .int tst_c4, .int ten_c5])), ((a 15), .inl (cI, 160, .inl byt)), (db0, .inr (5, [.ref db1, .ref db2, .int daga_c8, .int dapa_c9, .int dlin_c10])), (db1, .inl (cI, 8, .inl dmos_c6)), (db2, .inl (cI, 8, .inl dwev_c7)), (rb0, .inr (5, [.ref rb1, .ref rb2, .int aga, .int apa, .int lin])), (rb1, .inl (cI, 8, .inl mos)), (rb2, .inl (cI, 8, .inl wev))] := hD
    refine lv_aload_n hx hb dX9_rules_44 rfl (lv_at hl 1 rfl) ?_
    refine va_get (D := (dC, dI)) (ci := 9) (v := .ref db0) (C := RX9) (T := TX9) (N := 11) hx hb hts inX9 hown hK hP 0 rfl rfl 9 (by decide) lf76 (fun _ h9 => h9) rfl dX9_rules_45 ?_
    refine va_getN (D := (dC, dI)) (ci := 5) (v := .int dlin_c10) (C := RX5) (T := TX5) (N := 5) hx hb hts inX5 hown hK hP 3 rfl rfl 4 (by decide) lf174 (fun _ h9 => h9) rfl dX9_rules_48 ?_
    have hP : va_P (dC, dI) vwCl (wsTDR cI cZ cQ a db0 db1 db2 rb0 rb1 rb2 byt 0 tst_c4 ten_c5 mos wev aga apa lin dmos_c6 dwev_c7 daga_c8 dapa_c9 dlin_c10) H := hP.sub [0, 1, 2, 6, 7, 8, 3, 4, 5] rfl
    have hD : va_D A (wsTDR cI cZ cQ a db0 db1 db2 rb0 rb1 rb2 byt 0 tst_c4 ten_c5 mos wev aga apa lin dmos_c6 dwev_c7 daga_c8 dapa_c9 dlin_c10) := hD.sub [0, 1, 2, 6, 7, 8, 3, 4, 5] (by decide) rfl
    exact W.iret (v := dlin_c10) hx hb hr (fun tq ht hW => ⟨⟨dlin_c10, (uS [(fun _ => tst_c4), (fun _ => ten_c5), mos, wev, (fun _ => aga), (fun _ => apa), (fun _ => lin), dmos_c6, dwev_c7, (fun _ => daga_c8), (fun _ => dapa_c9), (fun _ => dlin_c10), (fun _ => 0)] 0 (fun k => ([db0, db1, db2, rb0, rb1, rb2] : List Nat).getD k 0)), rfl, ⟨(show spRulC byt len mos wev aga apa lin dlin_c10 0 dmos_c6 dwev_c7 daga_c8 dapa_c9 dlin_c10 from by (first | exact Or.inl ⟨⟨_, ⟨_, _, _, _, _, by assumption⟩, by assumption⟩, rfl, rfl, rfl, rfl, rfl, rfl, rfl⟩ | exact Or.inr ⟨ro_cast (by assumption) (by assumption), rfl, rfl⟩)), h2_1, h2_2, g12⟩, by rw [ht]; exact hP, hD⟩, hS.F ht⟩) hS.2.2 dX9_rules_51
  · have dc11 : r1.toInt ≠ (-1) := neC rfl (show ((-1) : Int32).toInt = (-1) from rfl) c11
    refine lv_bipush (v := (-4)) hx hb dX9_rules_15 (by decide) ?_
    exact W.iret (v := (-4)) hx hb hr (fun tq ht hW => ⟨⟨(-4), (uS [(fun _ => tst_c4), (fun _ => ten_c5), dmos_c6, dwev_c7, (fun _ => daga_c8), (fun _ => dapa_c9), (fun _ => dlin_c10), mos, wev, (fun _ => aga), (fun _ => apa), (fun _ => lin), (fun _ => len)] 0 (fun k => ([rb0, rb1, rb2, db0, db1, db2] : List Nat).getD k 0)), rfl, ⟨(show spRulC byt len mos wev aga apa lin ((-4) : Int32) len mos wev aga apa lin from by (try rw [show ((-4) : Int32).toInt = (-4) from (show ((-4) : Int32).toInt = (-4) from rfl)]); (first | exact Or.inl ⟨⟨_, ⟨_, _, _, _, _, by assumption⟩, by assumption⟩, rfl, rfl, rfl, rfl, rfl, rfl, rfl⟩ | exact Or.inr ⟨ro_cast (by assumption) (by assumption), rfl, rfl⟩)), h2_1, h2_2, r_len⟩, by rw [ht]; exact hP, hD⟩, hS.F ht⟩) hS.2.2 dX9_rules_17
set_option maxHeartbeats 4000000 in
set_option maxRecDepth 100000 in
theorem k_X7_append2 (l : Launch) (dC : Nat → ClassId) (dI : Nat → Nat → Nat) (cI cZ cQ : ClassId) (a : Nat → Nat) (byt : Nat → Int32) (len : Int32) (tst : Int32) (ten : Int32) (sz : Nat) (mo : Int64) (n : Int32) (r_len : 0 ≤ len.toInt ∧ len.toInt ≤ 160) (r_tst : 0 ≤ tst.toInt ∧ tst.toInt ≤ 160) (r_ten : 0 ≤ ten.toInt ∧ ten.toInt ≤ 160) (q0 : 0 ≤ n.toInt) (q1 : n.toInt ≤ 8) (q2 : len.toInt + n.toInt ≤ 160) : KV l yX7_append wsX7_append { frames := 0, cells := 0, slots := 0, locals := 0 } (dC, dI) (TY cI cZ cQ) (wTxt cI cZ cQ a byt len tst ten) [.ref (a 14), .long mo, .int n] sz 0 0 (fun (u : US) => ((u.1 0) = wrF byt len.toInt mo n.toInt.toNat) ∧ ((u.1 1 0).toInt = len.toInt + n.toInt) ∧ (0 ≤ (u.1 1 0).toInt ∧ (u.1 1 0).toInt ≤ 160)) (fun u : US => (wTxt cI cZ cQ a (u.1 0) (u.1 1 0) tst ten)) := by
  refine Met.ofW (cc := cX7_append) (maxL := 5) (ret := none) (by decide) rfl ?_
  intro p e s m args below meth c s₁ B hml hv
  obtain ⟨rfl, hsz, hP, hK, hD0, hN⟩ := hv
  have hx := B.exec
  have hb := B.bytes
  have hr := B.returns
  have hts := atoms_spec (ws := wsX7_append) B.pre
  have hown : s.vm.findClass RX7 = some m.cls := findClass_of_methodNamed B.named
  have hlocks := B.notSynchronized
  have lf15 := hts (.fieldLink RX7 15 "PalaceOfRooms$Text" "length" "I") (List.mem_cons_of_mem _ (List.mem_append_left _ (List.mem_of_getElem? (i := 0) rfl)))
  have inX7 : ∀ w ∈ wsX70, w ∈ wsX7_append := fun w h => List.mem_cons_of_mem _ (List.mem_append_right _ h)
  have lf9 := hts (.fieldLink RX7 9 "PalaceOfRooms$Text" "bytes" "[I") (List.mem_cons_of_mem _ (List.mem_append_left _ (List.mem_of_getElem? (i := 1) rfl)))
  subst hsz
  have hD := hD0.self (sz := s.heap.size)
  generalize hAe : va_A (wTxt cI cZ cQ a byt len tst ten) s.heap.size = A at hD ⊢
  have hA : ∀ q : Nat, s.heap.size ≤ q → A q := fun q h => by rw [← hAe]; exact Or.inr h
  have hS : va_S A s.heap s.heap [] := va_S.rf
  have hl := lv_entry ([.ref (a 14), .long mo, .int n]) (n := 5) (Nat.le_of_ble_eq_true rfl)
  rw [lg_entry_eq]
  generalize (lg_sl ([.ref (a 14), .long mo, .int n]) ++ List.replicate (5 - (lg_sl ([.ref (a 14), .long mo, .int n])).length) Slot.unset).toArray = ls at hl ⊢
  have hl : lv_has ls 5 [(0, .ref (a 14)), (1, .long mo), (3, .int n)] := hl
  refine lv_iconst (v := 0) hx hb dX7_append_0 (by decide) ?_
  refine lv_istore (lv' := [(4, .int 0), (0, .ref (a 14)), (1, .long mo), (3, .int n)]) hx hb dX7_append_1 hl (by decide) rfl (fun ls hl => ?_)
  have L3 : ∀ (nn : Nat) (y3_4 : Int32) (byt_3 : Nat → Int32) (len_3 : Int32) (H : Heap) (locs : List Loc) (ls : Array Slot), (0 ≤ len_3.toInt ∧ len_3.toInt ≤ 160) → (0 ≤ (y3_4.toInt)) → ((y3_4.toInt) ≤ 8) → (byt_3 = wrF byt len.toInt mo ((y3_4.toInt)).toNat) → (len_3.toInt = len.toInt + (y3_4.toInt)) → ((y3_4.toInt) ≤ n.toInt) → (8 - (y3_4.toInt)).toNat < nn → va_P (dC, dI) vwCl (wTxt cI cZ cQ a byt_3 len_3 tst ten) H → va_D A (wTxt cI cZ cQ a byt_3 len_3 tst ten) → va_S A s.heap H locs → lv_has ls 5 [(0, .ref (a 14)), (1, .long mo), (3, .int n), (4, .int y3_4)] → W p l e (headSpec wsX7_append { frames := 0, cells := 0, slots := 0, locals := 0 }).room s m ([.ref (a 14), .long mo, .int n] : List Value).toArray below meth c H locs 0 0 (MQ below (va_Qv (fun (u : US) => ((u.1 0) = wrF byt len.toInt mo n.toInt.toNat) ∧ ((u.1 1 0).toInt = len.toInt + n.toInt) ∧ (0 ≤ (u.1 1 0).toInt ∧ (u.1 1 0).toInt ≤ 160)) (Bw (dC, dI) A (fun u : US => (wTxt cI cZ cQ a (u.1 0) (u.1 1 0) tst ten))) A) ([.ref (a 14), .long mo, .int n] : List Value).toArray s 0 0 A) (F0 m 3 ls []) := by
    intro nn
    induction nn with
    | zero =>
      intro y3_4 byt_3 len_3 H locs ls r_len_3 i3_0 i3_1 i3_2 i3_3 i3_4 hm3
      exact absurd hm3 (Nat.not_lt_zero _)
    | succ nn ih3 =>
      intro y3_4 byt_3 len_3 H locs ls r_len_3 i3_0 i3_1 i3_2 i3_3 i3_4 hm3 hP hD hS hl
      refine lv_iload hx hb dX7_append_3 (lv_at hl 3 rfl) ?_
      refine lv_iload_n hx hb dX7_append_5 rfl (lv_at hl 2 rfl) ?_
      refine lv_icmp_ge (tgt := 56) hx hb dX7_append_6 (by decide) (fun c1 => ?_) (fun c1 => ?_)
      · have dc1 : n.toInt ≤ y3_4.toInt := leC rfl rfl c1
        exact W.vret hx hb hr (fun tq ht hW => ⟨⟨(uS [byt_3, (fun _ => len_3)] 0 (fun _ => 0)), rfl, ⟨(show byt_3 = wrF byt len.toInt mo n.toInt.toNat from by exact wr_e i3_2 (by omega)), (show len_3.toInt = len.toInt + n.toInt from by omega), r_len_3⟩, by rw [ht]; exact hP, hD⟩, hS.F ht⟩) hS.2.2 dX7_append_56
      · have dc1 : y3_4.toInt < n.toInt := nleC rfl rfl c1
        refine lv_aload_n hx hb dX7_append_9 rfl (lv_at hl 0 rfl) ?_
        refine va_get (D := (dC, dI)) (ci := 7) (v := .int len_3) (C := RX7) (T := TX7) (N := 4) hx hb hts inX7 hown hK hP 0 rfl rfl 1 (by decide) lf15 (fun _ h9 => h9) rfl dX7_append_10 ?_
        refine lv_sipush (v := 160) hx hb dX7_append_13 (by decide) ?_
        refine lv_icmp_ge (tgt := 56) hx hb dX7_append_16 (by decide) (fun c2 => ?_) (fun c2 => ?_)
        · have dc2 : 160 ≤ len_3.toInt := leC (show (160 : Int32).toInt = 160 from rfl) rfl c2
          exact W.vret hx hb hr (fun tq ht hW => ⟨⟨(uS [byt_3, (fun _ => len_3)] 0 (fun _ => 0)), rfl, ⟨(show byt_3 = wrF byt len.toInt mo n.toInt.toNat from by exact wr_e i3_2 (by omega)), (show len_3.toInt = len.toInt + n.toInt from by omega), r_len_3⟩, by rw [ht]; exact hP, hD⟩, hS.F ht⟩) hS.2.2 dX7_append_56
        · have dc2 : len_3.toInt < 160 := nleC (show (160 : Int32).toInt = 160 from rfl) rfl c2
          refine lv_aload_n hx hb dX7_append_19 rfl (lv_at hl 0 rfl) ?_
          refine va_get (D := (dC, dI)) (ci := 7) (v := .ref (a 15)) (C := RX7) (T := TX7) (N := 4) hx hb hts inX7 hown hK hP 0 rfl rfl 0 (by decide) lf9 (fun _ h9 => h9) rfl dX7_append_20 ?_
          refine lv_aload_n hx hb dX7_append_23 rfl (lv_at hl 0 rfl) ?_
          refine va_get (D := (dC, dI)) (ci := 7) (v := .int len_3) (C := RX7) (T := TX7) (N := 4) hx hb hts inX7 hown hK hP 0 rfl rfl 1 (by decide) lf15 (fun _ h9 => h9) rfl dX7_append_24 ?_
          refine lv_lload_n hx hb dX7_append_27 rfl (lv_at hl 1 rfl) ?_
          refine lv_bipush (v := 8) hx hb dX7_append_28 (by decide) ?_
          refine lv_iload hx hb dX7_append_30 (lv_at hl 3 rfl) ?_
          refine lv_imul hx hb dX7_append_32 ?_
          have f3 : (8 * y3_4).toInt = (8) * (y3_4.toInt) := mulC (show (8 : Int32).toInt = 8 from rfl) rfl (by omega) (by omega)
          refine lv_lshr hx hb dX7_append_33 rfl ?_
          refine lv_ldc2 (v := 255) hx hb hown (hts (.constantLong RX7 19 (255)) (List.mem_cons_of_mem _ (List.mem_append_left _ (List.mem_of_getElem? (i := 2) rfl)))) dX7_append_34 ?_
          refine lv_land hx hb dX7_append_37 ?_
          refine lv_l2i hx hb dX7_append_38 rfl ?_
          have f4 : 0 ≤ (((mo >>> ((8 * y3_4).toInt64 &&& 63)) &&& 255).toInt32).toInt ∧ (((mo >>> ((8 * y3_4).toInt64 &&& 63)) &&& 255).toInt32).toInt ≤ 255 := l2iM255 _
          refine lv_topi (fun x5 ex5 => ?_)
          have ix5 : x5.toInt = (((mo >>> ((8 * y3_4).toInt64 &&& 63)) &&& 255).toInt32).toInt := by rw [ex5]
          have b6 : vp_in len_3 160 := inC rfl (by omega) (by omega)
          refine va_iast hx hb hK hP hD hS 1 0 rfl rfl b6 dX7_append_39 (fun H locs hP hD hS => ?_)
          obtain ⟨byt_u7, ebyt_u7⟩ : ∃ f : Nat → Int32, f = upd byt_3 len_3.toNatClampNeg x5 := ⟨_, rfl⟩
          have hP : va_P (dC, dI) vwCl (wTxt cI cZ cQ a byt_u7 len_3 tst ten) H := by rw [ebyt_u7]; exact hP
          have hD : va_D A (wTxt cI cZ cQ a byt_u7 len_3 tst ten) := by rw [ebyt_u7]; exact hD
          refine lv_aload_n hx hb dX7_append_40 rfl (lv_at hl 0 rfl) ?_
          refine lv_dup hx hb dX7_append_41 rfl ?_
          refine va_get (D := (dC, dI)) (ci := 7) (v := .int len_3) (C := RX7) (T := TX7) (N := 4) hx hb hts inX7 hown hK hP 0 rfl rfl 1 (by decide) lf15 (fun _ h9 => h9) rfl dX7_append_42 ?_
          refine lv_iconst (v := 1) hx hb dX7_append_45 (by decide) ?_
          refine lv_iadd hx hb dX7_append_46 ?_
          have f8 : (len_3 + 1).toInt = (len_3.toInt) + (1) := addC rfl (show (1 : Int32).toInt = 1 from rfl) (by omega) (by omega)
          refine lv_topi (fun x9 ex9 => ?_)
          have ix9 : x9.toInt = (len_3.toInt) + (1) := by rw [ex9]; exact f8
          refine va_put (D := (dC, dI)) (ci := 7) (v := .int x9) (ty := .int) (C := RX7) (T := TX7) (N := 4) hx hb hts inX7 tyX7 tyX7_ok nmX7 hown hK hP hD hS 0 rfl rfl 1 (by decide) lf15 (fun _ h9 => h9) rfl (by decide +kernel) rfl rfl (Nat.le_of_ble_eq_true rfl) dX7_append_47 (fun H locs hP hD hS => ?_)
          have g10 : 0 ≤ x9.toInt ∧ x9.toInt ≤ 160 := by rw [show x9.toInt = x9.toInt from rfl]; exact ⟨by omega, by omega⟩
          have hP : va_P (dC, dI) vwCl (wTxt cI cZ cQ a byt_u7 x9 tst ten) H := hP
          have hD : va_D A (wTxt cI cZ cQ a byt_u7 x9 tst ten) := hD
          obtain ⟨z11, ez11⟩ : ∃ y : Int32, y = y3_4 + 1 := ⟨_, rfl⟩
          have iz11 : z11.toInt = y3_4.toInt + 1 := by rw [ez11]; exact addC rfl rfl (by omega) (by omega)
          refine lv_iinc (v := z11) (lv' := [(4, .int z11), (0, .ref (a 14)), (1, .long mo), (3, .int n)]) hx hb dX7_append_50 hl (k := 3) rfl (by rw [ez11]; rfl) (by decide) rfl (fun ls hl => ?_)
          refine lv_goto (tgt := 3) hx hb dX7_append_53 (by decide) ?_
          exact ih3 z11 byt_u7 x9 _ _ _ g10 (by omega) (by omega) (by (first | exact wr_s i3_2 (by assumption) (by assumption) (by omega) (by omega) (by omega) | exact wr_0 (by first | rfl | omega))) (by omega) (by omega) (by omega) hP hD hS (lv_sub hl [1, 2, 3, 0] rfl)
  have kc12 : (0 : Int32).toInt = 0 := rfl
  exact L3 _ 0 byt len _ _ _ r_len (by omega) (by omega) (by (first | exact wr_s i3_2 (by assumption) (by assumption) (by omega) (by omega) (by omega) | exact wr_0 (by first | rfl | omega))) (by omega) (by omega) (Nat.lt_succ_self _) hP hD hS (lv_sub hl [1, 2, 3, 0] rfl)
set_option maxHeartbeats 4000000 in
set_option maxRecDepth 100000 in
theorem k_X9_write2 (l : Launch) (dC : Nat → ClassId) (dI : Nat → Nat → Nat) (cI cZ cQ : ClassId) (a : Nat → Nat) (rb0 : Nat) (rb1 : Nat) (rb2 : Nat) (db0 : Nat) (db1 : Nat) (db2 : Nat) (byt : Nat → Int32) (len : Int32) (tst : Int32) (ten : Int32) (sz : Nat) (so : Int64) (n : Int32) (r_len : 0 ≤ len.toInt ∧ len.toInt ≤ 160) (r_tst : 0 ≤ tst.toInt ∧ tst.toInt ≤ 160) (r_ten : 0 ≤ ten.toInt ∧ ten.toInt ≤ 160) : KW l yX9_write wsX9_write { frames := 1, cells := 0, slots := 0, locals := 24 } (dC, dI) (TY cI cZ cQ) (wsT cI cZ cQ a rb0 rb1 rb2 db0 db1 db2 byt len tst ten) [.ref (a 43), .long so, .int n] sz 0 0 (fun (r : Int32) (u : US) => (spWri byt len so n r (u.1 0) (u.1 1 0)) ∧ (0 ≤ (u.1 1 0).toInt ∧ (u.1 1 0).toInt ≤ 160)) (fun u : US => (wsT cI cZ cQ a rb0 rb1 rb2 db0 db1 db2 (u.1 0) (u.1 1 0) tst ten)) := by
  refine Met.ofW (cc := cX9_write) (maxL := 4) (ret := (some .int)) (by decide) rfl ?_
  intro p e s m args below meth c s₁ B hml hv
  obtain ⟨rfl, hsz, hP, hK, hD0, hN⟩ := hv
  have hx := B.exec
  have hb := B.bytes
  have hr := B.returns
  have hts := atoms_spec (ws := wsX9_write) B.pre
  have hown : s.vm.findClass RX9 = some m.cls := findClass_of_methodNamed B.named
  have hlocks := B.notSynchronized
  have lf35 := hts (.fieldLink RX9 35 "PalaceOfRooms" "text" "LPalaceOfRooms$Text;") (List.mem_cons_of_mem _ (List.mem_append_left _ (List.mem_append_left _ (List.mem_of_getElem? (i := 0) rfl))))
  have inX9 : ∀ w ∈ wsX90, w ∈ wsX9_write := fun w h => List.mem_cons_of_mem _ (List.mem_append_left _ (List.mem_append_right _ h))
  have lf163 := hN.use (w := .fieldLinkNest "PalaceOfRooms" 163 "PalaceOfRooms$Text" "length" "I" "PalaceOfRooms") (List.mem_of_getElem? (i := 14) rfl) ([.ref (a 43), .long so, .int n] : List Value).toArray
  have inX7 : ∀ w ∈ wsX70, w ∈ wsX9_write := fun w h => List.mem_cons_of_mem _ (List.mem_append_right _ h)
  subst hsz
  have hD := hD0.self (sz := s.heap.size)
  generalize hAe : va_A (wsT cI cZ cQ a rb0 rb1 rb2 db0 db1 db2 byt len tst ten) s.heap.size = A at hD ⊢
  have hA : ∀ q : Nat, s.heap.size ≤ q → A q := fun q h => by rw [← hAe]; exact Or.inr h
  have hS : va_S A s.heap s.heap [] := va_S.rf
  have hl := lv_entry ([.ref (a 43), .long so, .int n]) (n := 4) (Nat.le_of_ble_eq_true rfl)
  rw [lg_entry_eq]
  generalize (lg_sl ([.ref (a 43), .long so, .int n]) ++ List.replicate (4 - (lg_sl ([.ref (a 43), .long so, .int n])).length) Slot.unset).toArray = ls at hl ⊢
  have hl : lv_has ls 4 [(0, .ref (a 43)), (1, .long so), (3, .int n)] := hl
  refine lv_iload_n hx hb dX9_write_0 rfl (lv_at hl 2 rfl) ?_
  refine lv_iconst (v := 1) hx hb dX9_write_1 (by decide) ?_
  refine lv_bipush (v := 8) hx hb dX9_write_2 (by decide) ?_
  refine rdS (As := [.int n, .int 1, .int 8]) (rest := []) ⟨hx, hb, hml, hown, hts⟩ (k_X9_within l dC dI cI cZ cQ n (1 : Int32) (8 : Int32)) (va_cwS 3 hts gX9_write_X9_within rfl rfl rfl (by decide +kernel) ⟨Nat.le_of_ble_eq_true rfl, Nat.le_of_ble_eq_true rfl⟩) hP hK hN [] rfl rfl hl.1 rfl (Nat.le_of_ble_eq_true rfl) dX9_write_4 ⟨Nat.le_of_ble_eq_true rfl, Nat.le_of_ble_eq_true rfl⟩ (fun r1 h2 => ?_)
  have h2 : ((((r1 = 1) ∧ ((1) ≤ n.toInt) ∧ (n.toInt ≤ (8))) ∨ ((r1 = 0) ∧ (n.toInt < (1) ∨ (8) < n.toInt)))) := h2
  rcases h2 with (⟨rfl, h2_a0, h2_a1⟩ | ⟨rfl, h2_a0⟩)
  · refine lv_if_ne (tgt := 13) hx hb dX9_write_7 (by decide) (fun _ => ?_) (fun c9 => absurd c9 (by decide))
    refine lv_aload_n hx hb dX9_write_13 rfl (lv_at hl 0 rfl) ?_
    refine va_get (D := (dC, dI)) (ci := 9) (v := .ref (a 14)) (C := RX9) (T := TX9) (N := 11) hx hb hts inX9 hown hK hP 0 rfl rfl 3 (by decide) lf35 (fun _ h9 => h9) rfl dX9_write_14 ?_
    refine va_getN (D := (dC, dI)) (ci := 7) (v := .int len) (C := RX7) (T := TX7) (N := 4) hx hb hts inX7 hown hK hP 1 rfl rfl 1 (by decide) lf163 (fun _ h9 => h9) rfl dX9_write_17 ?_
    refine lv_iload_n hx hb dX9_write_20 rfl (lv_at hl 2 rfl) ?_
    refine lv_iadd hx hb dX9_write_21 ?_
    have f3 : (len + n).toInt = (len.toInt) + (n.toInt) := addC rfl rfl (by omega) (by omega)
    refine lv_sipush (v := 160) hx hb dX9_write_22 (by decide) ?_
    refine lv_icmp_le (tgt := 31) hx hb dX9_write_25 (by decide) (fun c4 => ?_) (fun c4 => ?_)
    · have dc4 : (len.toInt) + (n.toInt) ≤ 160 := leC f3 (show (160 : Int32).toInt = 160 from rfl) c4
      refine lv_aload_n hx hb dX9_write_31 rfl (lv_at hl 0 rfl) ?_
      refine va_get (D := (dC, dI)) (ci := 9) (v := .ref (a 14)) (C := RX9) (T := TX9) (N := 11) hx hb hts inX9 hown hK hP 0 rfl rfl 3 (by decide) lf35 (fun _ h9 => h9) rfl dX9_write_32 ?_
      refine lv_lload_n hx hb dX9_write_35 rfl (lv_at hl 1 rfl) ?_
      refine lv_iload_n hx hb dX9_write_36 rfl (lv_at hl 2 rfl) ?_
      refine wvV (As := [.long so, .int n]) (rest := []) (wr := [((a 43), .inr (9, [.ref (a 0), .ref (a 2), .ref (a 4), .ref (a 14), .ref (a 16), .ref (a 23), .ref (a 28), .ref (a 33), .ref (a 42), .ref rb0, .ref db0]))]) (w2 := (fun u : US => (wsT cI cZ cQ a rb0 rb1 rb2 db0 db1 db2 (u.1 0) (u.1 1 0) tst ten))) ⟨hx, hb, hml, hown, hts⟩ (k_X7_append2 l dC dI cI cZ cQ a byt len tst ten _ so n r_len r_tst r_ten (by omega) (by omega) (by omega)) (cwV 2 hts gX9_write_X7_append rfl rfl rfl (by decide +kernel) ⟨Nat.le_of_ble_eq_true rfl, Nat.le_of_ble_eq_true rfl⟩) hP hD hS hA hK hN [1, 2] [0] [0, 1, 2] rfl rfl (by decide) (by decide) (by decide) (fun _ => rfl) (by decide) 1 7 rfl rfl rfl hl.1 rfl (Nat.le_of_ble_eq_true rfl) dX9_write_37 ⟨Nat.le_of_ble_eq_true rfl, Nat.le_of_ble_eq_true rfl⟩ (fun u7 H locs h6 hP hD hS => ?_)
      obtain ⟨byt_c8, ebyt_c8⟩ : ∃ f : Nat → Int32, f = (u7.1 0) := ⟨_, rfl⟩
      obtain ⟨len_c9, elen_c9⟩ : ∃ f : Int32, f = (u7.1 1 0) := ⟨_, rfl⟩
      have hP : va_P (dC, dI) vwCl (wsT cI cZ cQ a rb0 rb1 rb2 db0 db1 db2 byt_c8 len_c9 tst ten) H := by rw [ebyt_c8, elen_c9]; exact hP
      have hD : va_D A (wsT cI cZ cQ a rb0 rb1 rb2 db0 db1 db2 byt_c8 len_c9 tst ten) := by rw [ebyt_c8, elen_c9]; exact hD
      have h6 : (byt_c8 = wrF byt len.toInt so n.toInt.toNat) ∧ (len_c9.toInt = len.toInt + n.toInt) ∧ (0 ≤ len_c9.toInt ∧ len_c9.toInt ≤ 160) := by (try rw [ebyt_c8]); (try rw [elen_c9]); exact h6
      obtain ⟨h6_0, h6_1, h6_2⟩ := h6
      refine lv_aload_n hx hb dX9_write_40 rfl (lv_at hl 0 rfl) ?_
      refine va_get (D := (dC, dI)) (ci := 9) (v := .ref (a 14)) (C := RX9) (T := TX9) (N := 11) hx hb hts inX9 hown hK hP 0 rfl rfl 3 (by decide) lf35 (fun _ h9 => h9) rfl dX9_write_41 ?_
      refine va_getN (D := (dC, dI)) (ci := 7) (v := .int len_c9) (C := RX7) (T := TX7) (N := 4) hx hb hts inX7 hown hK hP 1 rfl rfl 1 (by decide) lf163 (fun _ h9 => h9) rfl dX9_write_44 ?_
      exact W.iret (v := len_c9) hx hb hr (fun tq ht hW => ⟨⟨len_c9, (uS [byt_c8, (fun _ => len_c9)] 0 (fun _ => 0)), rfl, ⟨(show spWri byt len so n len_c9 byt_c8 len_c9 from by (first | exact Or.inl ⟨by omega, rfl, rfl, rfl⟩ | exact Or.inr (Or.inl ⟨by omega, by omega, rfl, rfl, rfl⟩) | exact Or.inr (Or.inr ⟨by omega, by omega, rfl, by assumption, by assumption⟩))), h6_2⟩, by rw [ht]; exact hP, hD⟩, hS.F ht⟩) hS.2.2 dX9_write_47
    · have dc4 : 160 < (len.toInt) + (n.toInt) := nleC f3 (show (160 : Int32).toInt = 160 from rfl) c4
      refine lv_bipush (v := (-5)) hx hb dX9_write_28 (by decide) ?_
      exact W.iret (v := (-5)) hx hb hr (fun tq ht hW => ⟨⟨(-5), (uS [byt, (fun _ => len)] 0 (fun _ => 0)), rfl, ⟨(show spWri byt len so n ((-5) : Int32) byt len from by (try rw [show ((-5) : Int32).toInt = (-5) from (show ((-5) : Int32).toInt = (-5) from rfl)]); (first | exact Or.inl ⟨by omega, rfl, rfl, rfl⟩ | exact Or.inr (Or.inl ⟨by omega, by omega, rfl, rfl, rfl⟩) | exact Or.inr (Or.inr ⟨by omega, by omega, rfl, by assumption, by assumption⟩))), r_len⟩, by rw [ht]; exact hP, hD⟩, hS.F ht⟩) hS.2.2 dX9_write_30
  · refine lv_if_ne (tgt := 13) hx hb dX9_write_7 (by decide) (fun c9 => absurd (by decide) c9) (fun _ => ?_)
    refine lv_bipush (v := (-3)) hx hb dX9_write_10 (by decide) ?_
    exact W.iret (v := (-3)) hx hb hr (fun tq ht hW => ⟨⟨(-3), (uS [byt, (fun _ => len)] 0 (fun _ => 0)), rfl, ⟨(show spWri byt len so n ((-3) : Int32) byt len from by (try rw [show ((-3) : Int32).toInt = (-3) from (show ((-3) : Int32).toInt = (-3) from rfl)]); (first | exact Or.inl ⟨by omega, rfl, rfl, rfl⟩ | exact Or.inr (Or.inl ⟨by omega, by omega, rfl, rfl, rfl⟩) | exact Or.inr (Or.inr ⟨by omega, by omega, rfl, by assumption, by assumption⟩))), r_len⟩, by rw [ht]; exact hP, hD⟩, hS.F ht⟩) hS.2.2 dX9_write_12
set_option maxHeartbeats 4000000 in
set_option maxRecDepth 100000 in
theorem k_X10_write2 (l : Launch) (dC : Nat → ClassId) (dI : Nat → Nat → Nat) (cI cZ cQ : ClassId) (b : Nat → Nat) (mday : Int32) (mdoo : Int32) (mtel : Int32) (mgai : Int32) (mbyt : Int32) (mtxt : Nat → Int32) (mpos : Int32) (mtka : Int32) (mtok : Int64) (mdig : Int32) (mnum : Int32) (mfau : Int32) (mrdm : Int32) (mlin : Int32) (mbsm : Int32) (sz : Nat) (so : Int64) (n : Int32) (r_mday : 0 ≤ mday.toInt ∧ mday.toInt ≤ 400) (r_mdoo : 0 ≤ mdoo.toInt ∧ mdoo.toInt ≤ 14) (r_mgai : 0 ≤ mgai.toInt ∧ mgai.toInt ≤ 100) (r_mbyt : 0 ≤ mbyt.toInt ∧ mbyt.toInt ≤ 160) (r_mpos : 0 ≤ mpos.toInt ∧ mpos.toInt ≤ 160) (r_mrdm : 0 ≤ mrdm.toInt ∧ mrdm.toInt ≤ 10) (r_mlin : 0 ≤ mlin.toInt ∧ mlin.toInt ≤ 10) : KW l yX10_write wsX10_write { frames := 1, cells := 0, slots := 0, locals := 22 } (dC, dI) (TY cI cZ cQ) (wMdT cI cZ cQ b mday mdoo mtel mgai mbyt mtxt mpos mtka mtok mdig mnum mfau mrdm mlin mbsm) [.ref (b 39), .long so, .int n] sz 0 0 (fun (r : Int32) (u : US) => (spWri mtxt mbyt so n r (u.1 0) (u.1 1 0)) ∧ (0 ≤ (u.1 1 0).toInt ∧ (u.1 1 0).toInt ≤ 160)) (fun u : US => (wMdT cI cZ cQ b mday mdoo mtel mgai (u.1 1 0) (u.1 0) mpos mtka mtok mdig mnum mfau mrdm mlin mbsm)) := by
  refine Met.ofW (cc := cX10_write) (maxL := 5) (ret := (some .int)) (by decide) rfl ?_
  intro p e s m args below meth c s₁ B hml hv
  obtain ⟨rfl, hsz, hP, hK, hD0, hN⟩ := hv
  have hx := B.exec
  have hb := B.bytes
  have hr := B.returns
  have hts := atoms_spec (ws := wsX10_write) B.pre
  have hown : s.vm.findClass RX10 = some m.cls := findClass_of_methodNamed B.named
  have hlocks := B.notSynchronized
  have lf141 := hts (.fieldLink RX10 141 "PalaceOfRoomsModel" "bytes" "I") (List.mem_cons_of_mem _ (List.mem_append_left _ (List.mem_of_getElem? (i := 0) rfl)))
  have inX10 : ∀ w ∈ wsX100, w ∈ wsX10_write := fun w h => List.mem_cons_of_mem _ (List.mem_append_right _ h)
  have lf62 := hts (.fieldLink RX10 62 "PalaceOfRoomsModel" "text" "[I") (List.mem_cons_of_mem _ (List.mem_append_left _ (List.mem_of_getElem? (i := 1) rfl)))
  subst hsz
  have hD := hD0.self (sz := s.heap.size)
  generalize hAe : va_A (wMdT cI cZ cQ b mday mdoo mtel mgai mbyt mtxt mpos mtka mtok mdig mnum mfau mrdm mlin mbsm) s.heap.size = A at hD ⊢
  have hA : ∀ q : Nat, s.heap.size ≤ q → A q := fun q h => by rw [← hAe]; exact Or.inr h
  have hS : va_S A s.heap s.heap [] := va_S.rf
  have hl := lv_entry ([.ref (b 39), .long so, .int n]) (n := 5) (Nat.le_of_ble_eq_true rfl)
  rw [lg_entry_eq]
  generalize (lg_sl ([.ref (b 39), .long so, .int n]) ++ List.replicate (5 - (lg_sl ([.ref (b 39), .long so, .int n])).length) Slot.unset).toArray = ls at hl ⊢
  have hl : lv_has ls 5 [(0, .ref (b 39)), (1, .long so), (3, .int n)] := hl
  refine lv_iload_n hx hb dX10_write_0 rfl (lv_at hl 2 rfl) ?_
  refine lv_iconst (v := 1) hx hb dX10_write_1 (by decide) ?_
  refine lv_bipush (v := 8) hx hb dX10_write_2 (by decide) ?_
  refine rdS (As := [.int n, .int 1, .int 8]) (rest := []) ⟨hx, hb, hml, hown, hts⟩ (k_X10_in l dC dI cI cZ cQ n (1 : Int32) (8 : Int32)) (va_cwS 3 hts gX10_write_X10_in rfl rfl rfl (by decide +kernel) ⟨Nat.le_of_ble_eq_true rfl, Nat.le_of_ble_eq_true rfl⟩) hP hK hN [] rfl rfl hl.1 rfl (Nat.le_of_ble_eq_true rfl) dX10_write_4 ⟨Nat.le_of_ble_eq_true rfl, Nat.le_of_ble_eq_true rfl⟩ (fun r1 h2 => ?_)
  have h2 : ((((r1 = 1) ∧ ((1) ≤ n.toInt) ∧ (n.toInt ≤ (8))) ∨ ((r1 = 0) ∧ (n.toInt < (1) ∨ (8) < n.toInt)))) := h2
  rcases h2 with (⟨rfl, h2_a0, h2_a1⟩ | ⟨rfl, h2_a0⟩)
  · refine lv_if_ne (tgt := 13) hx hb dX10_write_7 (by decide) (fun _ => ?_) (fun c9 => absurd c9 (by decide))
    refine lv_aload_n hx hb dX10_write_13 rfl (lv_at hl 0 rfl) ?_
    refine va_get (D := (dC, dI)) (ci := 10) (v := .int mbyt) (C := RX10) (T := TX10) (N := 39) hx hb hts inX10 hown hK hP 0 rfl rfl 19 (by decide) lf141 (fun _ h9 => h9) rfl dX10_write_14 ?_
    refine lv_iload_n hx hb dX10_write_17 rfl (lv_at hl 2 rfl) ?_
    refine lv_iadd hx hb dX10_write_18 ?_
    have f3 : (mbyt + n).toInt = (mbyt.toInt) + (n.toInt) := addC rfl rfl (by omega) (by omega)
    refine lv_sipush (v := 160) hx hb dX10_write_19 (by decide) ?_
    refine lv_icmp_le (tgt := 28) hx hb dX10_write_22 (by decide) (fun c4 => ?_) (fun c4 => ?_)
    · have dc4 : (mbyt.toInt) + (n.toInt) ≤ 160 := leC f3 (show (160 : Int32).toInt = 160 from rfl) c4
      refine lv_iconst (v := 0) hx hb dX10_write_28 (by decide) ?_
      refine lv_istore (lv' := [(4, .int 0), (0, .ref (b 39)), (1, .long so), (3, .int n)]) hx hb dX10_write_29 hl (by decide) rfl (fun ls hl => ?_)
      have L31 : ∀ (nn : Nat) (y31_4 : Int32) (mtxt_31 : Nat → Int32) (H : Heap) (locs : List Loc) (ls : Array Slot), (0 ≤ (y31_4.toInt)) → ((y31_4.toInt) ≤ 8) → (mtxt_31 = wrF mtxt mbyt.toInt so ((y31_4.toInt)).toNat) → ((y31_4.toInt) ≤ n.toInt) → (8 - (y31_4.toInt)).toNat < nn → va_P (dC, dI) vwCl (wMdT cI cZ cQ b mday mdoo mtel mgai mbyt mtxt_31 mpos mtka mtok mdig mnum mfau mrdm mlin mbsm) H → va_D A (wMdT cI cZ cQ b mday mdoo mtel mgai mbyt mtxt_31 mpos mtka mtok mdig mnum mfau mrdm mlin mbsm) → va_S A s.heap H locs → lv_has ls 5 [(0, .ref (b 39)), (1, .long so), (3, .int n), (4, .int y31_4)] → W p l e (headSpec wsX10_write { frames := 1, cells := 0, slots := 0, locals := 22 }).room s m ([.ref (b 39), .long so, .int n] : List Value).toArray below meth c H locs 0 0 (MQ below (va_Qi (fun (r : Int32) (u : US) => (spWri mtxt mbyt so n r (u.1 0) (u.1 1 0)) ∧ (0 ≤ (u.1 1 0).toInt ∧ (u.1 1 0).toInt ≤ 160)) (Bw (dC, dI) A (fun u : US => (wMdT cI cZ cQ b mday mdoo mtel mgai (u.1 1 0) (u.1 0) mpos mtka mtok mdig mnum mfau mrdm mlin mbsm))) A) ([.ref (b 39), .long so, .int n] : List Value).toArray s 0 0 A) (F0 m 31 ls []) := by
        intro nn
        induction nn with
        | zero =>
          intro y31_4 mtxt_31 H locs ls i31_0 i31_1 i31_2 i31_3 hm31
          exact absurd hm31 (Nat.not_lt_zero _)
        | succ nn ih31 =>
          intro y31_4 mtxt_31 H locs ls i31_0 i31_1 i31_2 i31_3 hm31 hP hD hS hl
          refine lv_iload hx hb dX10_write_31 (lv_at hl 3 rfl) ?_
          refine lv_iload_n hx hb dX10_write_33 rfl (lv_at hl 2 rfl) ?_
          refine lv_icmp_ge (tgt := 67) hx hb dX10_write_34 (by decide) (fun c5 => ?_) (fun c5 => ?_)
          · have dc5 : n.toInt ≤ y31_4.toInt := leC rfl rfl c5
            refine lv_aload_n hx hb dX10_write_67 rfl (lv_at hl 0 rfl) ?_
            refine lv_dup hx hb dX10_write_68 rfl ?_
            refine va_get (D := (dC, dI)) (ci := 10) (v := .int mbyt) (C := RX10) (T := TX10) (N := 39) hx hb hts inX10 hown hK hP 0 rfl rfl 19 (by decide) lf141 (fun _ h9 => h9) rfl dX10_write_69 ?_
            refine lv_iload_n hx hb dX10_write_72 rfl (lv_at hl 2 rfl) ?_
            refine lv_iadd hx hb dX10_write_73 ?_
            have f6 : (mbyt + n).toInt = (mbyt.toInt) + (n.toInt) := addC rfl rfl (by omega) (by omega)
            refine lv_topi (fun x7 ex7 => ?_)
            have ix7 : x7.toInt = (mbyt.toInt) + (n.toInt) := by rw [ex7]; exact f6
            refine va_put (D := (dC, dI)) (ci := 10) (v := .int x7) (ty := .int) (C := RX10) (T := TX10) (N := 39) hx hb hts inX10 tyX10 tyX10_ok nmX10 hown hK hP hD hS 0 rfl rfl 19 (by decide) lf141 (fun _ h9 => h9) rfl (by decide +kernel) rfl rfl (Nat.le_of_ble_eq_true rfl) dX10_write_74 (fun H locs hP hD hS => ?_)
            have g8 : 0 ≤ x7.toInt ∧ x7.toInt ≤ 160 := by rw [show x7.toInt = x7.toInt from rfl]; exact ⟨by omega, by omega⟩
            have hP : va_P (dC, dI) vwCl (wMdT cI cZ cQ b mday mdoo mtel mgai x7 mtxt_31 mpos mtka mtok mdig mnum mfau mrdm mlin mbsm) H := hP
            have hD : va_D A (wMdT cI cZ cQ b mday mdoo mtel mgai x7 mtxt_31 mpos mtka mtok mdig mnum mfau mrdm mlin mbsm) := hD
            refine lv_aload_n hx hb dX10_write_77 rfl (lv_at hl 0 rfl) ?_
            refine va_get (D := (dC, dI)) (ci := 10) (v := .int x7) (C := RX10) (T := TX10) (N := 39) hx hb hts inX10 hown hK hP 0 rfl rfl 19 (by decide) lf141 (fun _ h9 => h9) rfl dX10_write_78 ?_
            exact W.iret (v := x7) hx hb hr (fun tq ht hW => ⟨⟨x7, (uS [mtxt_31, (fun _ => x7)] 0 (fun _ => 0)), rfl, ⟨(show spWri mtxt mbyt so n x7 mtxt_31 x7 from by (first | exact Or.inl ⟨by omega, rfl, rfl, rfl⟩ | exact Or.inr (Or.inl ⟨by omega, by omega, rfl, rfl, rfl⟩) | exact Or.inr (Or.inr ⟨by omega, by omega, rfl, by assumption, wr_e i31_2 (by omega)⟩))), g8⟩, by rw [ht]; exact hP, hD⟩, hS.F ht⟩) hS.2.2 dX10_write_81
          · have dc5 : y31_4.toInt < n.toInt := nleC rfl rfl c5
            refine lv_aload_n hx hb dX10_write_37 rfl (lv_at hl 0 rfl) ?_
            refine va_get (D := (dC, dI)) (ci := 10) (v := .ref (b 20)) (C := RX10) (T := TX10) (N := 39) hx hb hts inX10 hown hK hP 0 rfl rfl 20 (by decide) lf62 (fun _ h9 => h9) rfl dX10_write_38 ?_
            refine lv_aload_n hx hb dX10_write_41 rfl (lv_at hl 0 rfl) ?_
            refine va_get (D := (dC, dI)) (ci := 10) (v := .int mbyt) (C := RX10) (T := TX10) (N := 39) hx hb hts inX10 hown hK hP 0 rfl rfl 19 (by decide) lf141 (fun _ h9 => h9) rfl dX10_write_42 ?_
            refine lv_iload hx hb dX10_write_45 (lv_at hl 3 rfl) ?_
            refine lv_iadd hx hb dX10_write_47 ?_
            have f9 : (mbyt + y31_4).toInt = (mbyt.toInt) + (y31_4.toInt) := addC rfl rfl (by omega) (by omega)
            refine lv_lload_n hx hb dX10_write_48 rfl (lv_at hl 1 rfl) ?_
            refine lv_bipush (v := 8) hx hb dX10_write_49 (by decide) ?_
            refine lv_iload hx hb dX10_write_51 (lv_at hl 3 rfl) ?_
            refine lv_imul hx hb dX10_write_53 ?_
            have f10 : (8 * y31_4).toInt = (8) * (y31_4.toInt) := mulC (show (8 : Int32).toInt = 8 from rfl) rfl (by omega) (by omega)
            refine lv_lshr hx hb dX10_write_54 rfl ?_
            refine lv_ldc2 (v := 255) hx hb hown (hts (.constantLong RX10 144 (255)) (List.mem_cons_of_mem _ (List.mem_append_left _ (List.mem_of_getElem? (i := 2) rfl)))) dX10_write_55 ?_
            refine lv_land hx hb dX10_write_58 ?_
            refine lv_l2i hx hb dX10_write_59 rfl ?_
            have f11 : 0 ≤ (((so >>> ((8 * y31_4).toInt64 &&& 63)) &&& 255).toInt32).toInt ∧ (((so >>> ((8 * y31_4).toInt64 &&& 63)) &&& 255).toInt32).toInt ≤ 255 := l2iM255 _
            refine lv_topi (fun x12 ex12 => ?_)
            have ix12 : x12.toInt = (((so >>> ((8 * y31_4).toInt64 &&& 63)) &&& 255).toInt32).toInt := by rw [ex12]
            have b13 : vp_in (mbyt + y31_4) 160 := inC f9 (by omega) (by omega)
            refine va_iast hx hb hK hP hD hS 1 0 rfl rfl b13 dX10_write_60 (fun H locs hP hD hS => ?_)
            obtain ⟨mtxt_u14, emtxt_u14⟩ : ∃ f : Nat → Int32, f = upd mtxt_31 (mbyt + y31_4).toNatClampNeg x12 := ⟨_, rfl⟩
            have hP : va_P (dC, dI) vwCl (wMdT cI cZ cQ b mday mdoo mtel mgai mbyt mtxt_u14 mpos mtka mtok mdig mnum mfau mrdm mlin mbsm) H := by rw [emtxt_u14]; exact hP
            have hD : va_D A (wMdT cI cZ cQ b mday mdoo mtel mgai mbyt mtxt_u14 mpos mtka mtok mdig mnum mfau mrdm mlin mbsm) := by rw [emtxt_u14]; exact hD
            obtain ⟨z15, ez15⟩ : ∃ y : Int32, y = y31_4 + 1 := ⟨_, rfl⟩
            have iz15 : z15.toInt = y31_4.toInt + 1 := by rw [ez15]; exact addC rfl rfl (by omega) (by omega)
            refine lv_iinc (v := z15) (lv' := [(4, .int z15), (0, .ref (b 39)), (1, .long so), (3, .int n)]) hx hb dX10_write_61 hl (k := 3) rfl (by rw [ez15]; rfl) (by decide) rfl (fun ls hl => ?_)
            refine lv_goto (tgt := 31) hx hb dX10_write_64 (by decide) ?_
            exact ih31 z15 mtxt_u14 _ _ _ (by omega) (by omega) (by (first | exact wr_s i31_2 (by assumption) (by assumption) (by omega) (by omega) (by omega) | exact wr_0 (by first | rfl | omega))) (by omega) (by omega) hP hD hS (lv_sub hl [1, 2, 3, 0] rfl)
      have kc16 : (0 : Int32).toInt = 0 := rfl
      exact L31 _ 0 mtxt _ _ _ (by omega) (by omega) (by (first | exact wr_s i31_2 (by assumption) (by assumption) (by omega) (by omega) (by omega) | exact wr_0 (by first | rfl | omega))) (by omega) (Nat.lt_succ_self _) hP hD hS (lv_sub hl [1, 2, 3, 0] rfl)
    · have dc4 : 160 < (mbyt.toInt) + (n.toInt) := nleC f3 (show (160 : Int32).toInt = 160 from rfl) c4
      refine lv_bipush (v := (-5)) hx hb dX10_write_25 (by decide) ?_
      exact W.iret (v := (-5)) hx hb hr (fun tq ht hW => ⟨⟨(-5), (uS [mtxt, (fun _ => mbyt)] 0 (fun _ => 0)), rfl, ⟨(show spWri mtxt mbyt so n ((-5) : Int32) mtxt mbyt from by (try rw [show ((-5) : Int32).toInt = (-5) from (show ((-5) : Int32).toInt = (-5) from rfl)]); (first | exact Or.inl ⟨by omega, rfl, rfl, rfl⟩ | exact Or.inr (Or.inl ⟨by omega, by omega, rfl, rfl, rfl⟩) | exact Or.inr (Or.inr ⟨by omega, by omega, rfl, by assumption, wr_e i31_2 (by omega)⟩))), r_mbyt⟩, by rw [ht]; exact hP, hD⟩, hS.F ht⟩) hS.2.2 dX10_write_27
  · refine lv_if_ne (tgt := 13) hx hb dX10_write_7 (by decide) (fun c9 => absurd (by decide) c9) (fun _ => ?_)
    refine lv_bipush (v := (-3)) hx hb dX10_write_10 (by decide) ?_
    exact W.iret (v := (-3)) hx hb hr (fun tq ht hW => ⟨⟨(-3), (uS [mtxt, (fun _ => mbyt)] 0 (fun _ => 0)), rfl, ⟨(show spWri mtxt mbyt so n ((-3) : Int32) mtxt mbyt from by (try rw [show ((-3) : Int32).toInt = (-3) from (show ((-3) : Int32).toInt = (-3) from rfl)]); (first | exact Or.inl ⟨by omega, rfl, rfl, rfl⟩ | exact Or.inr (Or.inl ⟨by omega, by omega, rfl, rfl, rfl⟩) | exact Or.inr (Or.inr ⟨by omega, by omega, rfl, by assumption, wr_e i31_2 (by omega)⟩))), r_mbyt⟩, by rw [ht]; exact hP, hD⟩, hS.F ht⟩) hS.2.2 dX10_write_12
set_option maxHeartbeats 4000000 in
set_option maxRecDepth 100000 in
theorem k_X9_erase2 (l : Launch) (dC : Nat → ClassId) (dI : Nat → Nat → Nat) (cI cZ cQ : ClassId) (a : Nat → Nat) (rb0 : Nat) (rb1 : Nat) (rb2 : Nat) (db0 : Nat) (db1 : Nat) (db2 : Nat) (byt : Nat → Int32) (len : Int32) (tst : Int32) (ten : Int32) (sz : Nat) (r_len : 0 ≤ len.toInt ∧ len.toInt ≤ 160) (r_tst : 0 ≤ tst.toInt ∧ tst.toInt ≤ 160) (r_ten : 0 ≤ ten.toInt ∧ ten.toInt ≤ 160) : KW l yX9_erase wsX9_erase { frames := 0, cells := 0, slots := 0, locals := 0 } (dC, dI) (TY cI cZ cQ) (wsT cI cZ cQ a rb0 rb1 rb2 db0 db1 db2 byt len tst ten) [.ref (a 43)] sz 0 0 (fun (r : Int32) (u : US) => (spEra len r (u.1 0 0)) ∧ (0 ≤ (u.1 0 0).toInt ∧ (u.1 0 0).toInt ≤ 160)) (fun u : US => (wsT cI cZ cQ a rb0 rb1 rb2 db0 db1 db2 byt (u.1 0 0) tst ten)) := by
  refine Met.ofW (cc := cX9_erase) (maxL := 2) (ret := (some .int)) (by decide) rfl ?_
  intro p e s m args below meth c s₁ B hml hv
  obtain ⟨rfl, hsz, hP, hK, hD0, hN⟩ := hv
  have hx := B.exec
  have hb := B.bytes
  have hr := B.returns
  have hts := atoms_spec (ws := wsX9_erase) B.pre
  have hown : s.vm.findClass RX9 = some m.cls := findClass_of_methodNamed B.named
  have hlocks := B.notSynchronized
  have lf35 := hts (.fieldLink RX9 35 "PalaceOfRooms" "text" "LPalaceOfRooms$Text;") (List.mem_cons_of_mem _ (List.mem_append_left _ (List.mem_append_left _ (List.mem_of_getElem? (i := 0) rfl))))
  have inX9 : ∀ w ∈ wsX90, w ∈ wsX9_erase := fun w h => List.mem_cons_of_mem _ (List.mem_append_left _ (List.mem_append_right _ h))
  have lf163 := hN.use (w := .fieldLinkNest "PalaceOfRooms" 163 "PalaceOfRooms$Text" "length" "I" "PalaceOfRooms") (List.mem_of_getElem? (i := 14) rfl) ([.ref (a 43)] : List Value).toArray
  have inX7 : ∀ w ∈ wsX70, w ∈ wsX9_erase := fun w h => List.mem_cons_of_mem _ (List.mem_append_right _ h)
  subst hsz
  have hD := hD0.self (sz := s.heap.size)
  generalize hAe : va_A (wsT cI cZ cQ a rb0 rb1 rb2 db0 db1 db2 byt len tst ten) s.heap.size = A at hD ⊢
  have hA : ∀ q : Nat, s.heap.size ≤ q → A q := fun q h => by rw [← hAe]; exact Or.inr h
  have hS : va_S A s.heap s.heap [] := va_S.rf
  have hl := lv_entry ([.ref (a 43)]) (n := 2) (Nat.le_of_ble_eq_true rfl)
  rw [lg_entry_eq]
  generalize (lg_sl ([.ref (a 43)]) ++ List.replicate (2 - (lg_sl ([.ref (a 43)])).length) Slot.unset).toArray = ls at hl ⊢
  have hl : lv_has ls 2 [(0, .ref (a 43))] := hl
  refine lv_aload_n hx hb dX9_erase_0 rfl (lv_at hl 0 rfl) ?_
  refine va_get (D := (dC, dI)) (ci := 9) (v := .ref (a 14)) (C := RX9) (T := TX9) (N := 11) hx hb hts inX9 hown hK hP 0 rfl rfl 3 (by decide) lf35 (fun _ h9 => h9) rfl dX9_erase_1 ?_
  refine va_getN (D := (dC, dI)) (ci := 7) (v := .int len) (C := RX7) (T := TX7) (N := 4) hx hb hts inX7 hown hK hP 1 rfl rfl 1 (by decide) lf163 (fun _ h9 => h9) rfl dX9_erase_4 ?_
  refine lv_istore_n (lv' := [(1, .int len), (0, .ref (a 43))]) hx hb dX9_erase_7 rfl hl (by decide) rfl (fun ls hl => ?_)
  refine lv_aload_n hx hb dX9_erase_8 rfl (lv_at hl 1 rfl) ?_
  refine va_get (D := (dC, dI)) (ci := 9) (v := .ref (a 14)) (C := RX9) (T := TX9) (N := 11) hx hb hts inX9 hown hK hP 0 rfl rfl 3 (by decide) lf35 (fun _ h9 => h9) rfl dX9_erase_9 ?_
  refine lv_iconst (v := 0) hx hb dX9_erase_12 (by decide) ?_
  refine va_putN (D := (dC, dI)) (ci := 7) (v := .int 0) (ty := .int) (C := RX7) (T := TX7) (N := 4) hx hb hts inX7 tyX7 tyX7_ok nmX7 hown hK hP hD hS 1 rfl rfl 1 (by decide) lf163 (fun _ h9 => h9) rfl (by decide +kernel) rfl rfl (Nat.le_of_ble_eq_true rfl) dX9_erase_13 (fun H locs hP hD hS => ?_)
  have g1 : 0 ≤ (0 : Int32).toInt ∧ (0 : Int32).toInt ≤ 160 := by rw [show (0 : Int32).toInt = 0 from (show (0 : Int32).toInt = 0 from rfl)]; exact ⟨by omega, by omega⟩
  have hP : va_P (dC, dI) vwCl (wsT cI cZ cQ a rb0 rb1 rb2 db0 db1 db2 byt 0 tst ten) H := hP
  have hD : va_D A (wsT cI cZ cQ a rb0 rb1 rb2 db0 db1 db2 byt 0 tst ten) := hD
  refine lv_iload_n hx hb dX9_erase_16 rfl (lv_at hl 0 rfl) ?_
  exact W.iret (v := len) hx hb hr (fun tq ht hW => ⟨⟨len, (uS [(fun _ => 0)] 0 (fun _ => 0)), rfl, ⟨(show spEra len len 0 from by exact ⟨by first | rfl | assumption, rfl⟩), g1⟩, by rw [ht]; exact hP, hD⟩, hS.F ht⟩) hS.2.2 dX9_erase_17
set_option maxHeartbeats 4000000 in
set_option maxRecDepth 100000 in
theorem k_X10_erase2 (l : Launch) (dC : Nat → ClassId) (dI : Nat → Nat → Nat) (cI cZ cQ : ClassId) (b : Nat → Nat) (mday : Int32) (mdoo : Int32) (mtel : Int32) (mgai : Int32) (mbyt : Int32) (mtxt : Nat → Int32) (mpos : Int32) (mtka : Int32) (mtok : Int64) (mdig : Int32) (mnum : Int32) (mfau : Int32) (mrdm : Int32) (mlin : Int32) (mbsm : Int32) (sz : Nat) (r_mday : 0 ≤ mday.toInt ∧ mday.toInt ≤ 400) (r_mdoo : 0 ≤ mdoo.toInt ∧ mdoo.toInt ≤ 14) (r_mgai : 0 ≤ mgai.toInt ∧ mgai.toInt ≤ 100) (r_mbyt : 0 ≤ mbyt.toInt ∧ mbyt.toInt ≤ 160) (r_mpos : 0 ≤ mpos.toInt ∧ mpos.toInt ≤ 160) (r_mrdm : 0 ≤ mrdm.toInt ∧ mrdm.toInt ≤ 10) (r_mlin : 0 ≤ mlin.toInt ∧ mlin.toInt ≤ 10) : KW l yX10_erase wsX10_erase { frames := 0, cells := 0, slots := 0, locals := 0 } (dC, dI) (TY cI cZ cQ) (wMdT cI cZ cQ b mday mdoo mtel mgai mbyt mtxt mpos mtka mtok mdig mnum mfau mrdm mlin mbsm) [.ref (b 39)] sz 0 0 (fun (r : Int32) (u : US) => (spEra mbyt r (u.1 0 0)) ∧ (0 ≤ (u.1 0 0).toInt ∧ (u.1 0 0).toInt ≤ 160)) (fun u : US => (wMdT cI cZ cQ b mday mdoo mtel mgai (u.1 0 0) mtxt mpos mtka mtok mdig mnum mfau mrdm mlin mbsm)) := by
  refine Met.ofW (cc := cX10_erase) (maxL := 2) (ret := (some .int)) (by decide) rfl ?_
  intro p e s m args below meth c s₁ B hml hv
  obtain ⟨rfl, hsz, hP, hK, hD0, hN⟩ := hv
  have hx := B.exec
  have hb := B.bytes
  have hr := B.returns
  have hts := atoms_spec (ws := wsX10_erase) B.pre
  have hown : s.vm.findClass RX10 = some m.cls := findClass_of_methodNamed B.named
  have hlocks := B.notSynchronized
  have lf141 := hts (.fieldLink RX10 141 "PalaceOfRoomsModel" "bytes" "I") (List.mem_cons_of_mem _ (List.mem_append_left _ (List.mem_of_getElem? (i := 0) rfl)))
  have inX10 : ∀ w ∈ wsX100, w ∈ wsX10_erase := fun w h => List.mem_cons_of_mem _ (List.mem_append_right _ h)
  subst hsz
  have hD := hD0.self (sz := s.heap.size)
  generalize hAe : va_A (wMdT cI cZ cQ b mday mdoo mtel mgai mbyt mtxt mpos mtka mtok mdig mnum mfau mrdm mlin mbsm) s.heap.size = A at hD ⊢
  have hA : ∀ q : Nat, s.heap.size ≤ q → A q := fun q h => by rw [← hAe]; exact Or.inr h
  have hS : va_S A s.heap s.heap [] := va_S.rf
  have hl := lv_entry ([.ref (b 39)]) (n := 2) (Nat.le_of_ble_eq_true rfl)
  rw [lg_entry_eq]
  generalize (lg_sl ([.ref (b 39)]) ++ List.replicate (2 - (lg_sl ([.ref (b 39)])).length) Slot.unset).toArray = ls at hl ⊢
  have hl : lv_has ls 2 [(0, .ref (b 39))] := hl
  refine lv_aload_n hx hb dX10_erase_0 rfl (lv_at hl 0 rfl) ?_
  refine va_get (D := (dC, dI)) (ci := 10) (v := .int mbyt) (C := RX10) (T := TX10) (N := 39) hx hb hts inX10 hown hK hP 0 rfl rfl 19 (by decide) lf141 (fun _ h9 => h9) rfl dX10_erase_1 ?_
  refine lv_istore_n (lv' := [(1, .int mbyt), (0, .ref (b 39))]) hx hb dX10_erase_4 rfl hl (by decide) rfl (fun ls hl => ?_)
  refine lv_aload_n hx hb dX10_erase_5 rfl (lv_at hl 1 rfl) ?_
  refine lv_iconst (v := 0) hx hb dX10_erase_6 (by decide) ?_
  refine va_put (D := (dC, dI)) (ci := 10) (v := .int 0) (ty := .int) (C := RX10) (T := TX10) (N := 39) hx hb hts inX10 tyX10 tyX10_ok nmX10 hown hK hP hD hS 0 rfl rfl 19 (by decide) lf141 (fun _ h9 => h9) rfl (by decide +kernel) rfl rfl (Nat.le_of_ble_eq_true rfl) dX10_erase_7 (fun H locs hP hD hS => ?_)
  have g1 : 0 ≤ (0 : Int32).toInt ∧ (0 : Int32).toInt ≤ 160 := by rw [show (0 : Int32).toInt = 0 from (show (0 : Int32).toInt = 0 from rfl)]; exact ⟨by omega, by omega⟩
  have hP : va_P (dC, dI) vwCl (wMdT cI cZ cQ b mday mdoo mtel mgai 0 mtxt mpos mtka mtok mdig mnum mfau mrdm mlin mbsm) H := hP
  have hD : va_D A (wMdT cI cZ cQ b mday mdoo mtel mgai 0 mtxt mpos mtka mtok mdig mnum mfau mrdm mlin mbsm) := hD
  refine lv_iload_n hx hb dX10_erase_10 rfl (lv_at hl 0 rfl) ?_
  exact W.iret (v := mbyt) hx hb hr (fun tq ht hW => ⟨⟨mbyt, (uS [(fun _ => 0)] 0 (fun _ => 0)), rfl, ⟨(show spEra mbyt mbyt 0 from by exact ⟨by first | rfl | assumption, rfl⟩), g1⟩, by rw [ht]; exact hP, hD⟩, hS.F ht⟩) hS.2.2 dX10_erase_11
end
