-- ===== THE TEXT: TOKENS =====
def knd (c : Int32) : Int := if 97 ≤ c.toInt ∧ c.toInt ≤ 122 then 1 else if 48 ≤ c.toInt ∧ c.toInt ≤ 57 then 2 else 3
theorem knd_1 {c : Int32} (h : 97 ≤ c.toInt ∧ c.toInt ≤ 122) : knd c = 1 := by unfold knd; rw [if_pos h]
theorem knd_2 {c : Int32} (h : 48 ≤ c.toInt ∧ c.toInt ≤ 57) : knd c = 2 := by unfold knd; rw [if_neg (by omega), if_pos h]
theorem knd_3 {c : Int32} (h : c.toInt < 97 ∨ 122 < c.toInt) (h2 : c.toInt < 48 ∨ 57 < c.toInt) : knd c = 3 := by unfold knd; rw [if_neg (by omega), if_neg (by omega)]
theorem knd_of1 {c : Int32} (h : knd c = 1) : 97 ≤ c.toInt ∧ c.toInt ≤ 122 := by
  refine Classical.byContradiction fun q => ?_
  unfold knd at h
  rw [if_neg q] at h
  by_cases h2 : 48 ≤ c.toInt ∧ c.toInt ≤ 57
  · rw [if_pos h2] at h; omega
  · rw [if_neg h2] at h; omega
theorem knd_of2 {c : Int32} (h : knd c = 2) : 48 ≤ c.toInt ∧ c.toInt ≤ 57 := by
  refine Classical.byContradiction fun q => ?_
  unfold knd at h
  rw [if_neg q] at h
  by_cases h2 : 97 ≤ c.toInt ∧ c.toInt ≤ 122
  · rw [if_pos h2] at h; omega
  · rw [if_neg h2] at h; omega
def skF (f : Nat → Int32) : Nat → Int → Int
  | 0, p => p
  | k + 1, p => if f p.toNat = 32 then skF f k (p + 1) else p
def rnF (f : Nat → Int32) (kd : Int) : Nat → Int → Int
  | 0, p => p
  | k + 1, p => if knd (f p.toNat) = kd then rnF f kd k (p + 1) else p
def tS (f : Nat → Int32) (n p : Int) : Int := skF f (n - p).toNat p
def tR (f : Nat → Int32) (kd n p : Int) : Int := rnF f kd (n - p).toNat p
def tE (f : Nat → Int32) (n a : Int) : Int := if a < n then (if knd (f a.toNat) = 3 then a + 1 else tR f (knd (f a.toNat)) n (a + 1)) else a
theorem sk_step {f : Nat → Int32} {n p p' : Int} (h1 : p < n) (hf : f p.toNat = 32) (hp : p' = p + 1) : tS f n p' = tS f n p := by
  subst hp
  unfold tS
  rw [show (n - p).toNat = (n - (p + 1)).toNat + 1 by omega]
  show _ = (if f p.toNat = 32 then skF f (n - (p + 1)).toNat (p + 1) else p)
  rw [if_pos hf]
theorem sk_stop {f : Nat → Int32} {n p : Int} (h : n ≤ p ∨ ¬ f p.toNat = 32) : tS f n p = p := by
  unfold tS
  by_cases c : n ≤ p
  · rw [show (n - p).toNat = 0 by omega]; rfl
  · rcases h with h | h
    · exact absurd h c
    · rw [show (n - p).toNat = (n - (p + 1)).toNat + 1 by omega]
      show (if f p.toNat = 32 then skF f (n - (p + 1)).toNat (p + 1) else p) = p
      rw [if_neg h]
theorem rn_step {f : Nat → Int32} {kd n p p' : Int} (h1 : p < n) (hf : knd (f p.toNat) = kd) (hp : p' = p + 1) : tR f kd n p' = tR f kd n p := by
  subst hp
  unfold tR
  rw [show (n - p).toNat = (n - (p + 1)).toNat + 1 by omega]
  show _ = (if knd (f p.toNat) = kd then rnF f kd (n - (p + 1)).toNat (p + 1) else p)
  rw [if_pos hf]
theorem rn_stop {f : Nat → Int32} {kd n p : Int} (h : n ≤ p ∨ ¬ knd (f p.toNat) = kd) : tR f kd n p = p := by
  unfold tR
  by_cases c : n ≤ p
  · rw [show (n - p).toNat = 0 by omega]; rfl
  · rcases h with h | h
    · exact absurd h c
    · rw [show (n - p).toNat = (n - (p + 1)).toNat + 1 by omega]
      show (if knd (f p.toNat) = kd then rnF f kd (n - (p + 1)).toNat (p + 1) else p) = p
      rw [if_neg h]
theorem sk_rg {f : Nat → Int32} : ∀ (k : Nat) (p : Int), p ≤ skF f k p ∧ skF f k p ≤ p + k
  | 0, p => ⟨Int.le_refl p, by show p ≤ p + 0; omega⟩
  | k + 1, p => by
    have := sk_rg (f := f) k (p + 1)
    show p ≤ (if f p.toNat = 32 then skF f k (p + 1) else p) ∧ (if f p.toNat = 32 then skF f k (p + 1) else p) ≤ p + ((k + 1 : Nat) : Int)
    by_cases c : f p.toNat = 32
    · rw [if_pos c]; omega
    · rw [if_neg c]; omega
theorem rn_rg {f : Nat → Int32} {kd : Int} : ∀ (k : Nat) (p : Int), p ≤ rnF f kd k p ∧ rnF f kd k p ≤ p + k
  | 0, p => ⟨Int.le_refl p, by show p ≤ p + 0; omega⟩
  | k + 1, p => by
    have := rn_rg (f := f) (kd := kd) k (p + 1)
    show p ≤ (if knd (f p.toNat) = kd then rnF f kd k (p + 1) else p) ∧ (if knd (f p.toNat) = kd then rnF f kd k (p + 1) else p) ≤ p + ((k + 1 : Nat) : Int)
    by_cases c : knd (f p.toNat) = kd
    · rw [if_pos c]; omega
    · rw [if_neg c]; omega
theorem rn_all {f : Nat → Int32} {kd : Int} : ∀ (k : Nat) (p j : Int), p ≤ j → j < rnF f kd k p → knd (f j.toNat) = kd
  | 0, p, j, h1, h2 => by have h3 : j < p := h2; omega
  | k + 1, p, j, h1, h2 => by
    have h3 : j < (if knd (f p.toNat) = kd then rnF f kd k (p + 1) else p) := h2
    by_cases c : knd (f p.toNat) = kd
    · rw [if_pos c] at h3
      by_cases e : j = p
      · rw [e]; exact c
      · exact rn_all k (p + 1) j (by omega) h3
    · rw [if_neg c] at h3; omega
theorem tS_rg {f : Nat → Int32} {n p : Int} (h : p ≤ n) : p ≤ tS f n p ∧ tS f n p ≤ n := by
  have := sk_rg (f := f) (n - p).toNat p
  unfold tS; omega
theorem tE_rg {f : Nat → Int32} {n a : Int} (h : a ≤ n) : a ≤ tE f n a ∧ tE f n a ≤ n ∧ (a < n → a < tE f n a) := by
  unfold tE
  by_cases c : a < n
  · rw [if_pos c]
    by_cases d : knd (f a.toNat) = 3
    · rw [if_pos d]; omega
    · rw [if_neg d]
      have := rn_rg (f := f) (kd := knd (f a.toNat)) (n - (a + 1)).toNat (a + 1)
      unfold tR; omega
  · rw [if_neg c]; omega
theorem tE_end {f : Nat → Int32} {n a y : Int} (h : n ≤ a) (e : y = a) : y = tE f n a := by unfold tE; rw [if_neg (by omega)]; exact e
theorem tE_one {f : Nat → Int32} {n a y K : Int} (h : a < n) (hk : K = knd (f a.toNat)) (h3 : K = 3) (e : y = a + 1) : y = tE f n a := by
  unfold tE; rw [if_pos h, if_pos (hk.symm.trans h3)]; exact e
theorem tE_run {f : Nat → Int32} {n a y K : Int} (h : a < n) (hk : K = knd (f a.toNat)) (h3 : K ≠ 3) (q : tR f K n y = tR f K n (a + 1)) (st : n ≤ y ∨ ¬ knd (f y.toNat) = K) : y = tE f n a := by
  unfold tE; rw [if_pos h, if_neg (fun z => h3 (hk.trans z)), ← hk, ← q]; exact (rn_stop st).symm
theorem tE_all {f : Nat → Int32} {n a : Int} (j : Int) (h0 : a ≤ j) (h1 : j < tE f n a) : knd (f j.toNat) = knd (f a.toNat) := by
  by_cases e : j = a
  · rw [e]
  · unfold tE at h1
    by_cases c : a < n
    · rw [if_pos c] at h1
      by_cases d : knd (f a.toNat) = 3
      · rw [if_pos d] at h1; omega
      · rw [if_neg d] at h1
        exact rn_all _ (a + 1) j (by omega) h1
    · rw [if_neg c] at h1; omega
/-- where the next TOKEN ends -/
def nx (f : Nat → Int32) (n p : Int) : Int := tE f n (tS f n p)
theorem nx_rg {f : Nat → Int32} {n p : Int} (h : p ≤ n) : p ≤ nx f n p ∧ nx f n p ≤ n ∧ tS f n p ≤ nx f n p := by
  have a := tS_rg (f := f) h
  have b := tE_rg (f := f) (a := tS f n p) a.2
  unfold nx; omega
-- numbers
def nvF (f : Nat → Int32) (a : Int) : Nat → Int32
  | 0 => 0
  | k + 1 => nvF f a k * 10 + f (a + k).toNat - 48
def isN (f : Nat → Int32) (a e : Int) : Prop := 1 ≤ e - a ∧ e - a ≤ 2 ∧ knd (f a.toNat) = 2
def nuV (f : Nat → Int32) (a e : Int) : Int32 := nvF f a (e - a).toNat
/-- a number as both sides read it: at p, from lo to hi; r is it, or -1 -/
def nuP (f : Nat → Int32) (n p lo hi : Int) (r : Int32) : Prop := (isN f (tS f n p) (nx f n p) ∧ (lo ≤ (nuV f (tS f n p) (nx f n p)).toInt ∧ (nuV f (tS f n p) (nx f n p)).toInt ≤ hi) ∧ r = nuV f (tS f n p) (nx f n p)) ∨ (¬ (isN f (tS f n p) (nx f n p) ∧ (lo ≤ (nuV f (tS f n p) (nx f n p)).toInt ∧ (nuV f (tS f n p) (nx f n p)).toInt ≤ hi)) ∧ r = -1)
theorem nuP_one {f : Nat → Int32} {n p lo hi : Int} {r r2 : Int32} (h1 : nuP f n p lo hi r) (h2 : nuP f n p lo hi r2) : r = r2 := by
  rcases h1 with ⟨a, b, c⟩ | ⟨a, c⟩
  · rcases h2 with ⟨_, _, c2⟩ | ⟨a2, _⟩
    · rw [c, c2]
    · exact absurd ⟨a, b⟩ a2
  · rcases h2 with ⟨a2, b2, _⟩ | ⟨_, c2⟩
    · exact absurd ⟨a2, b2⟩ a
    · rw [c, c2]
theorem nv_step {f : Nat → Int32} {a : Int} {k k' : Nat} {v w : Int32} (h : v = nvF f a k) (hk : k' = k + 1) (hw : w = v * 10 + f (a + k).toNat - 48) : w = nvF f a k' := by
  subst hk; subst h; exact hw
-- words
def wvF (f : Nat → Int32) (a : Int) : Nat → Int64
  | 0 => 0
  | k + 1 => 27 * wvF f a k + (f (a + k).toNat).toInt64 - 96
def tkV (f : Nat → Int32) (n a e : Int) : Int64 := if a < n then (if knd (f a.toNat) = 1 then (if e - a ≤ 9 then wvF f a (e - a).toNat else -4) else if knd (f a.toNat) = 2 then (if e - a ≤ 2 then -1 else -4) else if f a.toNat = 59 then -3 else -4) else -2
def vlF (g : Nat → Int) : Nat → Int
  | 0 => 0
  | k + 1 => 27 * vlF g k + g k - 96
theorem vl_rg {g : Nat → Int} : ∀ k : Nat, (∀ j : Nat, j < k → 97 ≤ g j ∧ g j ≤ 122) → 0 ≤ vlF g k ∧ vlF g k < ((27 ^ k : Nat) : Int)
  | 0, _ => ⟨Int.le_refl 0, by show (0 : Int) < ((27 ^ 0 : Nat) : Int); decide⟩
  | k + 1, h => by
    have i := vl_rg k (fun j hj => h j (by omega))
    have d := h k (by omega)
    show 0 ≤ 27 * vlF g k + g k - 96 ∧ 27 * vlF g k + g k - 96 < ((27 ^ (k + 1) : Nat) : Int)
    rw [Nat.pow_succ]
    omega
theorem vl_inj {g h : Nat → Int} : ∀ k m : Nat, (∀ j : Nat, j < k → 97 ≤ g j ∧ g j ≤ 122) → (∀ j : Nat, j < m → 97 ≤ h j ∧ h j ≤ 122) → vlF g k = vlF h m → k = m ∧ ∀ j : Nat, j < k → g j = h j
  | 0, 0, _, _, _ => ⟨rfl, fun j hj => absurd hj (Nat.not_lt_zero _)⟩
  | 0, m + 1, _, hh, e => by
    have e2 : (0 : Int) = 27 * vlF h m + h m - 96 := e
    have := vl_rg m (fun j hj => hh j (by omega))
    have := hh m (by omega)
    omega
  | k + 1, 0, hg, _, e => by
    have e2 : 27 * vlF g k + g k - 96 = (0 : Int) := e
    have := vl_rg k (fun j hj => hg j (by omega))
    have := hg k (by omega)
    omega
  | k + 1, m + 1, hg, hh, e => by
    have e2 : 27 * vlF g k + g k - 96 = 27 * vlF h m + h m - 96 := e
    have a := hg k (by omega)
    have b := hh m (by omega)
    have i := vl_inj k m (fun j hj => hg j (by omega)) (fun j hj => hh j (by omega)) (by omega)
    obtain ⟨rfl, i2⟩ := i
    refine ⟨rfl, fun j hj => ?_⟩
    by_cases c : j = k
    · subst c; omega
    · exact i2 j (by omega)
theorem ka_bmod64 {x : Int} (h1 : -9223372036854775808 ≤ x) (h2 : x ≤ 9223372036854775807) : x.bmod (2 ^ 64) = x := Int.bmod_eq_of_le (by omega) (by omega)
theorem wv_toInt {f : Nat → Int32} {a : Int} : ∀ k : Nat, k ≤ 9 → (∀ j : Nat, j < k → 97 ≤ (f (a + j).toNat).toInt ∧ (f (a + j).toNat).toInt ≤ 122) → (wvF f a k).toInt = vlF (fun j => (f (a + j).toNat).toInt) k
  | 0, _, _ => rfl
  | k + 1, hk, h => by
    have i := wv_toInt (f := f) (a := a) k (by omega) (fun j hj => h j (by omega))
    have r := vl_rg (g := fun j => (f (a + j).toNat).toInt) k (fun j hj => h j (by omega))
    have d := h k (by omega)
    have p9 : (27 ^ k : Nat) ≤ 27 ^ 8 := Nat.pow_le_pow_right (by decide) (by omega)
    have p8 : (27 ^ 8 : Nat) = 282429536481 := by decide
    rw [p8] at p9
    obtain ⟨V, eV⟩ : ∃ V : Int, V = vlF (fun j => (f (a + j).toNat).toInt) k := ⟨_, rfl⟩
    show (27 * wvF f a k + (f (a + k).toNat).toInt64 - 96).toInt = 27 * vlF (fun j => (f (a + j).toNat).toInt) k + (f (a + k).toNat).toInt - 96
    rw [← eV] at r i ⊢
    have m1 : (27 * wvF f a k).toInt = 27 * V := by
      rw [Int64.toInt_mul, i, show ((27 : Int64)).toInt = 27 from rfl]; exact ka_bmod64 (by omega) (by omega)
    have m2 : (27 * wvF f a k + (f (a + k).toNat).toInt64).toInt = 27 * V + (f (a + k).toNat).toInt := by
      rw [Int64.toInt_add, m1, Int32.toInt_toInt64]; exact ka_bmod64 (by omega) (by omega)
    rw [Int64.toInt_sub, m2, show ((96 : Int64)).toInt = 96 from rfl]; exact ka_bmod64 (by omega) (by omega)
def chV (v : Int32) : Int32 := ((v &&& 255).toUInt32 % 65536).toInt32
def wcS : List Int64 := [365647, 670208, 847604, 453773, 3094387]
theorem ch_fS : ∀ i, i < 5 → ∀ j, j < lenS.getD i 0 → chV (fS i j) = fS i j ∧ 97 ≤ (fS i j).toInt ∧ (fS i j).toInt ≤ 122 := by decide +kernel
theorem wc_fS : ∀ i, i < 5 → (wcS.getD i 0).toInt = vlF (fun j => (fS i j).toInt) (lenS.getD i 0) := by decide +kernel
theorem wc_pos : ∀ i, i < 5 → 0 < (wcS.getD i 0).toInt ∧ 4 ≤ lenS.getD i 0 ∧ lenS.getD i 0 ≤ 5 := by decide +kernel
def wdP (f : Nat → Int32) (a e : Int) (N : Nat) (sf : Nat → Int32) : Prop := e - a = N ∧ ∀ j : Nat, j < N → f (a + j).toNat = chV (sf j)
theorem tk_lt {f : Nat → Int32} {n a e : Int} (han : a ≤ n) (he : e = tE f n a) (c2 : knd (f a.toNat) = 1) : ∀ j : Nat, j < (e - a).toNat → 97 ≤ (f (a + j).toNat).toInt ∧ (f (a + j).toNat).toInt ≤ 122 := fun j hj => by
  have := tE_all (f := f) (n := n) (a := a) (a + j) (by omega) (by rw [← he]; omega)
  exact knd_of1 (this.trans c2)
theorem c_m1 : ((-1 : Int64)).toInt = -1 := rfl
theorem c_m2 : ((-2 : Int64)).toInt = -2 := rfl
theorem c_m3 : ((-3 : Int64)).toInt = -3 := rfl
theorem c_m4 : ((-4 : Int64)).toInt = -4 := rfl
theorem vl_cong {g h : Nat → Int} {N : Nat} (e : ∀ j : Nat, j < N → g j = h j) : ∀ k : Nat, k ≤ N → vlF g k = vlF h k
  | 0, _ => rfl
  | k + 1, hk => by
    show 27 * vlF g k + g k - 96 = 27 * vlF h k + h k - 96
    rw [vl_cong e k (by omega), e k (by omega)]
theorem wd_gen {f sf : Nat → Int32} {n a e : Int} {N : Nat} {C : Int64} (hN : 1 ≤ N ∧ N ≤ 9) (c : ∀ j : Nat, j < N → chV (sf j) = sf j ∧ 97 ≤ (sf j).toInt ∧ (sf j).toInt ≤ 122) (hC : C.toInt = vlF (fun j => (sf j).toInt) N) (hae : e ≤ n) (h : wdP f a e N sf) : tkV f n a e = C := by
  obtain ⟨h1, h2⟩ := h
  have le : ∀ j : Nat, j < N → 97 ≤ (f (a + j).toNat).toInt ∧ (f (a + j).toNat).toInt ≤ 122 := fun j hj => by
    rw [h2 j hj, (c j hj).1]; exact (c j hj).2
  have l0 := le 0 (by omega)
  rw [show a + ((0 : Nat) : Int) = a by omega] at l0
  have e1 : (e - a).toNat = N := by omega
  unfold tkV
  rw [if_pos (by omega), if_pos (knd_1 l0), if_pos (by omega), e1]
  apply Int64.toInt_inj.mp
  rw [wv_toInt N hN.2 le, hC]
  refine vl_cong (N := N) (fun j hj => ?_) N (Nat.le_refl N)
  show (f (a + j).toNat).toInt = (sf j).toInt
  rw [h2 j hj, (c j hj).1]
theorem wd_to {f : Nat → Int32} {n a e : Int} {i : Nat} (hi : i < 5) (ha : 0 ≤ a) (han : a ≤ n) (he : e = tE f n a) (h : wdP f a e (lenS.getD i 0) (fS i)) : tkV f n a e = wcS.getD i 0 :=
  wd_gen ⟨by have := (wc_pos i hi).2.1; omega, by have := (wc_pos i hi).2.2; omega⟩ (ch_fS i hi) (wc_fS i hi) (by rw [he]; exact (tE_rg han).2.1) h
theorem wd_from {f : Nat → Int32} {n a e : Int} {i : Nat} (hi : i < 5) (ha : 0 ≤ a) (han : a ≤ n) (he : e = tE f n a) (h : tkV f n a e = wcS.getD i 0) : wdP f a e (lenS.getD i 0) (fS i) := by
  have wp := wc_pos i hi
  have er := tE_rg (f := f) han
  rw [← he] at er
  have pos : 0 < (tkV f n a e).toInt := by rw [h]; exact wp.1
  unfold tkV at h pos
  by_cases c1 : a < n
  · rw [if_pos c1] at h pos
    by_cases c2 : knd (f a.toNat) = 1
    · rw [if_pos c2] at h pos
      by_cases c3 : e - a ≤ 9
      · rw [if_pos c3] at h
        have le := tk_lt han he c2
        have e1 := congrArg Int64.toInt h
        rw [wv_toInt _ (by omega) le, wc_fS i hi] at e1
        have inj := vl_inj _ _ le (fun j hj => (ch_fS i hi j hj).2) e1
        refine ⟨by omega, fun j hj => ?_⟩
        apply Int32.toInt_inj.mp
        rw [(ch_fS i hi j hj).1]
        exact inj.2 j (by omega)
      · rw [if_neg c3, c_m4] at pos; omega
    · rw [if_neg c2] at pos
      by_cases c3 : knd (f a.toNat) = 2
      · rw [if_pos c3] at pos
        by_cases c4 : e - a ≤ 2
        · rw [if_pos c4, c_m1] at pos; omega
        · rw [if_neg c4, c_m4] at pos; omega
      · rw [if_neg c3] at pos
        by_cases c4 : f a.toNat = 59
        · rw [if_pos c4, c_m3] at pos; omega
        · rw [if_neg c4, c_m4] at pos; omega
  · rw [if_neg c1, c_m2] at pos; omega
theorem wd_iff {f : Nat → Int32} {n a e : Int} {i : Nat} (hi : i < 5) (ha : 0 ≤ a) (han : a ≤ n) (he : e = tE f n a) : wdP f a e (lenS.getD i 0) (fS i) ↔ tkV f n a e = wcS.getD i 0 := ⟨wd_to hi ha han he, wd_from hi ha han he⟩
theorem tk_let {f : Nat → Int32} {n a e : Int} (han : a ≤ n) (he : e = tE f n a) (c1 : a < n) (c2 : knd (f a.toNat) = 1) : tkV f n a e ≠ -1 ∧ tkV f n a e ≠ -2 ∧ tkV f n a e ≠ -3 := by
  have er := tE_rg (f := f) han
  rw [← he] at er
  unfold tkV
  rw [if_pos c1, if_pos c2]
  by_cases c3 : e - a ≤ 9
  · rw [if_pos c3]
    have le := tk_lt han he c2
    have r := vl_rg (g := fun j => (f (a + j).toNat).toInt) _ le
    have w := wv_toInt (f := f) (a := a) (e - a).toNat (by omega) le
    refine ⟨fun h => ?_, fun h => ?_, fun h => ?_⟩
    · rw [h, show ((-1 : Int64)).toInt = -1 from rfl] at w; omega
    · rw [h, show ((-2 : Int64)).toInt = -2 from rfl] at w; omega
    · rw [h, show ((-3 : Int64)).toInt = -3 from rfl] at w; omega
  · rw [if_neg c3]; decide
theorem tk_m1 {f : Nat → Int32} {n a e : Int} (han : a ≤ n) (he : e = tE f n a) : tkV f n a e = -1 ↔ isN f a e := by
  have er := tE_rg (f := f) han
  rw [← he] at er
  unfold isN
  refine ⟨fun h => ?_, fun ⟨h1, h2, h3⟩ => ?_⟩
  · by_cases c1 : a < n
    · by_cases c2 : knd (f a.toNat) = 1
      · exact absurd h (tk_let han he c1 c2).1
      · unfold tkV at h
        rw [if_pos c1, if_neg c2] at h
        by_cases c3 : knd (f a.toNat) = 2
        · rw [if_pos c3] at h
          by_cases c4 : e - a ≤ 2
          · exact ⟨by omega, c4, c3⟩
          · rw [if_neg c4] at h; exact absurd h (by decide)
        · rw [if_neg c3] at h
          by_cases c4 : f a.toNat = 59
          · rw [if_pos c4] at h; exact absurd h (by decide)
          · rw [if_neg c4] at h; exact absurd h (by decide)
    · unfold tkV at h; rw [if_neg c1] at h; exact absurd h (by decide)
  · unfold tkV
    rw [if_pos (by omega), if_neg (by omega), if_pos h3, if_pos h2]
theorem tk_semi {f : Nat → Int32} {n a e : Int} (han : a ≤ n) (he : e = tE f n a) : tkV f n a e = -3 ↔ (a < n ∧ f a.toNat = 59) := by
  refine ⟨fun h => ?_, fun ⟨h1, h2⟩ => ?_⟩
  · by_cases c1 : a < n
    · by_cases c2 : knd (f a.toNat) = 1
      · exact absurd h (tk_let han he c1 c2).2.2
      · unfold tkV at h
        rw [if_pos c1, if_neg c2] at h
        by_cases c3 : knd (f a.toNat) = 2
        · rw [if_pos c3] at h
          by_cases c4 : e - a ≤ 2
          · rw [if_pos c4] at h; exact absurd h (by decide)
          · rw [if_neg c4] at h; exact absurd h (by decide)
        · rw [if_neg c3] at h
          by_cases c4 : f a.toNat = 59
          · exact ⟨c1, c4⟩
          · rw [if_neg c4] at h; exact absurd h (by decide)
    · unfold tkV at h; rw [if_neg c1] at h; exact absurd h (by decide)
  · unfold tkV
    have k3 : knd (f a.toNat) = 3 := by rw [h2]; decide
    rw [if_pos h1, if_neg (by omega), if_neg (by omega), if_pos h2]
theorem tk_end {f : Nat → Int32} {n a e : Int} (han : a ≤ n) (he : e = tE f n a) : tkV f n a e = -2 ↔ a = n := by
  refine ⟨fun h => ?_, fun h1 => ?_⟩
  · by_cases c1 : a < n
    · by_cases c2 : knd (f a.toNat) = 1
      · exact absurd h (tk_let han he c1 c2).2.1
      · unfold tkV at h
        rw [if_pos c1, if_neg c2] at h
        by_cases c3 : knd (f a.toNat) = 2
        · rw [if_pos c3] at h
          by_cases c4 : e - a ≤ 2
          · rw [if_pos c4] at h; exact absurd h (by decide)
          · rw [if_neg c4] at h; exact absurd h (by decide)
        · rw [if_neg c3] at h
          by_cases c4 : f a.toNat = 59
          · rw [if_pos c4] at h; exact absurd h (by decide)
          · rw [if_neg c4] at h; exact absurd h (by decide)
    · omega
  · unfold tkV
    rw [if_neg (by omega)]
-- rows for the loops
theorem idx_eq {y : Int32} : y.toNatClampNeg = y.toInt.toNat := clC rfl
theorem sk_in {f : Nat → Int32} {n P : Int} {y z : Int32} (q : tS f n y.toInt = P) (h1 : y.toInt < n) (hf : (f y.toNatClampNeg).toInt = 32) (hz : z.toInt = y.toInt + 1) : tS f n z.toInt = P := by
  rw [← q]; exact sk_step h1 (by rw [← idx_eq]; exact Int32.toInt_inj.mp hf) hz
theorem sk_out {f : Nat → Int32} {n P : Int} {y : Int32} (q : tS f n y.toInt = P) (h : n ≤ y.toInt ∨ (f y.toNatClampNeg).toInt ≠ 32) : y.toInt = P := by
  rw [← q]; refine (sk_stop ?_).symm
  rcases h with h | h
  · exact .inl h
  · exact .inr (fun z => h (by rw [idx_eq, z]; rfl))
theorem rn_in {f : Nat → Int32} {n P K : Int} {y z : Int32} (q : tR f K n y.toInt = P) (h1 : y.toInt < n) (hk : knd (f y.toNatClampNeg) = K) (hz : z.toInt = y.toInt + 1) : tR f K n z.toInt = P := by
  rw [← q]; exact rn_step h1 (by rw [← idx_eq]; exact hk) hz
