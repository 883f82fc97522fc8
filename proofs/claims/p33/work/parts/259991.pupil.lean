section
-- ===== PUPILS =====
def sayW (t d : Int32) : Bool := decide (¬ 100 - (t / 9 + 1) * d < (t - t / 9 * 9 + 1) * 10)
def incW (t d ri : Int32) : Int32 := if (if sayW t d then (1 : Int32) else 0) = ri then 1 else 0
theorem sw_t {t d r1 r2 : Int32} (h1 : r1 = t / 9 + 1) (h2 : r2 = (t - t / 9 * 9 + 1) * 10) (c : ¬ 100 - r1 * d < r2) : sayW t d = true := by subst h1; subst h2; exact decide_eq_true c
theorem sw_f {t d r1 r2 : Int32} (h1 : r1 = t / 9 + 1) (h2 : r2 = (t - t / 9 * 9 + 1) * 10) (c : 100 - r1 * d < r2) : sayW t d = false := by subst h1; subst h2; exact decide_eq_false (fun q => q c)
theorem sw_tM {t d : Int32} (c : ¬ 100 - (t / 9 + 1) * d < 10 * (t - t / 9 * 9 + 1)) : sayW t d = true := by rw [Int32.mul_comm 10] at c; exact decide_eq_true c
theorem sw_fM {t d : Int32} (c : 100 - (t / 9 + 1) * d < 10 * (t - t / 9 * 9 + 1)) : sayW t d = false := by rw [Int32.mul_comm 10] at c; exact decide_eq_false (fun q => q c)
theorem sw1 {t d ri : Int32} (h : sayW t d = true) (c : (1 : Int32) = ri) : (if sayW t d then (1 : Int32) else 0) = ri := by rw [h, if_pos rfl]; exact c
theorem sw0 {t d ri : Int32} (h : sayW t d = false) (c : (0 : Int32) = ri) : (if sayW t d then (1 : Int32) else 0) = ri := by rw [h, if_neg (by decide)]; exact c
theorem nw1 {t d ri : Int32} (h : sayW t d = true) (c : ¬ (1 : Int32) = ri) : ¬ (if sayW t d then (1 : Int32) else 0) = ri := by rw [h, if_pos rfl]; exact c
theorem nw0 {t d ri : Int32} (h : sayW t d = false) (c : ¬ (0 : Int32) = ri) : ¬ (if sayW t d then (1 : Int32) else 0) = ri := by rw [h, if_neg (by decide)]; exact c
def ntI (g : Nat → Int32) (d ri : Int32) (i : Int) (g' : Nat → Int32) : Prop := ∀ j : Nat, j < 81 → ((j : Int) < i → g' j = g j + incW (nI j) d ri) ∧ (i ≤ j → g' j = g j)
theorem nt_0 {g : Nat → Int32} {d ri : Int32} {i : Int} (hi : i = 0) : ntI g d ri i g := fun j _ => ⟨fun q => by omega, fun _ => rfl⟩
theorem nt_y {g g1 g2 : Nat → Int32} {d ri y v : Int32} {i : Int} (q : ntI g d ri y.toInt g1) (e : g2 = upd g1 y.toNatClampNeg v) (hv : v = g1 y.toNatClampNeg + 1) (hs : (if sayW y d then (1 : Int32) else 0) = ri) (h0 : 0 ≤ y.toInt) (h1 : y.toInt < 81) (hi : i = y.toInt + 1) : ntI g d ri i g2 := by
  subst hi; subst e
  have ey := clC (x := y) rfl
  have w0 := (q y.toNatClampNeg (by omega)).2 (by omega)
  intro j hj
  by_cases c : j = y.toNatClampNeg
  · subst c
    refine ⟨fun _ => ?_, fun z => by omega⟩
    rw [pk_us, hv, w0, ey, nI_toNat h0]
    unfold incW
    rw [if_pos hs]
  · rw [pk_un c]; exact ⟨fun z => (q j hj).1 (by omega), fun z => (q j hj).2 (by omega)⟩
theorem nt_n {g g1 : Nat → Int32} {d ri y : Int32} {i : Int} (q : ntI g d ri y.toInt g1) (hs : ¬ (if sayW y d then (1 : Int32) else 0) = ri) (h0 : 0 ≤ y.toInt) (h1 : y.toInt < 81) (hi : i = y.toInt + 1) : ntI g d ri i g1 := by
  subst hi
  have ey := clC (x := y) rfl
  have w0 := (q y.toNatClampNeg (by omega)).2 (by omega)
  intro j hj
  by_cases c : j = y.toNatClampNeg
  · subst c
    refine ⟨fun _ => ?_, fun z => by omega⟩
    rw [w0, ey, nI_toNat h0]
    unfold incW
    rw [if_neg hs, Int32.add_zero]
  · exact ⟨fun z => (q j hj).1 (by omega), fun z => (q j hj).2 (by omega)⟩
def mayF (g : Nat → Int32) (a : Int32) : Nat → Int
  | 0 => 0
  | k + 1 => mayF g a k + (if g k = a then 1 else 0)
theorem my_0 {g : Nat → Int32} {a : Int32} {L : Int} {N : Nat} (hL : L = 0) (hN : N = 0) : L = mayF g a N := by subst hN; exact hL
theorem my_s {g : Nat → Int32} {a o : Int32} {L R : Int} {N N' : Nat} (h : L = mayF g a N) (ho : o.toNatClampNeg = N) (hR : (g o.toNatClampNeg = a ∧ R = L + 1) ∨ (¬ g o.toNatClampNeg = a ∧ R = L)) (hN : N' = N + 1) : R = mayF g a N' := by
  subst hN; rw [ho] at hR
  show R = mayF g a N + (if g N = a then 1 else 0)
  rcases hR with ⟨x, y⟩ | ⟨x, y⟩
  · rw [if_pos x, ← h]; exact y
  · rw [if_neg x, ← h]; omega
theorem my_e {g : Nat → Int32} {a : Int32} {L : Int} {N N' : Nat} (h : L = mayF g a N) (e : N' = N) : L = mayF g a N' := by subst e; exact h
def lkF (g : Nat → Int32) : Nat → Nat
  | 0 => 0
  | k + 1 => if (g (lkF g k)).toInt < (g (k + 1)).toInt then k + 1 else lkF g k
theorem lk_le {g : Nat → Int32} : ∀ k, lkF g k ≤ k
  | 0 => Nat.le_refl 0
  | k + 1 => by
    have := lk_le (g := g) k
    show (if (g (lkF g k)).toInt < (g (k + 1)).toInt then k + 1 else lkF g k) ≤ k + 1
    by_cases c : (g (lkF g k)).toInt < (g (k + 1)).toInt
    · rw [if_pos c]; omega
    · rw [if_neg c]; omega
theorem lk_0 {g : Nat → Int32} {y : Int} {k : Nat} (hy : y = 0) (hk : k = 0) : y = ((lkF g k : Nat) : Int) := by subst hk; exact hy
theorem lk_y {g : Nat → Int32} {x y : Int32} {k k' : Nat} (h : x.toInt = ((lkF g k : Nat) : Int)) (hy : y.toInt = (k : Int) + 1) (c : (g x.toNatClampNeg).toInt < (g y.toNatClampNeg).toInt) (hk : k' = k + 1) : y.toInt = ((lkF g k' : Nat) : Int) := by
  subst hk
  rw [clC h, clC hy, show (((lkF g k : Nat) : Int)).toNat = lkF g k by omega, show ((k : Int) + 1).toNat = k + 1 by omega] at c
  show y.toInt = (((if (g (lkF g k)).toInt < (g (k + 1)).toInt then k + 1 else lkF g k) : Nat) : Int)
  rw [if_pos c, hy]; rfl
theorem lk_n {g : Nat → Int32} {x y : Int32} {k k' : Nat} (h : x.toInt = ((lkF g k : Nat) : Int)) (hy : y.toInt = (k : Int) + 1) (c : (g y.toNatClampNeg).toInt ≤ (g x.toNatClampNeg).toInt) (hk : k' = k + 1) : x.toInt = ((lkF g k' : Nat) : Int) := by
  subst hk
  rw [clC h, clC hy, show (((lkF g k : Nat) : Int)).toNat = lkF g k by omega, show ((k : Int) + 1).toNat = k + 1 by omega] at c
  show x.toInt = (((if (g (lkF g k)).toInt < (g (k + 1)).toInt then k + 1 else lkF g k) : Nat) : Int)
  rw [if_neg (by omega), h]
theorem lk_e {g : Nat → Int32} {y : Int} {k k' : Nat} (h : y = ((lkF g k : Nat) : Int)) (e : k' = k) : y = ((lkF g k' : Nat) : Int) := by subst e; exact h
theorem ag_at {g : Nat → Int32} {x : Int32} {n : Nat} (h : x.toInt = ((n : Nat) : Int)) : g x.toNatClampNeg = g n := by rw [clC h]; rfl
def nmL (t : Nat) : Int := 100 * ((t : Int) / 9 + 1) + ((t : Int) % 9 + 1) * 10
def unF (g : Nat → Int32) (a d : Int32) : Nat → Int
  | 0 => 0
  | k + 1 => unF g a d k + (if g k = a then (if sayW (nI k) d then 1 else -1) else 0)
theorem un_0 {g : Nat → Int32} {a d : Int32} {L : Int} {N : Nat} (hL : L = 0) (hN : N = 0) : L = unF g a d N := by subst hN; exact hL
theorem un_s {g : Nat → Int32} {a d o : Int32} {L R : Int} {N N' : Nat} (h : L = unF g a d N) (ho : o.toInt = N) (hR : (g o.toNatClampNeg = a ∧ ((sayW o d = true ∧ R = L + 1) ∨ (sayW o d = false ∧ R = L - 1))) ∨ (¬ g o.toNatClampNeg = a ∧ R = L)) (hN : N' = N + 1) : R = unF g a d N' := by
  subst hN
  have eo : o = nI N := by
    have := nI_toNat (y := o) (by omega)
    rw [← this]; congr 1; omega
  have ec : o.toNatClampNeg = N := by rw [clC ho]; omega
  rw [ec, eo] at hR
  show R = unF g a d N + (if g N = a then (if sayW (nI N) d then 1 else -1) else 0)
  rcases hR with ⟨x, ⟨y, z⟩ | ⟨y, z⟩⟩ | ⟨x, z⟩
  · rw [if_pos x, y, if_pos rfl, ← h]; exact z
  · rw [if_pos x, y, if_neg (by decide), ← h]; omega
  · rw [if_neg x, ← h]; omega
def ofF (g : Nat → Int32) (a d : Int32) : Int := max (unF g a d 81) (-(unF g a d 81))
theorem of_e {g : Nat → Int32} {a d : Int32} {X Y : Int} {k : Nat} (h : Y = unF g a d k) (hk : k = 81) (hx : X = max Y (-Y)) : X = ofF g a d := by subst hk; unfold ofF; rw [← h]; exact hx
theorem ab_C {x y : Int32} (e : x = if 0 ≤ y then y else 0 - y) (h1 : -81 ≤ y.toInt) (h2 : y.toInt ≤ 81) : x.toInt = max y.toInt (-y.toInt) := by
  by_cases c : 0 ≤ y
  · rw [if_pos c] at e
    have := leC (show ((0 : Int32)).toInt = 0 from rfl) rfl c
    rw [e]; omega
  · rw [if_neg c] at e
    have := nleC (show ((0 : Int32)).toInt = 0 from rfl) rfl c
    rw [e, subC (show ((0 : Int32)).toInt = 0 from rfl) rfl (by omega) (by omega)]; omega
theorem un_rg {g : Nat → Int32} {a d : Int32} : ∀ k : Nat, -(k : Int) ≤ unF g a d k ∧ unF g a d k ≤ k
  | 0 => ⟨by show -((0 : Nat) : Int) ≤ 0; omega, Int.le_refl 0⟩
  | k + 1 => by
    have := un_rg (g := g) (a := a) (d := d) k
    show -((k + 1 : Nat) : Int) ≤ unF g a d k + (if g k = a then (if sayW (nI k) d then 1 else -1) else 0) ∧ unF g a d k + (if g k = a then (if sayW (nI k) d then 1 else -1) else 0) ≤ ((k + 1 : Nat) : Int)
    by_cases c : g k = a
    · rw [if_pos c]
      cases sayW (nI k) d
      · rw [if_neg (by decide)]; omega
      · rw [if_pos rfl]; omega
    · rw [if_neg c]; omega
def fdP (g : Nat → Int32) (a : Int32) (L0 : Int) : Nat → Int × Int
  | 0 => (-1, L0)
  | k + 1 => if ofF g a (nI (k + 1)) < (fdP g a L0 k).2 then ((k : Int) + 1, ofF g a (nI (k + 1))) else fdP g a L0 k
theorem fd_0 {g : Nat → Int32} {a : Int32} {L0 P L : Int} {k : Nat} (hP : P = -1) (hL : L = L0) (hk : k = 0) : (P, L) = fdP g a L0 k := by subst hk; subst hP; subst hL; rfl
theorem fd_nI {d : Int32} {k : Nat} (hd : d.toInt = (k : Int) + 1) : nI (k + 1) = d := by
  have := nI_toNat (y := d) (by omega)
  rw [← this]; congr 1; omega
theorem fd_y {g : Nat → Int32} {a d : Int32} {L0 P L D U : Int} {k k' : Nat} (h : (P, L) = fdP g a L0 k) (hd : d.toInt = (k : Int) + 1) (hD : D = d.toInt) (hu : U = ofF g a d) (c : U < L) (hk : k' = k + 1) : (D, U) = fdP g a L0 k' := by
  subst hk
  show _ = if ofF g a (nI (k + 1)) < (fdP g a L0 k).2 then ((k : Int) + 1, ofF g a (nI (k + 1))) else fdP g a L0 k
  rw [← h, fd_nI hd, ← hu, if_pos c, hD, hd]
theorem fd_n {g : Nat → Int32} {a d : Int32} {L0 P L U : Int} {k k' : Nat} (h : (P, L) = fdP g a L0 k) (hd : d.toInt = (k : Int) + 1) (hu : U = ofF g a d) (c : L ≤ U) (hk : k' = k + 1) : (P, L) = fdP g a L0 k' := by
  subst hk
  show _ = if ofF g a (nI (k + 1)) < (fdP g a L0 k).2 then ((k : Int) + 1, ofF g a (nI (k + 1))) else fdP g a L0 k
  rw [← h, fd_nI hd, ← hu, if_neg (by show ¬ U < L; omega)]
def dpF (g : Nat → Int32) (a : Int32) (L0 : Int) : Int := if mayF g a 81 = 0 then -1 else (fdP g a L0 60).1
theorem dp_0 {g : Nat → Int32} {a : Int32} {L0 X M : Int} (h : M = mayF g a 81) (hM : M = 0) (hX : X = -1) : X = dpF g a L0 := by unfold dpF; rw [← h, if_pos hM]; exact hX
theorem dp_1 {g : Nat → Int32} {a : Int32} {L0 P L M : Int} {k : Nat} (h : M = mayF g a 81) (hM : M ≠ 0) (q : (P, L) = fdP g a L0 k) (hk : k = 60) : P = dpF g a L0 := by subst hk; unfold dpF; rw [← h, if_neg hM, ← q]
theorem fd_L {g : Nat → Int32} {a : Int32} {L1 L2 : Int} (h1 : 81 < L1) (h2 : 81 < L2) : ∀ k : Nat, fdP g a L1 (k + 1) = fdP g a L2 (k + 1)
  | 0 => by
    have r := un_rg (g := g) (a := a) (d := nI 1) 81
    have o : ofF g a (nI 1) ≤ 81 := by unfold ofF; omega
    show (if ofF g a (nI 1) < (fdP g a L1 0).2 then (((0 : Nat) : Int) + 1, ofF g a (nI 1)) else fdP g a L1 0) = (if ofF g a (nI 1) < (fdP g a L2 0).2 then (((0 : Nat) : Int) + 1, ofF g a (nI 1)) else fdP g a L2 0)
    rw [if_pos (by show ofF g a (nI 1) < L1; omega), if_pos (by show ofF g a (nI 1) < L2; omega)]
  | k + 1 => by
    show (if ofF g a (nI (k + 1 + 1)) < (fdP g a L1 (k + 1)).2 then (((k + 1 : Nat) : Int) + 1, ofF g a (nI (k + 1 + 1))) else fdP g a L1 (k + 1)) = (if ofF g a (nI (k + 1 + 1)) < (fdP g a L2 (k + 1)).2 then (((k + 1 : Nat) : Int) + 1, ofF g a (nI (k + 1 + 1))) else fdP g a L2 (k + 1))
    rw [fd_L h1 h2 k]
theorem mayF_eq {g h : Nat → Int32} {a : Int32} (e : ∀ j, j < 81 → g j = h j) : ∀ k, k ≤ 81 → mayF g a k = mayF h a k
  | 0, _ => rfl
  | k + 1, hk => by
    show mayF g a k + (if g k = a then 1 else 0) = mayF h a k + (if h k = a then 1 else 0)
    rw [mayF_eq e k (by omega), e k (by omega)]
theorem lkF_eq {g h : Nat → Int32} (e : ∀ j, j < 81 → g j = h j) : ∀ k, k ≤ 80 → lkF g k = lkF h k
  | 0, _ => rfl
  | k + 1, hk => by
    have l := lk_le (g := h) k
    show (if (g (lkF g k)).toInt < (g (k + 1)).toInt then k + 1 else lkF g k) = (if (h (lkF h k)).toInt < (h (k + 1)).toInt then k + 1 else lkF h k)
    rw [lkF_eq e k (by omega), e (k + 1) (by omega), e (lkF h k) (by omega)]
theorem unF_eq {g h : Nat → Int32} {a d : Int32} (e : ∀ j, j < 81 → g j = h j) : ∀ k, k ≤ 81 → unF g a d k = unF h a d k
  | 0, _ => rfl
  | k + 1, hk => by
    show unF g a d k + (if g k = a then (if sayW (nI k) d then 1 else -1) else 0) = unF h a d k + (if h k = a then (if sayW (nI k) d then 1 else -1) else 0)
    rw [unF_eq e k (by omega), e k (by omega)]
theorem ofF_eq {g h : Nat → Int32} {a d : Int32} (e : ∀ j, j < 81 → g j = h j) : ofF g a d = ofF h a d := by unfold ofF; rw [unF_eq e 81 (by omega)]
theorem fdP_eq {g h : Nat → Int32} {a : Int32} {L0 : Int} (e : ∀ j, j < 81 → g j = h j) : ∀ k, fdP g a L0 k = fdP h a L0 k
  | 0 => rfl
  | k + 1 => by
    show (if ofF g a (nI (k + 1)) < (fdP g a L0 k).2 then ((k : Int) + 1, ofF g a (nI (k + 1))) else fdP g a L0 k) = (if ofF h a (nI (k + 1)) < (fdP h a L0 k).2 then ((k : Int) + 1, ofF h a (nI (k + 1))) else fdP h a L0 k)
    rw [fdP_eq e k, ofF_eq e]
theorem dpF_eq {g h : Nat → Int32} {a : Int32} (e : ∀ j, j < 81 → g j = h j) : dpF g a 82 = dpF h a 1000 := by
  unfold dpF
  rw [mayF_eq e 81 (by omega), fdP_eq e 60, fd_L (L1 := 82) (L2 := 1000) (by decide) (by decide) 59]
def spPup (G : Nat → Int32) (a : Int32) (L0 : Int) (p w r : Int32) : Prop := ((p.toInt < 0 ∨ 3 < p.toInt) ∧ r = -2) ∨ ((0 ≤ p.toInt ∧ p.toInt ≤ 3) ∧ ((w.toInt = 0 ∧ r.toInt = mayF G a 81) ∨ (w.toInt = 1 ∧ r.toInt = nmL (lkF G 80)) ∨ (w.toInt = 2 ∧ r = G (lkF G 80)) ∨ (w.toInt = 3 ∧ r.toInt = dpF G a L0) ∨ ((w.toInt < 0 ∨ 3 < w.toInt) ∧ r = -3)))
def gF (g0 g1 g2 g3 : Nat → Int32) : Nat → Nat → Int32 := fun q => ([g0, g1, g2, g3] : List (Nat → Int32)).getD q (fun _ => 0)
def agW (day rgt : Nat → Int32) (t : Int32) (lo : Nat) : Nat → Int32
  | 0 => 0
  | k + 1 => agW day rgt t lo k + incW t (day (lo + k)) (rgt (lo + k))
theorem in_rg {t d ri : Int32} : 0 ≤ (incW t d ri).toInt ∧ (incW t d ri).toInt ≤ 1 := by
  unfold incW
  by_cases c : (if sayW t d then (1 : Int32) else 0) = ri
  · rw [if_pos c]; decide
  · rw [if_neg c]; decide
theorem aw_rg {day rgt : Nat → Int32} {t : Int32} {lo : Nat} : ∀ n : Nat, n ≤ 12 → 0 ≤ (agW day rgt t lo n).toInt ∧ (agW day rgt t lo n).toInt ≤ n
  | 0, _ => ⟨show (0 : Int) ≤ (0 : Int32).toInt by decide, show (0 : Int32).toInt ≤ ((0 : Nat) : Int) by decide⟩
  | k + 1, hk => by
    have i := aw_rg (day := day) (rgt := rgt) (t := t) (lo := lo) k (by omega)
    have r := in_rg (t := t) (d := day (lo + k)) (ri := rgt (lo + k))
    show 0 ≤ (agW day rgt t lo k + incW t (day (lo + k)) (rgt (lo + k))).toInt ∧ (agW day rgt t lo k + incW t (day (lo + k)) (rgt (lo + k))).toInt ≤ ((k + 1 : Nat) : Int)
    rw [addC rfl rfl (by omega) (by omega)]; omega
theorem aw_0 {day rgt : Nat → Int32} {t v : Int32} {lo k : Nat} (hv : v = 0) (hk : k = 0) : v = agW day rgt t lo k := by subst hk; exact hv
theorem aw_y {day rgt : Nat → Int32} {t v w x : Int32} {lo k k' : Nat} (h : v = agW day rgt t lo k) (hs : (if sayW t (day x.toNatClampNeg) then (1 : Int32) else 0) = rgt x.toNatClampNeg) (hx : x.toInt = ((lo + k : Nat) : Int)) (hw : w = v + 1) (hk : k' = k + 1) : w = agW day rgt t lo k' := by
  subst hk
  rw [show x.toNatClampNeg = lo + k by rw [clC hx]; omega] at hs
  show w = agW day rgt t lo k + incW t (day (lo + k)) (rgt (lo + k))
  unfold incW; rw [if_pos hs, ← h]; exact hw
theorem aw_n {day rgt : Nat → Int32} {t v w x : Int32} {lo k k' : Nat} (h : v = agW day rgt t lo k) (hs : ¬ (if sayW t (day x.toNatClampNeg) then (1 : Int32) else 0) = rgt x.toNatClampNeg) (hx : x.toInt = ((lo + k : Nat) : Int)) (hw : w = v + 0) (hk : k' = k + 1) : w = agW day rgt t lo k' := by
  subst hk
  rw [show x.toNatClampNeg = lo + k by rw [clC hx]; omega] at hs
  show w = agW day rgt t lo k + incW t (day (lo + k)) (rgt (lo + k))
  unfold incW; rw [if_neg hs, ← h]; exact hw
theorem aw_e {day rgt : Nat → Int32} {t v : Int32} {lo k lo' k' : Nat} (h : v = agW day rgt t lo k) (e1 : lo' = lo) (e : k' = k) : v = agW day rgt t lo' k' := by subst e; subst e1; exact h
theorem aw_same {day rgt day2 rgt2 : Nat → Int32} {t : Int32} {lo : Nat} : ∀ n : Nat, (∀ k : Nat, k < n → day2 (lo + k) = day (lo + k) ∧ rgt2 (lo + k) = rgt (lo + k)) → agW day2 rgt2 t lo n = agW day rgt t lo n
  | 0, _ => rfl
  | k + 1, h => by
    show agW day2 rgt2 t lo k + incW t (day2 (lo + k)) (rgt2 (lo + k)) = agW day rgt t lo k + incW t (day (lo + k)) (rgt (lo + k))
    rw [aw_same k (fun q hq => h q (by omega)), (h k (by omega)).1, (h k (by omega)).2]
def puR (g0 g1 g2 g3 : Nat → Int32) (an day rgt : Nat → Int32) : Prop := ∀ q : Nat, q < 4 → ∀ t : Nat, t < 81 → gF g0 g1 g2 g3 q t = agW day rgt (nI t) (12 * q) (an q).toInt.toNat
theorem pu_init {g0 g1 g2 g3 an day rgt : Nat → Int32} (h0 : g0 = fun _ => 0) (h1 : g1 = fun _ => 0) (h2 : g2 = fun _ => 0) (h3 : g3 = fun _ => 0) (ha : an = fun _ => 0) : puR g0 g1 g2 g3 an day rgt := by
  subst h0; subst h1; subst h2; subst h3; subst ha
  intro q hq t ht
  match q, hq with
  | 0, _ => rfl
  | 1, _ => rfl
  | 2, _ => rfl
  | 3, _ => rfl
  | k + 4, hq => omega
theorem spPup_rel {g0 g1 g2 g3 an day rgt : Nat → Int32} {a0 a1 a2 a3 p w r r2 : Int32} (R : puR g0 g1 g2 g3 an day rgt) (Ra : ∀ j, j < 4 → aF a0 a1 a2 a3 j = an j) (h1 : spPup (gF g0 g1 g2 g3 p.toNatClampNeg) (aF a0 a1 a2 a3 p.toNatClampNeg) 82 p w r) (h2 : spPup (fun t => agW day rgt (nI t) (12 * p.toInt).toNat (an p.toNatClampNeg).toInt.toNat) (an p.toNatClampNeg) 1000 p w r2) : r = r2 := by
  rcases h1 with ⟨a, b⟩ | ⟨a, b⟩
  · rcases h2 with ⟨_, d⟩ | ⟨c, _⟩
    · rw [b, d]
    · exfalso; omega
  · rcases h2 with ⟨c, _⟩ | ⟨_, d⟩
    · exfalso; omega
    · have p4 : p.toNatClampNeg < 4 := by rw [clC (x := p) rfl]; omega
      have e : ∀ t, t < 81 → gF g0 g1 g2 g3 p.toNatClampNeg t = (fun t => agW day rgt (nI t) (12 * p.toInt).toNat (an p.toNatClampNeg).toInt.toNat) t := by
        intro t ht
        show _ = agW day rgt (nI t) (12 * p.toInt).toNat (an p.toNatClampNeg).toInt.toNat
        rw [R _ p4 t ht, show 12 * p.toNatClampNeg = (12 * p.toInt).toNat by rw [clC (x := p) rfl]; omega]
      rw [Ra _ p4, mayF_eq e 81 (by omega), lkF_eq e 80 (by omega), dpF_eq e] at b
      have l := lk_le (g := fun t => agW day rgt (nI t) (12 * p.toInt).toNat (an p.toNatClampNeg).toInt.toNat) 80
      rw [e _ (by omega)] at b
      rcases b with ⟨x, b⟩ | ⟨x, b⟩ | ⟨x, b⟩ | ⟨x, b⟩ | ⟨x, b⟩ <;> rcases d with ⟨y, d⟩ | ⟨y, d⟩ | ⟨y, d⟩ | ⟨y, d⟩ | ⟨y, d⟩ <;> first | (exfalso; omega) | exact Int32.toInt_inj.mp (b.trans d.symm) | exact b.trans d.symm
def anC (g g' : Nat → Nat → Int32) (p d ri r : Int32) : Prop := (r.toInt < 0 ∧ ∀ q : Nat, q < 4 → ∀ t : Nat, t < 81 → g' q t = g q t) ∨ (0 ≤ r.toInt ∧ ∀ q : Nat, q < 4 → ∀ t : Nat, t < 81 → g' q t = if q = p.toNatClampNeg then g q t + incW (nI t) d ri else g q t)
def spAnC (A : Nat → Int32) (g : Nat → Nat → Int32) (p d ri r : Int32) (A' : Nat → Int32) (g' : Nat → Nat → Int32) : Prop := spAns A p d r A' ∧ anC g g' p d ri r
def spAnM (A day rgt : Nat → Int32) (p d ri r : Int32) (A' day' rgt' : Nat → Int32) : Prop := spAns A p d r A' ∧ ((r.toInt < 0 ∧ day' = day ∧ rgt' = rgt) ∨ (0 ≤ r.toInt ∧ day' = upd day (12 * p.toInt + (A p.toNatClampNeg).toInt).toNat d ∧ rgt' = upd rgt (12 * p.toInt + (A p.toNatClampNeg).toInt).toNat (vp_nar .boolean ri)))
theorem an_u0 {g0 g1 g2 g3 z : Nat → Int32} {d ri r : Int32} (hr : 0 ≤ r.toInt) (h : ∀ j : Nat, j < 81 → z j = g0 j + incW (nI j) d ri) : anC (gF g0 g1 g2 g3) (gF z g1 g2 g3) 0 d ri r := by
  refine .inr ⟨hr, fun q hq t ht => ?_⟩
  match q, hq with
  | 0, _ => exact h t ht
  | 1, _ => rfl
  | 2, _ => rfl
  | 3, _ => rfl
  | k + 4, hq => omega
theorem an_u1 {g0 g1 g2 g3 z : Nat → Int32} {d ri r : Int32} (hr : 0 ≤ r.toInt) (h : ∀ j : Nat, j < 81 → z j = g1 j + incW (nI j) d ri) : anC (gF g0 g1 g2 g3) (gF g0 z g2 g3) 1 d ri r := by
  refine .inr ⟨hr, fun q hq t ht => ?_⟩
  match q, hq with
  | 0, _ => rfl
  | 1, _ => exact h t ht
  | 2, _ => rfl
  | 3, _ => rfl
  | k + 4, hq => omega
theorem an_u2 {g0 g1 g2 g3 z : Nat → Int32} {d ri r : Int32} (hr : 0 ≤ r.toInt) (h : ∀ j : Nat, j < 81 → z j = g2 j + incW (nI j) d ri) : anC (gF g0 g1 g2 g3) (gF g0 g1 z g3) 2 d ri r := by
  refine .inr ⟨hr, fun q hq t ht => ?_⟩
  match q, hq with
  | 0, _ => rfl
  | 1, _ => rfl
  | 2, _ => exact h t ht
  | 3, _ => rfl
  | k + 4, hq => omega
theorem an_u3 {g0 g1 g2 g3 z : Nat → Int32} {d ri r : Int32} (hr : 0 ≤ r.toInt) (h : ∀ j : Nat, j < 81 → z j = g3 j + incW (nI j) d ri) : anC (gF g0 g1 g2 g3) (gF g0 g1 g2 z) 3 d ri r := by
  refine .inr ⟨hr, fun q hq t ht => ?_⟩
  match q, hq with
  | 0, _ => rfl
  | 1, _ => rfl
  | 2, _ => rfl
  | 3, _ => exact h t ht
  | k + 4, hq => omega
theorem spAn_rel {g0 g1 g2 g3 z0 z1 z2 z3 an day rgt an' day' rgt' : Nat → Int32} {a0 a1 a2 a3 b0 b1 b2 b3 p d ri r r2 : Int32} (R : puR g0 g1 g2 g3 an day rgt) (Ra : ∀ j, j < 4 → aF a0 a1 a2 a3 j = an j) (hr : rg 4 0 12 an) (hri : ri = 0 ∨ ri = 1) (h1 : spAnC (aF a0 a1 a2 a3) (gF g0 g1 g2 g3) p d ri r (aF b0 b1 b2 b3) (gF z0 z1 z2 z3)) (h2 : spAnM an day rgt p d ri r2 an' day' rgt') (hd : r = r2 ∧ ∀ j, j < 4 → aF b0 b1 b2 b3 j = an' j) : puR z0 z1 z2 z3 an' day' rgt' := by
  have er := hd.1
  subst er
  have nb : vp_nar .boolean ri = ri := by rcases hri with h | h <;> rw [h] <;> rfl
  rcases h1.2 with ⟨c, e⟩ | ⟨c, e⟩
  · rcases h2.2 with ⟨_, e1, e2⟩ | ⟨c2, _⟩
    · have ea : an' = an := by
        rcases h2.1 with q | q | q | q
        · exact q.2.2
        · exact q.2.2.2
        · exact q.2.2.2.2
        · exfalso
          have p4 : p.toNatClampNeg < 4 := by rw [clC (x := p) rfl]; omega
          have k := hr _ p4
          have := q.2.2.2.1
          rw [this, addC rfl (show ((1 : Int32)).toInt = 1 from rfl) (by omega) (by omega)] at c
          omega
      intro q hq t ht
      rw [e q hq t ht, e1, e2, ea]; exact R q hq t ht
    · exfalso; omega
  · rcases h2.2 with ⟨c2, _⟩ | ⟨_, e1, e2⟩
    · exfalso; omega
    · have ok : (0 ≤ p.toInt ∧ p.toInt ≤ 3) ∧ (an p.toNatClampNeg).toInt < 12 ∧ an' = upd an p.toNatClampNeg (an p.toNatClampNeg + 1) := by
        rcases h2.1 with q | q | q | q
        · have := q.2.1; rw [this] at c; exact absurd c (by decide)
        · have := q.2.2.1; rw [this] at c; exact absurd c (by decide)
        · have := q.2.2.2.1; rw [this] at c; exact absurd c (by decide)
        · exact ⟨q.1, q.2.2.1, q.2.2.2.2⟩
      obtain ⟨o1, o2, o3⟩ := ok
      have p4 : p.toNatClampNeg < 4 := by rw [clC (x := p) rfl]; omega
      have ep := clC (x := p) rfl
      have kr := hr _ p4
      intro q hq t ht
      have kq := hr q hq
      rw [e q hq t ht]
      by_cases z : q = p.toNatClampNeg
      · subst z
        rw [if_pos rfl, R _ p4 t ht, o3, pk_us, addC rfl (show ((1 : Int32)).toInt = 1 from rfl) (by omega) (by omega), show ((an p.toNatClampNeg).toInt + 1).toNat = (an p.toNatClampNeg).toInt.toNat + 1 by omega]
        show _ = agW day' rgt' (nI t) (12 * p.toNatClampNeg) (an p.toNatClampNeg).toInt.toNat + incW (nI t) (day' (12 * p.toNatClampNeg + (an p.toNatClampNeg).toInt.toNat)) (rgt' (12 * p.toNatClampNeg + (an p.toNatClampNeg).toInt.toNat))
        rw [aw_same (day := day) (rgt := rgt) (day2 := day') (rgt2 := rgt') _ (fun k hk => by rw [e1, e2, pk_un (by omega), pk_un (by omega)]; exact ⟨rfl, rfl⟩), e1, e2, show 12 * p.toNatClampNeg + (an p.toNatClampNeg).toInt.toNat = (12 * p.toInt + (an p.toNatClampNeg).toInt).toNat by omega, pk_us, pk_us, nb]
      · rw [if_neg z, R q hq t ht, o3, pk_un z, aw_same (day := day) (rgt := rgt) (day2 := day') (rgt2 := rgt') _ (fun k hk => by rw [e1, e2, pk_un (by omega), pk_un (by omega)]; exact ⟨rfl, rfl⟩)]
theorem negC {a : Int32} {A : Int} (ha : a.toInt = A) (h1 : -2147483648 ≤ -A) (h2 : -A ≤ 2147483647) : (-a).toInt = -A := by
  subst ha
  rw [Int32.toInt_neg]; exact ka_bmod h1 h2
theorem gg_at {day rgt : Nat → Int32} {y r : Int32} {lo n : Nat} (h : r = agW day rgt y lo n) (h0 : 0 ≤ y.toInt) : (fun t => agW day rgt (nI t) lo n) y.toNatClampNeg = r := by
  show agW day rgt (nI y.toNatClampNeg) lo n = r
  rw [clC (x := y) rfl, nI_toNat h0]; exact h.symm
theorem rn_of {day rgt : Nat → Int32} {t r : Int32} {lo n : Nat} (h : r = agW day rgt t lo n) (hn : n ≤ 12) : 0 ≤ r.toInt := by rw [h]; exact (aw_rg n hn).1
theorem my_sG {G : Nat → Int32} {a o r : Int32} {L R : Int} {N N' : Nat} (h : L = mayF G a N) (hg : G o.toNatClampNeg = r) (ho : o.toNatClampNeg = N) (hR : (r = a ∧ R = L + 1) ∨ (¬ r = a ∧ R = L + 0)) (hN : N' = N + 1) : R = mayF G a N' :=
  my_s h ho (by rw [hg]; exact hR.imp id (fun q => ⟨q.1, by omega⟩)) hN
def ppI (G : Nat → Int32) (i b : Int) (m : Int32) : Prop := (i = 0 ∧ b = 0 ∧ m = -1) ∨ (0 < i ∧ b = ((lkF G (i - 1).toNat : Nat) : Int) ∧ m = G (lkF G (i - 1).toNat))
theorem pp_0 {G : Nat → Int32} {i b : Int} {m : Int32} (hi : i = 0) (hb : b = 0) (hm : m = -1) : ppI G i b m := .inl ⟨hi, hb, hm⟩
theorem pp_y {G : Nat → Int32} {i b : Int} {m y r : Int32} (q : ppI G y.toInt b m) (hg : G y.toNatClampNeg = r) (h0 : 0 ≤ y.toInt) (c : m.toInt < r.toInt) (hi : i = y.toInt + 1) : ppI G i y.toInt r := by
  subst hi
  rw [clC (x := y) rfl] at hg
  refine .inr ⟨by omega, ?_⟩
  rw [show (y.toInt + 1 - 1).toNat = y.toInt.toNat by omega]
  rcases q with ⟨a, _, _⟩ | ⟨a, _, e⟩
  · rw [show y.toInt.toNat = 0 by omega] at hg ⊢
    exact ⟨by show y.toInt = ((0 : Nat) : Int); omega, hg.symm⟩
  · have k : lkF G y.toInt.toNat = y.toInt.toNat := by
      rw [show y.toInt.toNat = (y.toInt - 1).toNat + 1 by omega]
      show (if (G (lkF G (y.toInt - 1).toNat)).toInt < (G ((y.toInt - 1).toNat + 1)).toInt then (y.toInt - 1).toNat + 1 else lkF G (y.toInt - 1).toNat) = (y.toInt - 1).toNat + 1
      rw [← e, show (y.toInt - 1).toNat + 1 = y.toInt.toNat by omega, hg, if_pos c]
    rw [k]; exact ⟨by omega, hg.symm⟩
theorem pp_n {G : Nat → Int32} {i b : Int} {m y r : Int32} (q : ppI G y.toInt b m) (hg : G y.toNatClampNeg = r) (h0 : 0 ≤ y.toInt) (rn : 0 ≤ r.toInt) (c : r.toInt ≤ m.toInt) (hi : i = y.toInt + 1) : ppI G i b m := by
  subst hi
  rw [clC (x := y) rfl] at hg
  rcases q with ⟨_, _, e⟩ | ⟨a, d, e⟩
  · rw [e, show ((-1 : Int32)).toInt = -1 from rfl] at c; omega
  · have k : lkF G y.toInt.toNat = lkF G (y.toInt - 1).toNat := by
      rw [show y.toInt.toNat = (y.toInt - 1).toNat + 1 by omega]
      show (if (G (lkF G (y.toInt - 1).toNat)).toInt < (G ((y.toInt - 1).toNat + 1)).toInt then (y.toInt - 1).toNat + 1 else lkF G (y.toInt - 1).toNat) = lkF G (y.toInt - 1).toNat
      rw [← e, show (y.toInt - 1).toNat + 1 = y.toInt.toNat by omega, hg, if_neg (by omega)]
    refine .inr ⟨by omega, ?_⟩
    rw [show (y.toInt + 1 - 1).toNat = y.toInt.toNat by omega, k]; exact ⟨d, e⟩
theorem pp_e {G : Nat → Int32} {i b : Int} {m : Int32} (q : ppI G i b m) (hi : i = 81) : b = ((lkF G 80 : Nat) : Int) ∧ m = G (lkF G 80) := by
  subst hi
  rcases q with ⟨a, _, _⟩ | ⟨_, d, e⟩
  · omega
  · exact ⟨d, e⟩
theorem un_sG {G : Nat → Int32} {a d o f : Int32} {L R : Int} {N N' : Nat} (h : L = unF G a d N) (hf : (f = 1 ∧ G o.toNatClampNeg = a) ∨ (f = 0 ∧ ¬ G o.toNatClampNeg = a)) (ho : o.toInt = N) (hR : (¬ f = 0 ∧ ((sayW o d = true ∧ R = L + 1) ∨ (sayW o d = false ∧ R = L - 1))) ∨ (f = 0 ∧ R = L)) (hN : N' = N + 1) : R = unF G a d N' := by
  refine un_s h ho ?_ hN
  rcases hf with ⟨x, y⟩ | ⟨x, y⟩
  · rcases hR with z | z
    · exact .inl ⟨y, z.2⟩
    · rw [x] at z; exact absurd z.1 (by decide)
  · rcases hR with z | z
    · exact absurd x z.1
    · exact .inr ⟨y, z.2⟩
theorem my_sF {G : Nat → Int32} {a o f : Int32} {B L R : Int} {N N' : Nat} (h : L = B + mayF G a N) (hf : (f = 1 ∧ G o.toNatClampNeg = a) ∨ (f = 0 ∧ ¬ G o.toNatClampNeg = a)) (ho : o.toNatClampNeg = N) (hR : (¬ f = 0 ∧ R = L + 1) ∨ (f = 0 ∧ R = L)) (hN : N' = N + 1) : R = B + mayF G a N' := by
  have k : R - B = mayF G a N' := by
    refine my_s (L := L - B) (by omega) ho ?_ hN
    rcases hf with ⟨x, y⟩ | ⟨x, y⟩
    · rcases hR with z | z
      · exact .inl ⟨y, by omega⟩
      · rw [x] at z; exact absurd z.1 (by decide)
    · rcases hR with z | z
      · exact absurd x z.1
      · exact .inr ⟨y, by omega⟩
  omega
theorem may_rg {g : Nat → Int32} {a : Int32} : ∀ k : Nat, 0 ≤ mayF g a k ∧ mayF g a k ≤ k
  | 0 => ⟨Int.le_refl 0, Int.le_refl 0⟩
  | k + 1 => by
    have := may_rg (g := g) (a := a) k
    show 0 ≤ mayF g a k + (if g k = a then 1 else 0) ∧ mayF g a k + (if g k = a then 1 else 0) ≤ ((k + 1 : Nat) : Int)
    by_cases c : g k = a
    · rw [if_pos c]; omega
    · rw [if_neg c]; omega
/-- any: nothing may be, or no day has been asked -/
def anI (any d M : Int) : Prop := 0 ≤ any ∧ any ≤ 81 * (d - 1) ∧ (any = 0 ↔ (d = 1 ∨ M = 0))
theorem ay_0 {any d M : Int} (h : any = 0) (hd : d = 1) : anI any d M := ⟨by omega, by omega, ⟨fun _ => .inl hd, fun _ => h⟩⟩
theorem ay_s {G : Nat → Int32} {a : Int32} {any d any' d' : Int} {k : Nat} (q : anI any d (mayF G a 81)) (h : any' = any + mayF G a k) (hk : k = 81) (h1 : 1 ≤ d) (hd : d' = d + 1) : anI any' d' (mayF G a 81) := by
  subst hk
  have m := may_rg (g := G) (a := a) 81
  obtain ⟨q1, q2, q3⟩ := q
  refine ⟨by omega, by omega, ⟨fun z => .inr (by omega), fun z => ?_⟩⟩
  rcases z with z | z
  · omega
  · have := q3.mpr (.inr z); omega
theorem ay_e {any d M : Int} (q : anI any d M) (hd : d = 61) : (any = 0 ↔ M = 0) := by
  obtain ⟨_, _, q3⟩ := q
  rw [q3]; exact ⟨fun z => by omega, fun z => .inr z⟩
theorem an_ix {f g : Nat → Int32} {x v : Int32} {X : Int} (e : g = upd f x.toNatClampNeg v) (h : x.toInt = X) : g = upd f X.toNat v := by rw [← clC h]; exact e
theorem cast70 {G : Nat → Int32} {a : Int32} {L B : Int} {k k' : Nat} (h : L = B + mayF G a k) (e : k' = k) : L = B + mayF G a k' := by subst e; exact h
theorem cast99 {G : Nat → Int32} {a d : Int32} {L : Int} {k k' : Nat} (h : L = unF G a d k) (e : k' = k) : L = unF G a d k' := by subst e; exact h
theorem cast0 {G : Nat → Int32} {a : Int32} {L : Int} {k k' : Nat} (h : L = mayF G a k) (e : k' = k) : L = mayF G a k' := by subst e; exact h
set_option maxHeartbeats 4000000 in
set_option maxRecDepth 100000 in
theorem k_X4_lossOf2 (l : Launch) (dC : Nat → ClassId) (dI : Nat → Nat → Nat) (cI cZ cQ : ClassId) (tb : Int32) (q0 : 0 ≤ tb.toInt) (q1 : tb.toInt ≤ 80) : KR l yX4_lossOf wsX4_lossOf { frames := 0, cells := 0, slots := 0, locals := 0 } (dC, dI) (TY cI cZ cQ) (wNil cI cZ cQ) [.int tb] (fun r : Int32 => (1 ≤ r.toInt) ∧ (r.toInt ≤ 9) ∧ (r = tb / 9 + 1) ∧ (r.toInt = tb.toInt / 9 + 1)) := by
  refine Met.ofW (cc := cX4_lossOf) (maxL := 1) (ret := (some .int)) (by decide) rfl ?_
  intro p e s m args below meth c s₁ B hml hv
  obtain ⟨rfl, hP, hK, hN⟩ := hv
  have hx := B.exec
  have hb := B.bytes
  have hr := B.returns
  have hts := atoms_spec (ws := wsX4_lossOf) B.pre
  have hown : s.vm.findClass RX4 = some m.cls := findClass_of_methodNamed B.named
  have hlocks := B.notSynchronized
  have hl := lv_entry ([.int tb]) (n := 1) (Nat.le_of_ble_eq_true rfl)
  rw [lg_entry_eq]
  generalize (lg_sl ([.int tb]) ++ List.replicate (1 - (lg_sl ([.int tb])).length) Slot.unset).toArray = ls at hl ⊢
  have hl : lv_has ls 1 [(0, .int tb)] := hl
  refine lv_iload_n hx hb dX4_lossOf_0 rfl (lv_at hl 0 rfl) ?_
  refine lv_bipush (v := 9) hx hb dX4_lossOf_1 (by decide) ?_
  refine lv_idiv hx hb dX4_lossOf_3 (by decide) ?_
  have f1 : (tb / 9).toInt = (tb.toInt) / (9) := divC rfl (show (9 : Int32).toInt = 9 from rfl) (by omega) (by omega)
  refine lv_iconst (v := 1) hx hb dX4_lossOf_4 (by decide) ?_
  refine lv_iadd hx hb dX4_lossOf_5 ?_
  have f2 : ((tb / 9) + 1).toInt = ((tb.toInt) / (9)) + (1) := addC f1 (show (1 : Int32).toInt = 1 from rfl) (by omega) (by omega)
  exact W.iret (v := (tb / 9) + 1) hx hb hr (fun tq ht hW => ⟨(tb / 9) + 1, rfl, ⟨(show 1 ≤ ((tb / 9) + 1).toInt from by (try rw [show ((tb / 9) + 1).toInt = ((tb.toInt) / (9)) + (1) from f2]); omega), (show ((tb / 9) + 1).toInt ≤ 9 from by (try rw [show ((tb / 9) + 1).toInt = ((tb.toInt) / (9)) + (1) from f2]); omega), (show ((tb / 9) + 1) = tb / 9 + 1 from by (try rw [show ((tb / 9) + 1).toInt = ((tb.toInt) / (9)) + (1) from f2]); rfl), (show ((tb / 9) + 1).toInt = tb.toInt / 9 + 1 from by (try rw [show ((tb / 9) + 1).toInt = ((tb.toInt) / (9)) + (1) from f2]); (first | done | omega))⟩, ht⟩) (fun q h => by cases h) dX4_lossOf_6
set_option maxHeartbeats 4000000 in
set_option maxRecDepth 100000 in
theorem k_X4_limitOf2 (l : Launch) (dC : Nat → ClassId) (dI : Nat → Nat → Nat) (cI cZ cQ : ClassId) (tb : Int32) (q0 : 0 ≤ tb.toInt) (q1 : tb.toInt ≤ 80) : KR l yX4_limitOf wsX4_limitOf { frames := 0, cells := 0, slots := 0, locals := 0 } (dC, dI) (TY cI cZ cQ) (wNil cI cZ cQ) [.int tb] (fun r : Int32 => (10 ≤ r.toInt) ∧ (r.toInt ≤ 90) ∧ (r = (tb - tb / 9 * 9 + 1) * 10) ∧ (r.toInt = (tb.toInt % 9 + 1) * 10)) := by
  refine Met.ofW (cc := cX4_limitOf) (maxL := 1) (ret := (some .int)) (by decide) rfl ?_
  intro p e s m args below meth c s₁ B hml hv
  obtain ⟨rfl, hP, hK, hN⟩ := hv
  have hx := B.exec
  have hb := B.bytes
  have hr := B.returns
  have hts := atoms_spec (ws := wsX4_limitOf) B.pre
  have hown : s.vm.findClass RX4 = some m.cls := findClass_of_methodNamed B.named
  have hlocks := B.notSynchronized
  have hl := lv_entry ([.int tb]) (n := 1) (Nat.le_of_ble_eq_true rfl)
  rw [lg_entry_eq]
  generalize (lg_sl ([.int tb]) ++ List.replicate (1 - (lg_sl ([.int tb])).length) Slot.unset).toArray = ls at hl ⊢
  have hl : lv_has ls 1 [(0, .int tb)] := hl
  refine lv_iload_n hx hb dX4_limitOf_0 rfl (lv_at hl 0 rfl) ?_
  refine lv_bipush (v := 9) hx hb dX4_limitOf_1 (by decide) ?_
  refine lv_irem hx hb dX4_limitOf_3 (by decide) ?_
  have f1 : (tb - tb / 9 * 9).toInt = (tb.toInt) % (9) := remC rfl (show (9 : Int32).toInt = 9 from rfl) (by omega) (by omega)
  refine lv_iconst (v := 1) hx hb dX4_limitOf_4 (by decide) ?_
  refine lv_iadd hx hb dX4_limitOf_5 ?_
  have f2 : ((tb - tb / 9 * 9) + 1).toInt = ((tb.toInt) % (9)) + (1) := addC f1 (show (1 : Int32).toInt = 1 from rfl) (by omega) (by omega)
  refine lv_bipush (v := 10) hx hb dX4_limitOf_6 (by decide) ?_
  refine lv_imul hx hb dX4_limitOf_8 ?_
  have f3 : (((tb - tb / 9 * 9) + 1) * 10).toInt = (((tb.toInt) % (9)) + (1)) * (10) := mulC f2 (show (10 : Int32).toInt = 10 from rfl) (by omega) (by omega)
  exact W.iret (v := ((tb - tb / 9 * 9) + 1) * 10) hx hb hr (fun tq ht hW => ⟨((tb - tb / 9 * 9) + 1) * 10, rfl, ⟨(show 10 ≤ (((tb - tb / 9 * 9) + 1) * 10).toInt from by (try rw [show (((tb - tb / 9 * 9) + 1) * 10).toInt = (((tb.toInt) % (9)) + (1)) * (10) from f3]); omega), (show (((tb - tb / 9 * 9) + 1) * 10).toInt ≤ 90 from by (try rw [show (((tb - tb / 9 * 9) + 1) * 10).toInt = (((tb.toInt) % (9)) + (1)) * (10) from f3]); omega), (show (((tb - tb / 9 * 9) + 1) * 10) = (tb - tb / 9 * 9 + 1) * 10 from by (try rw [show (((tb - tb / 9 * 9) + 1) * 10).toInt = (((tb.toInt) % (9)) + (1)) * (10) from f3]); rfl), (show (((tb - tb / 9 * 9) + 1) * 10).toInt = (tb.toInt % 9 + 1) * 10 from by (try rw [show (((tb - tb / 9 * 9) + 1) * 10).toInt = (((tb.toInt) % (9)) + (1)) * (10) from f3]); (first | done | omega))⟩, ht⟩) (fun q h => by cases h) dX4_limitOf_9
set_option maxHeartbeats 4000000 in
set_option maxRecDepth 100000 in
theorem k_X4_saysRight2 (l : Launch) (dC : Nat → ClassId) (dI : Nat → Nat → Nat) (cI cZ cQ : ClassId) (tb : Int32) (dd : Int32) (q0 : 0 ≤ tb.toInt) (q1 : tb.toInt ≤ 80) (q2 : 1 ≤ dd.toInt) (q3 : dd.toInt ≤ 60) : KR l yX4_saysRight wsX4_saysRight { frames := 1, cells := 0, slots := 0, locals := 20 } (dC, dI) (TY cI cZ cQ) (wNil cI cZ cQ) [.int tb, .int dd] (fun r : Int32 => ((((r = 1) ∧ (sayW tb dd = true)) ∨ ((r = 0) ∧ (sayW tb dd = false))))) := by
  refine Met.ofW (cc := cX4_saysRight) (maxL := 2) (ret := (some .boolean)) (by decide) rfl ?_
  intro p e s m args below meth c s₁ B hml hv
  obtain ⟨rfl, hP, hK, hN⟩ := hv
  have hx := B.exec
  have hb := B.bytes
  have hr := B.returns
  have hts := atoms_spec (ws := wsX4_saysRight) B.pre
  have hown : s.vm.findClass RX4 = some m.cls := findClass_of_methodNamed B.named
  have hlocks := B.notSynchronized
  have hl := lv_entry ([.int tb, .int dd]) (n := 2) (Nat.le_of_ble_eq_true rfl)
  rw [lg_entry_eq]
  generalize (lg_sl ([.int tb, .int dd]) ++ List.replicate (2 - (lg_sl ([.int tb, .int dd])).length) Slot.unset).toArray = ls at hl ⊢
  have hl : lv_has ls 2 [(0, .int tb), (1, .int dd)] := hl
  refine lv_bipush (v := 100) hx hb dX4_saysRight_0 (by decide) ?_
  refine lv_iload_n hx hb dX4_saysRight_2 rfl (lv_at hl 0 rfl) ?_
  refine rdS (As := [.int tb]) (rest := [.int 100]) ⟨hx, hb, hml, hown, hts⟩ (k_X4_lossOf2 l dC dI cI cZ cQ tb (by omega) (by omega)) (va_cwS 1 hts gX4_saysRight_X4_lossOf rfl rfl rfl (by decide +kernel) ⟨Nat.le_of_ble_eq_true rfl, Nat.le_of_ble_eq_true rfl⟩) hP hK hN [] rfl rfl hl.1 rfl (Nat.le_of_ble_eq_true rfl) dX4_saysRight_3 ⟨Nat.le_of_ble_eq_true rfl, Nat.le_of_ble_eq_true rfl⟩ (fun r1 h2 => ?_)
  have h2 : (1 ≤ r1.toInt) ∧ (r1.toInt ≤ 9) ∧ (r1 = tb / 9 + 1) ∧ (r1.toInt = tb.toInt / 9 + 1) := h2
  obtain ⟨h2_0, h2_1, h2_2, h2_3⟩ := h2
  refine lv_iload_n hx hb dX4_saysRight_6 rfl (lv_at hl 1 rfl) ?_
  refine lv_imul hx hb dX4_saysRight_7 ?_
  obtain ⟨f3, f3_1, f3_2⟩ := mulB (a := r1) (b := dd) (A := r1.toInt) (B := dd.toInt) (p := 9) (q := 60) rfl rfl (by omega) (by omega) (by omega) (by omega) (by decide)
  refine lv_isub hx hb dX4_saysRight_8 ?_
  have f4 : (100 - (r1 * dd)).toInt = (100) - ((r1.toInt) * (dd.toInt)) := subC (show (100 : Int32).toInt = 100 from rfl) f3 (by omega) (by omega)
  refine lv_iload_n hx hb dX4_saysRight_9 rfl (lv_at hl 0 rfl) ?_
  refine rdS (As := [.int tb]) (rest := [.int (100 - (r1 * dd))]) ⟨hx, hb, hml, hown, hts⟩ (k_X4_limitOf2 l dC dI cI cZ cQ tb (by omega) (by omega)) (va_cwS 1 hts gX4_saysRight_X4_limitOf rfl rfl rfl (by decide +kernel) ⟨Nat.le_of_ble_eq_true rfl, Nat.le_of_ble_eq_true rfl⟩) hP hK hN [] rfl rfl hl.1 rfl (Nat.le_of_ble_eq_true rfl) dX4_saysRight_10 ⟨Nat.le_of_ble_eq_true rfl, Nat.le_of_ble_eq_true rfl⟩ (fun r5 h6 => ?_)
  have h6 : (10 ≤ r5.toInt) ∧ (r5.toInt ≤ 90) ∧ (r5 = (tb - tb / 9 * 9 + 1) * 10) ∧ (r5.toInt = (tb.toInt % 9 + 1) * 10) := h6
  obtain ⟨h6_0, h6_1, h6_2, h6_3⟩ := h6
  refine lv_icmp_lt (tgt := 20) hx hb dX4_saysRight_13 (by decide) (fun c7 => ?_) (fun c7 => ?_)
  · have dc7 : (100) - ((r1.toInt) * (dd.toInt)) < r5.toInt := ltC f4 rfl c7
    refine lv_iconst (v := 0) hx hb dX4_saysRight_20 (by decide) ?_
    exact W.zret (v := 0) hx hb hr (by decide) (fun tq ht hW => ⟨0, rfl, (Or.inr (⟨rfl, (show sayW tb dd = false from by (try rw [show (0 : Int32).toInt = 0 from (show (0 : Int32).toInt = 0 from rfl)]); (first | exact sw_t (by assumption) (by assumption) (by assumption) | exact sw_f (by assumption) (by assumption) (by assumption)))⟩)), ht⟩) (fun q h => by cases h) dX4_saysRight_21
  · have dc7 : r5.toInt ≤ (100) - ((r1.toInt) * (dd.toInt)) := nltC f4 rfl c7
    refine lv_iconst (v := 1) hx hb dX4_saysRight_16 (by decide) ?_
    refine lv_goto (tgt := 21) hx hb dX4_saysRight_17 (by decide) ?_
    exact W.zret (v := 1) hx hb hr (by decide) (fun tq ht hW => ⟨1, rfl, (Or.inl (⟨rfl, (show sayW tb dd = true from by (try rw [show (1 : Int32).toInt = 1 from (show (1 : Int32).toInt = 1 from rfl)]); (first | exact sw_t (by assumption) (by assumption) (by assumption) | exact sw_f (by assumption) (by assumption) (by assumption)))⟩)), ht⟩) (fun q h => by cases h) dX4_saysRight_21
set_option maxHeartbeats 4000000 in
set_option maxRecDepth 100000 in
theorem k_X4_note2 (l : Launch) (dC : Nat → ClassId) (dI : Nat → Nat → Nat) (cI cZ cQ : ClassId) (pu0 : Nat) (pu1 : Nat) (agr : Nat → Int32) (ans : Int32) (sz : Nat) (dd : Int32) (ri : Int32) (r_ans : 0 ≤ ans.toInt ∧ ans.toInt ≤ 12) (q0 : 1 ≤ dd.toInt) (q1 : dd.toInt ≤ 60) (q2 : ans.toInt ≤ 11) : KV l yX4_note wsX4_note { frames := 2, cells := 0, slots := 0, locals := 41 } (dC, dI) (TY cI cZ cQ) (wPup cI cZ cQ pu0 pu1 agr ans) [.ref pu0, .int dd, .int ri] sz 0 0 (fun (u : US) => ((u.1 1 0) = ans + 1) ∧ (∀ j : Nat, j < 81 → (u.1 0) j = agr j + incW (nI j) dd ri) ∧ (0 ≤ (u.1 1 0).toInt ∧ (u.1 1 0).toInt ≤ 12)) (fun u : US => (wPup cI cZ cQ pu0 pu1 (u.1 0) (u.1 1 0))) := by
  refine Met.ofW (cc := cX4_note) (maxL := 4) (ret := none) (by decide) rfl ?_
  intro p e s m args below meth c s₁ B hml hv
  obtain ⟨rfl, hsz, hP, hK, hD0, hN⟩ := hv
  have hx := B.exec
  have hb := B.bytes
  have hr := B.returns
  have hts := atoms_spec (ws := wsX4_note) B.pre
  have hown : s.vm.findClass RX4 = some m.cls := findClass_of_methodNamed B.named
  have hlocks := B.notSynchronized
  have lf19 := hts (.fieldLink RX4 19 "PalaceOfRooms$Pupil" "answers" "I") (List.mem_cons_of_mem _ (List.mem_append_left _ (List.mem_of_getElem? (i := 1) rfl)))
  have inX4 : ∀ w ∈ wsX40, w ∈ wsX4_note := fun w h => List.mem_cons_of_mem _ (List.mem_append_right _ h)
  have lf11 := hts (.fieldLink RX4 11 "PalaceOfRooms$Pupil" "agreement" "[I") (List.mem_cons_of_mem _ (List.mem_append_left _ (List.mem_of_getElem? (i := 0) rfl)))
  subst hsz
  have hD := hD0.self (sz := s.heap.size)
  generalize hAe : va_A (wPup cI cZ cQ pu0 pu1 agr ans) s.heap.size = A at hD ⊢
  have hA : ∀ q : Nat, s.heap.size ≤ q → A q := fun q h => by rw [← hAe]; exact Or.inr h
  have hS : va_S A s.heap s.heap [] := va_S.rf
  have hl := lv_entry ([.ref pu0, .int dd, .int ri]) (n := 4) (Nat.le_of_ble_eq_true rfl)
  rw [lg_entry_eq]
  generalize (lg_sl ([.ref pu0, .int dd, .int ri]) ++ List.replicate (4 - (lg_sl ([.ref pu0, .int dd, .int ri])).length) Slot.unset).toArray = ls at hl ⊢
  have hl : lv_has ls 4 [(0, .ref pu0), (1, .int dd), (2, .int ri)] := hl
  refine lv_iconst (v := 0) hx hb dX4_note_0 (by decide) ?_
  refine lv_istore_n (lv' := [(3, .int 0), (0, .ref pu0), (1, .int dd), (2, .int ri)]) hx hb dX4_note_1 rfl hl (by decide) rfl (fun ls hl => ?_)
  have L2 : ∀ (nn : Nat) (y2_3 : Int32) (agr_2 : Nat → Int32) (H : Heap) (locs : List Loc) (ls : Array Slot), (0 ≤ (y2_3.toInt)) → ((y2_3.toInt) ≤ 81) → (ntI agr dd ri (y2_3.toInt) agr_2) → (81 - (y2_3.toInt)).toNat < nn → va_P (dC, dI) vwCl (wPup cI cZ cQ pu0 pu1 agr_2 ans) H → va_D A (wPup cI cZ cQ pu0 pu1 agr_2 ans) → va_S A s.heap H locs → lv_has ls 4 [(0, .ref pu0), (1, .int dd), (2, .int ri), (3, .int y2_3)] → W p l e (headSpec wsX4_note { frames := 2, cells := 0, slots := 0, locals := 41 }).room s m ([.ref pu0, .int dd, .int ri] : List Value).toArray below meth c H locs 0 0 (MQ below (va_Qv (fun (u : US) => ((u.1 1 0) = ans + 1) ∧ (∀ j : Nat, j < 81 → (u.1 0) j = agr j + incW (nI j) dd ri) ∧ (0 ≤ (u.1 1 0).toInt ∧ (u.1 1 0).toInt ≤ 12)) (Bw (dC, dI) A (fun u : US => (wPup cI cZ cQ pu0 pu1 (u.1 0) (u.1 1 0)))) A) ([.ref pu0, .int dd, .int ri] : List Value).toArray s 0 0 A) (F0 m 2 ls []) := by
    intro nn
    induction nn with
    | zero =>
      intro y2_3 agr_2 H locs ls i2_0 i2_1 i2_2 hm2
      exact absurd hm2 (Nat.not_lt_zero _)
    | succ nn ih2 =>
      intro y2_3 agr_2 H locs ls i2_0 i2_1 i2_2 hm2 hP hD hS hl
      refine lv_iload_n hx hb dX4_note_2 rfl (lv_at hl 3 rfl) ?_
      refine lv_bipush (v := 81) hx hb dX4_note_3 (by decide) ?_
      refine lv_icmp_ge (tgt := 33) hx hb dX4_note_5 (by decide) (fun c1 => ?_) (fun c1 => ?_)
      · have dc1 : 81 ≤ y2_3.toInt := leC (show (81 : Int32).toInt = 81 from rfl) rfl c1
        refine lv_aload_n hx hb dX4_note_33 rfl (lv_at hl 0 rfl) ?_
        refine lv_dup hx hb dX4_note_34 rfl ?_
        refine va_get (D := (dC, dI)) (ci := 4) (v := .int ans) (C := RX4) (T := TX4) (N := 2) hx hb hts inX4 hown hK hP 0 rfl rfl 1 (by decide) lf19 (fun _ h9 => h9) rfl dX4_note_35 ?_
        refine lv_iconst (v := 1) hx hb dX4_note_38 (by decide) ?_
        refine lv_iadd hx hb dX4_note_39 ?_
        have f2 : (ans + 1).toInt = (ans.toInt) + (1) := addC rfl (show (1 : Int32).toInt = 1 from rfl) (by omega) (by omega)
        refine lv_topi (fun x3 ex3 => ?_)
        have ix3 : x3.toInt = (ans.toInt) + (1) := by rw [ex3]; exact f2
        refine va_put (D := (dC, dI)) (ci := 4) (v := .int x3) (ty := .int) (C := RX4) (T := TX4) (N := 2) hx hb hts inX4 tyX4 tyX4_ok nmX4 hown hK hP hD hS 0 rfl rfl 1 (by decide) lf19 (fun _ h9 => h9) rfl (by decide +kernel) rfl rfl (Nat.le_of_ble_eq_true rfl) dX4_note_40 (fun H locs hP hD hS => ?_)
        have g4 : 0 ≤ x3.toInt ∧ x3.toInt ≤ 12 := by rw [show x3.toInt = x3.toInt from rfl]; exact ⟨by omega, by omega⟩
        have hP : va_P (dC, dI) vwCl (wPup cI cZ cQ pu0 pu1 agr_2 x3) H := hP
        have hD : va_D A (wPup cI cZ cQ pu0 pu1 agr_2 x3) := hD
        exact W.vret hx hb hr (fun tq ht hW => ⟨⟨(uS [agr_2, (fun _ => x3)] 0 (fun _ => 0)), rfl, ⟨(show x3 = ans + 1 from by (first | assumption | (subst_vars; rfl))), (show ∀ j : Nat, j < 81 → agr_2 j = agr j + incW (nI j) dd ri from by (intro j hj; exact (i2_2 j hj).1 (by omega))), g4⟩, by rw [ht]; exact hP, hD⟩, hS.F ht⟩) hS.2.2 dX4_note_43
      · have dc1 : y2_3.toInt < 81 := nleC (show (81 : Int32).toInt = 81 from rfl) rfl c1
        refine lv_iload_n hx hb dX4_note_8 rfl (lv_at hl 3 rfl) ?_
        refine lv_iload_n hx hb dX4_note_9 rfl (lv_at hl 1 rfl) ?_
        refine rdS (As := [.int y2_3, .int dd]) (rest := []) ⟨hx, hb, hml, hown, hts⟩ (k_X4_saysRight2 l dC dI cI cZ cQ y2_3 dd (by omega) (by omega) (by omega) (by omega)) (va_cwS 2 hts gX4_note_X4_saysRight rfl rfl rfl (by decide +kernel) ⟨Nat.le_of_ble_eq_true rfl, Nat.le_of_ble_eq_true rfl⟩) hP hK hN [] rfl rfl hl.1 rfl (Nat.le_of_ble_eq_true rfl) dX4_note_10 ⟨Nat.le_of_ble_eq_true rfl, Nat.le_of_ble_eq_true rfl⟩ (fun r5 h6 => ?_)
        have h6 : ((((r5 = 1) ∧ (sayW y2_3 dd = true)) ∨ ((r5 = 0) ∧ (sayW y2_3 dd = false)))) := h6
        rcases h6 with (⟨rfl, h6_a0⟩ | ⟨rfl, h6_a0⟩)
        · refine lv_iload_n hx hb dX4_note_13 rfl (lv_at hl 2 rfl) ?_
          refine lv_icmp_ne (tgt := 27) hx hb dX4_note_14 (by decide) (fun c7 => ?_) (fun c7 => ?_)
          · have dc7 : 1 ≠ ri.toInt := neC (show (1 : Int32).toInt = 1 from rfl) rfl c7
            obtain ⟨z8, ez8⟩ : ∃ y : Int32, y = y2_3 + 1 := ⟨_, rfl⟩
            have iz8 : z8.toInt = y2_3.toInt + 1 := by rw [ez8]; exact addC rfl rfl (by omega) (by omega)
            refine lv_iinc (v := z8) (lv' := [(3, .int z8), (0, .ref pu0), (1, .int dd), (2, .int ri)]) hx hb dX4_note_27 hl (k := 3) rfl (by rw [ez8]; rfl) (by decide) rfl (fun ls hl => ?_)
            refine lv_goto (tgt := 2) hx hb dX4_note_30 (by decide) ?_
            exact ih2 z8 agr_2 _ _ _ (by omega) (by omega) (by (first | exact nt_y i2_2 (by assumption) (by assumption) (by first | exact sw1 (by assumption) (by assumption) | exact sw0 (by assumption) (by assumption)) (by omega) (by omega) (by omega) | exact nt_n i2_2 (by first | exact nw1 (by assumption) (by assumption) | exact nw0 (by assumption) (by assumption)) (by omega) (by omega) (by omega) | exact nt_0 (by first | rfl | omega))) (by omega) hP hD hS (lv_sub hl [1, 2, 3, 0] rfl)
          · have dc7 : 1 = ri.toInt := eqC (show (1 : Int32).toInt = 1 from rfl) rfl c7
            refine lv_aload_n hx hb dX4_note_17 rfl (lv_at hl 0 rfl) ?_
            refine va_get (D := (dC, dI)) (ci := 4) (v := .ref pu1) (C := RX4) (T := TX4) (N := 2) hx hb hts inX4 hown hK hP 0 rfl rfl 0 (by decide) lf11 (fun _ h9 => h9) rfl dX4_note_18 ?_
            refine lv_iload_n hx hb dX4_note_21 rfl (lv_at hl 3 rfl) ?_
            refine lv_dup2_11 hx hb dX4_note_22 rfl rfl ?_
            have b9 : vp_in y2_3 81 := inC rfl (by omega) (by omega)
            refine va_iald hx hb hK hP 1 0 rfl rfl b9 dX4_note_23 ?_
            refine lv_iconst (v := 1) hx hb dX4_note_24 (by decide) ?_
            refine lv_iadd hx hb dX4_note_25 ?_
            refine lv_topi (fun x10 ex10 => ?_)
            have ix10 : x10.toInt = ((agr_2 y2_3.toNatClampNeg) + 1).toInt := by rw [ex10]
            have b11 : vp_in y2_3 81 := inC rfl (by omega) (by omega)
            refine va_iast hx hb hK hP hD hS 1 0 rfl rfl b11 dX4_note_26 (fun H locs hP hD hS => ?_)
            obtain ⟨agr_u12, eagr_u12⟩ : ∃ f : Nat → Int32, f = upd agr_2 y2_3.toNatClampNeg x10 := ⟨_, rfl⟩
            have hP : va_P (dC, dI) vwCl (wPup cI cZ cQ pu0 pu1 agr_u12 ans) H := by rw [eagr_u12]; exact hP
            have hD : va_D A (wPup cI cZ cQ pu0 pu1 agr_u12 ans) := by rw [eagr_u12]; exact hD
            obtain ⟨z13, ez13⟩ : ∃ y : Int32, y = y2_3 + 1 := ⟨_, rfl⟩
            have iz13 : z13.toInt = y2_3.toInt + 1 := by rw [ez13]; exact addC rfl rfl (by omega) (by omega)
            refine lv_iinc (v := z13) (lv' := [(3, .int z13), (0, .ref pu0), (1, .int dd), (2, .int ri)]) hx hb dX4_note_27 hl (k := 3) rfl (by rw [ez13]; rfl) (by decide) rfl (fun ls hl => ?_)
            refine lv_goto (tgt := 2) hx hb dX4_note_30 (by decide) ?_
            exact ih2 z13 agr_u12 _ _ _ (by omega) (by omega) (by (first | exact nt_y i2_2 (by assumption) (by assumption) (by first | exact sw1 (by assumption) (by assumption) | exact sw0 (by assumption) (by assumption)) (by omega) (by omega) (by omega) | exact nt_n i2_2 (by first | exact nw1 (by assumption) (by assumption) | exact nw0 (by assumption) (by assumption)) (by omega) (by omega) (by omega) | exact nt_0 (by first | rfl | omega))) (by omega) hP hD hS (lv_sub hl [1, 2, 3, 0] rfl)
        · refine lv_iload_n hx hb dX4_note_13 rfl (lv_at hl 2 rfl) ?_
          refine lv_icmp_ne (tgt := 27) hx hb dX4_note_14 (by decide) (fun c14 => ?_) (fun c14 => ?_)
          · have dc14 : 0 ≠ ri.toInt := neC (show (0 : Int32).toInt = 0 from rfl) rfl c14
            obtain ⟨z15, ez15⟩ : ∃ y : Int32, y = y2_3 + 1 := ⟨_, rfl⟩
            have iz15 : z15.toInt = y2_3.toInt + 1 := by rw [ez15]; exact addC rfl rfl (by omega) (by omega)
            refine lv_iinc (v := z15) (lv' := [(3, .int z15), (0, .ref pu0), (1, .int dd), (2, .int ri)]) hx hb dX4_note_27 hl (k := 3) rfl (by rw [ez15]; rfl) (by decide) rfl (fun ls hl => ?_)
            refine lv_goto (tgt := 2) hx hb dX4_note_30 (by decide) ?_
            exact ih2 z15 agr_2 _ _ _ (by omega) (by omega) (by (first | exact nt_y i2_2 (by assumption) (by assumption) (by first | exact sw1 (by assumption) (by assumption) | exact sw0 (by assumption) (by assumption)) (by omega) (by omega) (by omega) | exact nt_n i2_2 (by first | exact nw1 (by assumption) (by assumption) | exact nw0 (by assumption) (by assumption)) (by omega) (by omega) (by omega) | exact nt_0 (by first | rfl | omega))) (by omega) hP hD hS (lv_sub hl [1, 2, 3, 0] rfl)
          · have dc14 : 0 = ri.toInt := eqC (show (0 : Int32).toInt = 0 from rfl) rfl c14
            refine lv_aload_n hx hb dX4_note_17 rfl (lv_at hl 0 rfl) ?_
            refine va_get (D := (dC, dI)) (ci := 4) (v := .ref pu1) (C := RX4) (T := TX4) (N := 2) hx hb hts inX4 hown hK hP 0 rfl rfl 0 (by decide) lf11 (fun _ h9 => h9) rfl dX4_note_18 ?_
            refine lv_iload_n hx hb dX4_note_21 rfl (lv_at hl 3 rfl) ?_
            refine lv_dup2_11 hx hb dX4_note_22 rfl rfl ?_
            have b16 : vp_in y2_3 81 := inC rfl (by omega) (by omega)
            refine va_iald hx hb hK hP 1 0 rfl rfl b16 dX4_note_23 ?_
            refine lv_iconst (v := 1) hx hb dX4_note_24 (by decide) ?_
            refine lv_iadd hx hb dX4_note_25 ?_
            refine lv_topi (fun x17 ex17 => ?_)
            have ix17 : x17.toInt = ((agr_2 y2_3.toNatClampNeg) + 1).toInt := by rw [ex17]
            have b18 : vp_in y2_3 81 := inC rfl (by omega) (by omega)
            refine va_iast hx hb hK hP hD hS 1 0 rfl rfl b18 dX4_note_26 (fun H locs hP hD hS => ?_)
            obtain ⟨agr_u19, eagr_u19⟩ : ∃ f : Nat → Int32, f = upd agr_2 y2_3.toNatClampNeg x17 := ⟨_, rfl⟩
            have hP : va_P (dC, dI) vwCl (wPup cI cZ cQ pu0 pu1 agr_u19 ans) H := by rw [eagr_u19]; exact hP
            have hD : va_D A (wPup cI cZ cQ pu0 pu1 agr_u19 ans) := by rw [eagr_u19]; exact hD
            obtain ⟨z20, ez20⟩ : ∃ y : Int32, y = y2_3 + 1 := ⟨_, rfl⟩
            have iz20 : z20.toInt = y2_3.toInt + 1 := by rw [ez20]; exact addC rfl rfl (by omega) (by omega)
            refine lv_iinc (v := z20) (lv' := [(3, .int z20), (0, .ref pu0), (1, .int dd), (2, .int ri)]) hx hb dX4_note_27 hl (k := 3) rfl (by rw [ez20]; rfl) (by decide) rfl (fun ls hl => ?_)
            refine lv_goto (tgt := 2) hx hb dX4_note_30 (by decide) ?_
            exact ih2 z20 agr_u19 _ _ _ (by omega) (by omega) (by (first | exact nt_y i2_2 (by assumption) (by assumption) (by first | exact sw1 (by assumption) (by assumption) | exact sw0 (by assumption) (by assumption)) (by omega) (by omega) (by omega) | exact nt_n i2_2 (by first | exact nw1 (by assumption) (by assumption) | exact nw0 (by assumption) (by assumption)) (by omega) (by omega) (by omega) | exact nt_0 (by first | rfl | omega))) (by omega) hP hD hS (lv_sub hl [1, 2, 3, 0] rfl)
  have kc21 : (0 : Int32).toInt = 0 := rfl
  exact L2 _ 0 agr _ _ _ (by omega) (by omega) (by (first | exact nt_y i2_2 (by assumption) (by assumption) (by first | exact sw1 (by assumption) (by assumption) | exact sw0 (by assumption) (by assumption)) (by omega) (by omega) (by omega) | exact nt_n i2_2 (by first | exact nw1 (by assumption) (by assumption) | exact nw0 (by assumption) (by assumption)) (by omega) (by omega) (by omega) | exact nt_0 (by first | rfl | omega))) (Nat.lt_succ_self _) hP hD hS (lv_sub hl [1, 2, 3, 0] rfl)
set_option maxHeartbeats 4000000 in
set_option maxRecDepth 100000 in
theorem k_X4_mayBe2 (l : Launch) (dC : Nat → ClassId) (dI : Nat → Nat → Nat) (cI cZ cQ : ClassId) (pu0 : Nat) (pu1 : Nat) (agr : Nat → Int32) (ans : Int32) (tb : Int32) (r_ans : 0 ≤ ans.toInt ∧ ans.toInt ≤ 12) (q0 : 0 ≤ tb.toInt) (q1 : tb.toInt ≤ 80) : KR l yX4_mayBe wsX4_mayBe { frames := 0, cells := 0, slots := 0, locals := 0 } (dC, dI) (TY cI cZ cQ) (wPup cI cZ cQ pu0 pu1 agr ans) [.ref pu0, .int tb] (fun r : Int32 => ((((r = 1) ∧ (agr tb.toNatClampNeg = ans)) ∨ ((r = 0) ∧ (¬ agr tb.toNatClampNeg = ans))))) := by
  refine Met.ofW (cc := cX4_mayBe) (maxL := 2) (ret := (some .boolean)) (by decide) rfl ?_
  intro p e s m args below meth c s₁ B hml hv
  obtain ⟨rfl, hP, hK, hN⟩ := hv
  have hx := B.exec
  have hb := B.bytes
  have hr := B.returns
  have hts := atoms_spec (ws := wsX4_mayBe) B.pre
  have hown : s.vm.findClass RX4 = some m.cls := findClass_of_methodNamed B.named
  have hlocks := B.notSynchronized
  have lf11 := hts (.fieldLink RX4 11 "PalaceOfRooms$Pupil" "agreement" "[I") (List.mem_cons_of_mem _ (List.mem_append_left _ (List.mem_of_getElem? (i := 0) rfl)))
  have inX4 : ∀ w ∈ wsX40, w ∈ wsX4_mayBe := fun w h => List.mem_cons_of_mem _ (List.mem_append_right _ h)
  have lf19 := hts (.fieldLink RX4 19 "PalaceOfRooms$Pupil" "answers" "I") (List.mem_cons_of_mem _ (List.mem_append_left _ (List.mem_of_getElem? (i := 1) rfl)))
  have hl := lv_entry ([.ref pu0, .int tb]) (n := 2) (Nat.le_of_ble_eq_true rfl)
  rw [lg_entry_eq]
  generalize (lg_sl ([.ref pu0, .int tb]) ++ List.replicate (2 - (lg_sl ([.ref pu0, .int tb])).length) Slot.unset).toArray = ls at hl ⊢
  have hl : lv_has ls 2 [(0, .ref pu0), (1, .int tb)] := hl
  refine lv_aload_n hx hb dX4_mayBe_0 rfl (lv_at hl 0 rfl) ?_
  refine va_get (D := (dC, dI)) (ci := 4) (v := .ref pu1) (C := RX4) (T := TX4) (N := 2) hx hb hts inX4 hown hK hP 0 rfl rfl 0 (by decide) lf11 (fun _ h9 => h9) rfl dX4_mayBe_1 ?_
  refine lv_iload_n hx hb dX4_mayBe_4 rfl (lv_at hl 1 rfl) ?_
  have b1 : vp_in tb 81 := inC rfl (by omega) (by omega)
  refine va_iald hx hb hK hP 1 0 rfl rfl b1 dX4_mayBe_5 ?_
  refine lv_aload_n hx hb dX4_mayBe_6 rfl (lv_at hl 0 rfl) ?_
  refine va_get (D := (dC, dI)) (ci := 4) (v := .int ans) (C := RX4) (T := TX4) (N := 2) hx hb hts inX4 hown hK hP 0 rfl rfl 1 (by decide) lf19 (fun _ h9 => h9) rfl dX4_mayBe_7 ?_
  refine lv_icmp_ne (tgt := 17) hx hb dX4_mayBe_10 (by decide) (fun c2 => ?_) (fun c2 => ?_)
  · have dc2 : (agr tb.toNatClampNeg).toInt ≠ ans.toInt := neC rfl rfl c2
    refine lv_iconst (v := 0) hx hb dX4_mayBe_17 (by decide) ?_
    exact W.zret (v := 0) hx hb hr (by decide) (fun tq ht hW => ⟨0, rfl, (Or.inr (⟨rfl, (show ¬ agr tb.toNatClampNeg = ans from by (try rw [show (0 : Int32).toInt = 0 from (show (0 : Int32).toInt = 0 from rfl)]); assumption)⟩)), ht⟩) (fun q h => by cases h) dX4_mayBe_18
  · have dc2 : (agr tb.toNatClampNeg).toInt = ans.toInt := eqC rfl rfl c2
    refine lv_iconst (v := 1) hx hb dX4_mayBe_13 (by decide) ?_
    refine lv_goto (tgt := 18) hx hb dX4_mayBe_14 (by decide) ?_
    exact W.zret (v := 1) hx hb hr (by decide) (fun tq ht hW => ⟨1, rfl, (Or.inl (⟨rfl, (show agr tb.toNatClampNeg = ans from by (try rw [show (1 : Int32).toInt = 1 from (show (1 : Int32).toInt = 1 from rfl)]); assumption)⟩)), ht⟩) (fun q h => by cases h) dX4_mayBe_18
set_option maxHeartbeats 4000000 in
set_option maxRecDepth 100000 in
theorem k_X4_tablesThatMayBe2 (l : Launch) (dC : Nat → ClassId) (dI : Nat → Nat → Nat) (cI cZ cQ : ClassId) (pu0 : Nat) (pu1 : Nat) (agr : Nat → Int32) (ans : Int32) (r_ans : 0 ≤ ans.toInt ∧ ans.toInt ≤ 12) : KR l yX4_tablesThatMayBe wsX4_tablesThatMayBe { frames := 1, cells := 0, slots := 0, locals := 21 } (dC, dI) (TY cI cZ cQ) (wPup cI cZ cQ pu0 pu1 agr ans) [.ref pu0] (fun r : Int32 => (0 ≤ r.toInt) ∧ (r.toInt ≤ 81) ∧ (r.toInt = mayF agr ans 81)) := by
  refine Met.ofW (cc := cX4_tablesThatMayBe) (maxL := 3) (ret := (some .int)) (by decide) rfl ?_
  intro p e s m args below meth c s₁ B hml hv
  obtain ⟨rfl, hP, hK, hN⟩ := hv
  have hx := B.exec
  have hb := B.bytes
  have hr := B.returns
  have hts := atoms_spec (ws := wsX4_tablesThatMayBe) B.pre
  have hown : s.vm.findClass RX4 = some m.cls := findClass_of_methodNamed B.named
  have hlocks := B.notSynchronized
  have hl := lv_entry ([.ref pu0]) (n := 3) (Nat.le_of_ble_eq_true rfl)
  rw [lg_entry_eq]
  generalize (lg_sl ([.ref pu0]) ++ List.replicate (3 - (lg_sl ([.ref pu0])).length) Slot.unset).toArray = ls at hl ⊢
  have hl : lv_has ls 3 [(0, .ref pu0)] := hl
  refine lv_iconst (v := 0) hx hb dX4_tablesThatMayBe_0 (by decide) ?_
  refine lv_istore_n (lv' := [(1, .int 0), (0, .ref pu0)]) hx hb dX4_tablesThatMayBe_1 rfl hl (by decide) rfl (fun ls hl => ?_)
  refine lv_iconst (v := 0) hx hb dX4_tablesThatMayBe_2 (by decide) ?_
  refine lv_istore_n (lv' := [(2, .int 0), (1, .int 0), (0, .ref pu0)]) hx hb dX4_tablesThatMayBe_3 rfl hl (by decide) rfl (fun ls hl => ?_)
  have L4 : ∀ (nn : Nat) (y4_1 : Int32) (y4_2 : Int32) (ls : Array Slot), (0 ≤ (y4_2.toInt)) → ((y4_2.toInt) ≤ 81) → (0 ≤ (y4_1.toInt)) → ((y4_1.toInt) ≤ 81) → ((y4_1.toInt) ≤ (y4_2.toInt)) → ((y4_1.toInt) = mayF agr ans ((y4_2.toInt)).toNat) → (81 - (y4_2.toInt)).toNat < nn → lv_has ls 3 [(0, .ref pu0), (1, .int y4_1), (2, .int y4_2)] → W p l e (headSpec wsX4_tablesThatMayBe { frames := 1, cells := 0, slots := 0, locals := 21 }).room s m ([.ref pu0] : List Value).toArray below meth c s.heap [] 0 0 (MQ below (QR (fun r : Int32 => (0 ≤ r.toInt) ∧ (r.toInt ≤ 81) ∧ (r.toInt = mayF agr ans 81))) ([.ref pu0] : List Value).toArray s 0 0 (fun _ => False)) (F0 m 4 ls []) := by
    intro nn
    induction nn with
    | zero =>
      intro y4_1 y4_2 ls i4_0 i4_1 i4_2 i4_3 i4_4 i4_5 hm4
      exact absurd hm4 (Nat.not_lt_zero _)
    | succ nn ih4 =>
      intro y4_1 y4_2 ls i4_0 i4_1 i4_2 i4_3 i4_4 i4_5 hm4 hl
      refine lv_iload_n hx hb dX4_tablesThatMayBe_4 rfl (lv_at hl 2 rfl) ?_
      refine lv_bipush (v := 81) hx hb dX4_tablesThatMayBe_5 (by decide) ?_
      refine lv_icmp_ge (tgt := 27) hx hb dX4_tablesThatMayBe_7 (by decide) (fun c1 => ?_) (fun c1 => ?_)
      · have dc1 : 81 ≤ y4_2.toInt := leC (show (81 : Int32).toInt = 81 from rfl) rfl c1
        refine lv_iload_n hx hb dX4_tablesThatMayBe_27 rfl (lv_at hl 1 rfl) ?_
        exact W.iret (v := y4_1) hx hb hr (fun tq ht hW => ⟨y4_1, rfl, ⟨(show 0 ≤ y4_1.toInt from by omega), (show y4_1.toInt ≤ 81 from by omega), (show y4_1.toInt = mayF agr ans 81 from by exact my_e i4_5 (by omega))⟩, ht⟩) (fun q h => by cases h) dX4_tablesThatMayBe_28
      · have dc1 : y4_2.toInt < 81 := nleC (show (81 : Int32).toInt = 81 from rfl) rfl c1
        refine lv_aload_n hx hb dX4_tablesThatMayBe_10 rfl (lv_at hl 0 rfl) ?_
        refine lv_iload_n hx hb dX4_tablesThatMayBe_11 rfl (lv_at hl 2 rfl) ?_
        refine rdV (As := [.int y4_2]) (rest := []) ⟨hx, hb, hml, hown, hts⟩ (k_X4_mayBe2 l dC dI cI cZ cQ pu0 pu1 agr ans y4_2 r_ans (by omega) (by omega)) (cwV 1 hts gX4_tablesThatMayBe_X4_mayBe rfl rfl rfl (by decide +kernel) ⟨Nat.le_of_ble_eq_true rfl, Nat.le_of_ble_eq_true rfl⟩) hP hK hN [0, 1] rfl 0 4 rfl rfl rfl hl.1 rfl (Nat.le_of_ble_eq_true rfl) dX4_tablesThatMayBe_12 ⟨Nat.le_of_ble_eq_true rfl, Nat.le_of_ble_eq_true rfl⟩ (fun r2 h3 => ?_)
        have h3 : ((((r2 = 1) ∧ (agr y4_2.toNatClampNeg = ans)) ∨ ((r2 = 0) ∧ (¬ agr y4_2.toNatClampNeg = ans)))) := h3
        rcases h3 with (⟨rfl, h3_a0⟩ | ⟨rfl, h3_a0⟩)
        · refine lv_if_eq (tgt := 21) hx hb dX4_tablesThatMayBe_15 (by decide) (fun c9 => absurd c9 (by decide)) (fun _ => ?_)
          obtain ⟨z4, ez4⟩ : ∃ y : Int32, y = y4_1 + 1 := ⟨_, rfl⟩
          have iz4 : z4.toInt = y4_1.toInt + 1 := by rw [ez4]; exact addC rfl rfl (by omega) (by omega)
          refine lv_iinc (v := z4) (lv' := [(1, .int z4), (0, .ref pu0), (2, .int y4_2)]) hx hb dX4_tablesThatMayBe_18 hl (k := 1) rfl (by rw [ez4]; rfl) (by decide) rfl (fun ls hl => ?_)
          obtain ⟨z5, ez5⟩ : ∃ y : Int32, y = y4_2 + 1 := ⟨_, rfl⟩
          have iz5 : z5.toInt = y4_2.toInt + 1 := by rw [ez5]; exact addC rfl rfl (by omega) (by omega)
          refine lv_iinc (v := z5) (lv' := [(2, .int z5), (1, .int z4), (0, .ref pu0)]) hx hb dX4_tablesThatMayBe_21 hl (k := 2) rfl (by rw [ez5]; rfl) (by decide) rfl (fun ls hl => ?_)
          refine lv_goto (tgt := 4) hx hb dX4_tablesThatMayBe_24 (by decide) ?_
          exact ih4 z4 z5 _ (by omega) (by omega) (by omega) (by omega) (by omega) (by (first | exact my_s (o := y4_2) i4_5 (by first | exact clC (x := y4_2) rfl | (rw [clC (x := y4_2) rfl]; omega)) (by first | exact Or.inl ⟨by assumption, by omega⟩ | exact Or.inr ⟨by assumption, by first | rfl | omega⟩) (by omega) | exact my_0 (by first | rfl | omega) (by first | rfl | omega))) (by omega) (lv_sub hl [2, 1, 0] rfl)
        · refine lv_if_eq (tgt := 21) hx hb dX4_tablesThatMayBe_15 (by decide) (fun _ => ?_) (fun c9 => absurd (by decide) c9)
          obtain ⟨z6, ez6⟩ : ∃ y : Int32, y = y4_2 + 1 := ⟨_, rfl⟩
          have iz6 : z6.toInt = y4_2.toInt + 1 := by rw [ez6]; exact addC rfl rfl (by omega) (by omega)
          refine lv_iinc (v := z6) (lv' := [(2, .int z6), (0, .ref pu0), (1, .int y4_1)]) hx hb dX4_tablesThatMayBe_21 hl (k := 2) rfl (by rw [ez6]; rfl) (by decide) rfl (fun ls hl => ?_)
          refine lv_goto (tgt := 4) hx hb dX4_tablesThatMayBe_24 (by decide) ?_
          exact ih4 y4_1 z6 _ (by omega) (by omega) (by omega) (by omega) (by omega) (by (first | exact my_s (o := y4_2) i4_5 (by first | exact clC (x := y4_2) rfl | (rw [clC (x := y4_2) rfl]; omega)) (by first | exact Or.inl ⟨by assumption, by omega⟩ | exact Or.inr ⟨by assumption, by first | rfl | omega⟩) (by omega) | exact my_0 (by first | rfl | omega) (by first | rfl | omega))) (by omega) (lv_sub hl [1, 2, 0] rfl)
  have kc7 : (0 : Int32).toInt = 0 := rfl
  exact L4 _ 0 0 _ (by omega) (by omega) (by omega) (by omega) (by omega) (by (first | exact my_s (o := y4_2) i4_5 (by first | exact clC (x := y4_2) rfl | (rw [clC (x := y4_2) rfl]; omega)) (by first | exact Or.inl ⟨by assumption, by omega⟩ | exact Or.inr ⟨by assumption, by first | rfl | omega⟩) (by omega) | exact my_0 (by first | rfl | omega) (by first | rfl | omega))) (Nat.lt_succ_self _) (lv_sub hl [2, 1, 0] rfl)
set_option maxHeartbeats 4000000 in
set_option maxRecDepth 100000 in
theorem k_X4_likeliest2 (l : Launch) (dC : Nat → ClassId) (dI : Nat → Nat → Nat) (cI cZ cQ : ClassId) (pu0 : Nat) (pu1 : Nat) (agr : Nat → Int32) (ans : Int32) (r_ans : 0 ≤ ans.toInt ∧ ans.toInt ≤ 12) : KR l yX4_likeliest wsX4_likeliest { frames := 0, cells := 0, slots := 0, locals := 0 } (dC, dI) (TY cI cZ cQ) (wPup cI cZ cQ pu0 pu1 agr ans) [.ref pu0] (fun r : Int32 => (0 ≤ r.toInt) ∧ (r.toInt ≤ 80) ∧ (r.toInt = ((lkF agr 80 : Nat) : Int))) := by
  refine Met.ofW (cc := cX4_likeliest) (maxL := 3) (ret := (some .int)) (by decide) rfl ?_
  intro p e s m args below meth c s₁ B hml hv
  obtain ⟨rfl, hP, hK, hN⟩ := hv
  have hx := B.exec
  have hb := B.bytes
  have hr := B.returns
  have hts := atoms_spec (ws := wsX4_likeliest) B.pre
  have hown : s.vm.findClass RX4 = some m.cls := findClass_of_methodNamed B.named
  have hlocks := B.notSynchronized
  have lf11 := hts (.fieldLink RX4 11 "PalaceOfRooms$Pupil" "agreement" "[I") (List.mem_cons_of_mem _ (List.mem_append_left _ (List.mem_of_getElem? (i := 0) rfl)))
  have inX4 : ∀ w ∈ wsX40, w ∈ wsX4_likeliest := fun w h => List.mem_cons_of_mem _ (List.mem_append_right _ h)
  have hl := lv_entry ([.ref pu0]) (n := 3) (Nat.le_of_ble_eq_true rfl)
  rw [lg_entry_eq]
  generalize (lg_sl ([.ref pu0]) ++ List.replicate (3 - (lg_sl ([.ref pu0])).length) Slot.unset).toArray = ls at hl ⊢
  have hl : lv_has ls 3 [(0, .ref pu0)] := hl
  refine lv_iconst (v := 0) hx hb dX4_likeliest_0 (by decide) ?_
  refine lv_istore_n (lv' := [(1, .int 0), (0, .ref pu0)]) hx hb dX4_likeliest_1 rfl hl (by decide) rfl (fun ls hl => ?_)
  refine lv_iconst (v := 1) hx hb dX4_likeliest_2 (by decide) ?_
  refine lv_istore_n (lv' := [(2, .int 1), (1, .int 0), (0, .ref pu0)]) hx hb dX4_likeliest_3 rfl hl (by decide) rfl (fun ls hl => ?_)
  have L4 : ∀ (nn : Nat) (y4_1 : Int32) (y4_2 : Int32) (ls : Array Slot), (1 ≤ (y4_2.toInt)) → ((y4_2.toInt) ≤ 81) → (0 ≤ (y4_1.toInt)) → ((y4_1.toInt) ≤ 80) → ((y4_1.toInt) = ((lkF agr ((y4_2.toInt) - 1).toNat : Nat) : Int)) → (81 - (y4_2.toInt)).toNat < nn → lv_has ls 3 [(0, .ref pu0), (1, .int y4_1), (2, .int y4_2)] → W p l e (headSpec wsX4_likeliest { frames := 0, cells := 0, slots := 0, locals := 0 }).room s m ([.ref pu0] : List Value).toArray below meth c s.heap [] 0 0 (MQ below (QR (fun r : Int32 => (0 ≤ r.toInt) ∧ (r.toInt ≤ 80) ∧ (r.toInt = ((lkF agr 80 : Nat) : Int)))) ([.ref pu0] : List Value).toArray s 0 0 (fun _ => False)) (F0 m 4 ls []) := by
    intro nn
    induction nn with
    | zero =>
      intro y4_1 y4_2 ls i4_0 i4_1 i4_2 i4_3 i4_4 hm4
      exact absurd hm4 (Nat.not_lt_zero _)
    | succ nn ih4 =>
      intro y4_1 y4_2 ls i4_0 i4_1 i4_2 i4_3 i4_4 hm4 hl
      refine lv_iload_n hx hb dX4_likeliest_4 rfl (lv_at hl 2 rfl) ?_
      refine lv_bipush (v := 81) hx hb dX4_likeliest_5 (by decide) ?_
      refine lv_icmp_ge (tgt := 33) hx hb dX4_likeliest_7 (by decide) (fun c1 => ?_) (fun c1 => ?_)
      · have dc1 : 81 ≤ y4_2.toInt := leC (show (81 : Int32).toInt = 81 from rfl) rfl c1
        refine lv_iload_n hx hb dX4_likeliest_33 rfl (lv_at hl 1 rfl) ?_
        exact W.iret (v := y4_1) hx hb hr (fun tq ht hW => ⟨y4_1, rfl, ⟨(show 0 ≤ y4_1.toInt from by omega), (show y4_1.toInt ≤ 80 from by omega), (show y4_1.toInt = ((lkF agr 80 : Nat) : Int) from by exact lk_e i4_4 (by omega))⟩, ht⟩) (fun q h => by cases h) dX4_likeliest_34
      · have dc1 : y4_2.toInt < 81 := nleC (show (81 : Int32).toInt = 81 from rfl) rfl c1
        refine lv_aload_n hx hb dX4_likeliest_10 rfl (lv_at hl 0 rfl) ?_
        refine va_get (D := (dC, dI)) (ci := 4) (v := .ref pu1) (C := RX4) (T := TX4) (N := 2) hx hb hts inX4 hown hK hP 0 rfl rfl 0 (by decide) lf11 (fun _ h9 => h9) rfl dX4_likeliest_11 ?_
        refine lv_iload_n hx hb dX4_likeliest_14 rfl (lv_at hl 2 rfl) ?_
        have b2 : vp_in y4_2 81 := inC rfl (by omega) (by omega)
        refine va_iald hx hb hK hP 1 0 rfl rfl b2 dX4_likeliest_15 ?_
        refine lv_aload_n hx hb dX4_likeliest_16 rfl (lv_at hl 0 rfl) ?_
        refine va_get (D := (dC, dI)) (ci := 4) (v := .ref pu1) (C := RX4) (T := TX4) (N := 2) hx hb hts inX4 hown hK hP 0 rfl rfl 0 (by decide) lf11 (fun _ h9 => h9) rfl dX4_likeliest_17 ?_
        refine lv_iload_n hx hb dX4_likeliest_20 rfl (lv_at hl 1 rfl) ?_
        have b3 : vp_in y4_1 81 := inC rfl (by omega) (by omega)
        refine va_iald hx hb hK hP 1 0 rfl rfl b3 dX4_likeliest_21 ?_
        refine lv_icmp_le (tgt := 27) hx hb dX4_likeliest_22 (by decide) (fun c4 => ?_) (fun c4 => ?_)
        · have dc4 : (agr y4_2.toNatClampNeg).toInt ≤ (agr y4_1.toNatClampNeg).toInt := leC rfl rfl c4
          obtain ⟨z5, ez5⟩ : ∃ y : Int32, y = y4_2 + 1 := ⟨_, rfl⟩
          have iz5 : z5.toInt = y4_2.toInt + 1 := by rw [ez5]; exact addC rfl rfl (by omega) (by omega)
          refine lv_iinc (v := z5) (lv' := [(2, .int z5), (0, .ref pu0), (1, .int y4_1)]) hx hb dX4_likeliest_27 hl (k := 2) rfl (by rw [ez5]; rfl) (by decide) rfl (fun ls hl => ?_)
          refine lv_goto (tgt := 4) hx hb dX4_likeliest_30 (by decide) ?_
          exact ih4 y4_1 z5 _ (by omega) (by omega) (by omega) (by omega) (by (first | exact lk_y i4_4 (by omega) (by omega) (by omega) | exact lk_n (y := y4_2) i4_4 (by omega) (by omega) (by omega) | exact lk_0 (by first | rfl | omega) (by first | rfl | omega))) (by omega) (lv_sub hl [1, 2, 0] rfl)
        · have dc4 : (agr y4_1.toNatClampNeg).toInt < (agr y4_2.toNatClampNeg).toInt := nleC rfl rfl c4
          refine lv_iload_n hx hb dX4_likeliest_25 rfl (lv_at hl 2 rfl) ?_
          refine lv_istore_n (lv' := [(1, .int y4_2), (0, .ref pu0), (2, .int y4_2)]) hx hb dX4_likeliest_26 rfl hl (by decide) rfl (fun ls hl => ?_)
          obtain ⟨z6, ez6⟩ : ∃ y : Int32, y = y4_2 + 1 := ⟨_, rfl⟩
          have iz6 : z6.toInt = y4_2.toInt + 1 := by rw [ez6]; exact addC rfl rfl (by omega) (by omega)
          refine lv_iinc (v := z6) (lv' := [(2, .int z6), (1, .int y4_2), (0, .ref pu0)]) hx hb dX4_likeliest_27 hl (k := 2) rfl (by rw [ez6]; rfl) (by decide) rfl (fun ls hl => ?_)
          refine lv_goto (tgt := 4) hx hb dX4_likeliest_30 (by decide) ?_
          exact ih4 y4_2 z6 _ (by omega) (by omega) (by omega) (by omega) (by (first | exact lk_y i4_4 (by omega) (by omega) (by omega) | exact lk_n (y := y4_2) i4_4 (by omega) (by omega) (by omega) | exact lk_0 (by first | rfl | omega) (by first | rfl | omega))) (by omega) (lv_sub hl [2, 1, 0] rfl)
  have kc7 : (0 : Int32).toInt = 0 := rfl
  have kc8 : (1 : Int32).toInt = 1 := rfl
  exact L4 _ 0 1 _ (by omega) (by omega) (by omega) (by omega) (by (first | exact lk_y i4_4 (by omega) (by omega) (by omega) | exact lk_n (y := y4_2) i4_4 (by omega) (by omega) (by omega) | exact lk_0 (by first | rfl | omega) (by first | rfl | omega))) (Nat.lt_succ_self _) (lv_sub hl [2, 1, 0] rfl)
set_option maxHeartbeats 4000000 in
set_option maxRecDepth 100000 in
theorem k_X4_nameOfLikeliest2 (l : Launch) (dC : Nat → ClassId) (dI : Nat → Nat → Nat) (cI cZ cQ : ClassId) (pu0 : Nat) (pu1 : Nat) (agr : Nat → Int32) (ans : Int32) (r_ans : 0 ≤ ans.toInt ∧ ans.toInt ≤ 12) : KR l yX4_nameOfLikeliest wsX4_nameOfLikeliest { frames := 1, cells := 0, slots := 0, locals := 22 } (dC, dI) (TY cI cZ cQ) (wPup cI cZ cQ pu0 pu1 agr ans) [.ref pu0] (fun r : Int32 => (r.toInt = nmL (lkF agr 80))) := by
  refine Met.ofW (cc := cX4_nameOfLikeliest) (maxL := 2) (ret := (some .int)) (by decide) rfl ?_
  intro p e s m args below meth c s₁ B hml hv
  obtain ⟨rfl, hP, hK, hN⟩ := hv
  have hx := B.exec
  have hb := B.bytes
  have hr := B.returns
  have hts := atoms_spec (ws := wsX4_nameOfLikeliest) B.pre
  have hown : s.vm.findClass RX4 = some m.cls := findClass_of_methodNamed B.named
  have hlocks := B.notSynchronized
  have hl := lv_entry ([.ref pu0]) (n := 2) (Nat.le_of_ble_eq_true rfl)
  rw [lg_entry_eq]
  generalize (lg_sl ([.ref pu0]) ++ List.replicate (2 - (lg_sl ([.ref pu0])).length) Slot.unset).toArray = ls at hl ⊢
  have hl : lv_has ls 2 [(0, .ref pu0)] := hl
  refine lv_aload_n hx hb dX4_nameOfLikeliest_0 rfl (lv_at hl 0 rfl) ?_
  refine rdV (As := []) (rest := []) ⟨hx, hb, hml, hown, hts⟩ (k_X4_likeliest2 l dC dI cI cZ cQ pu0 pu1 agr ans r_ans) (cwV 0 hts gX4_nameOfLikeliest_X4_likeliest rfl rfl rfl (by decide +kernel) ⟨Nat.le_of_ble_eq_true rfl, Nat.le_of_ble_eq_true rfl⟩) hP hK hN [0, 1] rfl 0 4 rfl rfl rfl hl.1 rfl (Nat.le_of_ble_eq_true rfl) dX4_nameOfLikeliest_1 ⟨Nat.le_of_ble_eq_true rfl, Nat.le_of_ble_eq_true rfl⟩ (fun r1 h2 => ?_)
  have h2 : (0 ≤ r1.toInt) ∧ (r1.toInt ≤ 80) ∧ (r1.toInt = ((lkF agr 80 : Nat) : Int)) := h2
  obtain ⟨h2_0, h2_1, h2_2⟩ := h2
  refine lv_istore_n (lv' := [(1, .int r1), (0, .ref pu0)]) hx hb dX4_nameOfLikeliest_4 rfl hl (by decide) rfl (fun ls hl => ?_)
  refine lv_bipush (v := 100) hx hb dX4_nameOfLikeliest_5 (by decide) ?_
  refine lv_iload_n hx hb dX4_nameOfLikeliest_7 rfl (lv_at hl 0 rfl) ?_
  refine rdS (As := [.int r1]) (rest := [.int 100]) ⟨hx, hb, hml, hown, hts⟩ (k_X4_lossOf2 l dC dI cI cZ cQ r1 (by omega) (by omega)) (va_cwS 1 hts gX4_nameOfLikeliest_X4_lossOf rfl rfl rfl (by decide +kernel) ⟨Nat.le_of_ble_eq_true rfl, Nat.le_of_ble_eq_true rfl⟩) hP hK hN [] rfl rfl hl.1 rfl (Nat.le_of_ble_eq_true rfl) dX4_nameOfLikeliest_8 ⟨Nat.le_of_ble_eq_true rfl, Nat.le_of_ble_eq_true rfl⟩ (fun r3 h4 => ?_)
  have h4 : (1 ≤ r3.toInt) ∧ (r3.toInt ≤ 9) ∧ (r3 = r1 / 9 + 1) ∧ (r3.toInt = r1.toInt / 9 + 1) := h4
  obtain ⟨h4_0, h4_1, h4_2, h4_3⟩ := h4
  refine lv_imul hx hb dX4_nameOfLikeliest_11 ?_
  have f5 : (100 * r3).toInt = (100) * (r3.toInt) := mulC (show (100 : Int32).toInt = 100 from rfl) rfl (by omega) (by omega)
  refine lv_iload_n hx hb dX4_nameOfLikeliest_12 rfl (lv_at hl 0 rfl) ?_
  refine rdS (As := [.int r1]) (rest := [.int (100 * r3)]) ⟨hx, hb, hml, hown, hts⟩ (k_X4_limitOf2 l dC dI cI cZ cQ r1 (by omega) (by omega)) (va_cwS 1 hts gX4_nameOfLikeliest_X4_limitOf rfl rfl rfl (by decide +kernel) ⟨Nat.le_of_ble_eq_true rfl, Nat.le_of_ble_eq_true rfl⟩) hP hK hN [] rfl rfl hl.1 rfl (Nat.le_of_ble_eq_true rfl) dX4_nameOfLikeliest_13 ⟨Nat.le_of_ble_eq_true rfl, Nat.le_of_ble_eq_true rfl⟩ (fun r6 h7 => ?_)
  have h7 : (10 ≤ r6.toInt) ∧ (r6.toInt ≤ 90) ∧ (r6 = (r1 - r1 / 9 * 9 + 1) * 10) ∧ (r6.toInt = (r1.toInt % 9 + 1) * 10) := h7
  obtain ⟨h7_0, h7_1, h7_2, h7_3⟩ := h7
  refine lv_iadd hx hb dX4_nameOfLikeliest_16 ?_
  have f8 : ((100 * r3) + r6).toInt = ((100) * (r3.toInt)) + (r6.toInt) := addC f5 rfl (by omega) (by omega)
  exact W.iret (v := (100 * r3) + r6) hx hb hr (fun tq ht hW => ⟨(100 * r3) + r6, rfl, (show ((100 * r3) + r6).toInt = nmL (lkF agr 80) from by (try rw [show ((100 * r3) + r6).toInt = ((100) * (r3.toInt)) + (r6.toInt) from f8]); (unfold nmL; omega)), ht⟩) (fun q h => by cases h) dX4_nameOfLikeliest_17
set_option maxHeartbeats 4000000 in
set_option maxRecDepth 100000 in
theorem k_X4_agreementOfLikeliest2 (l : Launch) (dC : Nat → ClassId) (dI : Nat → Nat → Nat) (cI cZ cQ : ClassId) (pu0 : Nat) (pu1 : Nat) (agr : Nat → Int32) (ans : Int32) (r_ans : 0 ≤ ans.toInt ∧ ans.toInt ≤ 12) : KR l yX4_agreementOfLikeliest wsX4_agreementOfLikeliest { frames := 1, cells := 0, slots := 0, locals := 22 } (dC, dI) (TY cI cZ cQ) (wPup cI cZ cQ pu0 pu1 agr ans) [.ref pu0] (fun r : Int32 => (r = agr (lkF agr 80))) := by
  refine Met.ofW (cc := cX4_agreementOfLikeliest) (maxL := 1) (ret := (some .int)) (by decide) rfl ?_
  intro p e s m args below meth c s₁ B hml hv
  obtain ⟨rfl, hP, hK, hN⟩ := hv
  have hx := B.exec
  have hb := B.bytes
  have hr := B.returns
  have hts := atoms_spec (ws := wsX4_agreementOfLikeliest) B.pre
  have hown : s.vm.findClass RX4 = some m.cls := findClass_of_methodNamed B.named
  have hlocks := B.notSynchronized
  have lf11 := hts (.fieldLink RX4 11 "PalaceOfRooms$Pupil" "agreement" "[I") (List.mem_cons_of_mem _ (List.mem_append_left _ (List.mem_of_getElem? (i := 0) rfl)))
  have inX4 : ∀ w ∈ wsX40, w ∈ wsX4_agreementOfLikeliest := fun w h => List.mem_cons_of_mem _ (List.mem_append_right _ h)
  have hl := lv_entry ([.ref pu0]) (n := 1) (Nat.le_of_ble_eq_true rfl)
  rw [lg_entry_eq]
  generalize (lg_sl ([.ref pu0]) ++ List.replicate (1 - (lg_sl ([.ref pu0])).length) Slot.unset).toArray = ls at hl ⊢
  have hl : lv_has ls 1 [(0, .ref pu0)] := hl
  refine lv_aload_n hx hb dX4_agreementOfLikeliest_0 rfl (lv_at hl 0 rfl) ?_
  refine va_get (D := (dC, dI)) (ci := 4) (v := .ref pu1) (C := RX4) (T := TX4) (N := 2) hx hb hts inX4 hown hK hP 0 rfl rfl 0 (by decide) lf11 (fun _ h9 => h9) rfl dX4_agreementOfLikeliest_1 ?_
  refine lv_aload_n hx hb dX4_agreementOfLikeliest_4 rfl (lv_at hl 0 rfl) ?_
  refine rdV (As := []) (rest := [.ref pu1]) ⟨hx, hb, hml, hown, hts⟩ (k_X4_likeliest2 l dC dI cI cZ cQ pu0 pu1 agr ans r_ans) (cwV 0 hts gX4_agreementOfLikeliest_X4_likeliest rfl rfl rfl (by decide +kernel) ⟨Nat.le_of_ble_eq_true rfl, Nat.le_of_ble_eq_true rfl⟩) hP hK hN [0, 1] rfl 0 4 rfl rfl rfl hl.1 rfl (Nat.le_of_ble_eq_true rfl) dX4_agreementOfLikeliest_5 ⟨Nat.le_of_ble_eq_true rfl, Nat.le_of_ble_eq_true rfl⟩ (fun r1 h2 => ?_)
  have h2 : (0 ≤ r1.toInt) ∧ (r1.toInt ≤ 80) ∧ (r1.toInt = ((lkF agr 80 : Nat) : Int)) := h2
  obtain ⟨h2_0, h2_1, h2_2⟩ := h2
  have b3 : vp_in r1 81 := inC rfl (by omega) (by omega)
  refine va_iald hx hb hK hP 1 0 rfl rfl b3 dX4_agreementOfLikeliest_8 ?_
  exact W.iret (v := agr r1.toNatClampNeg) hx hb hr (fun tq ht hW => ⟨agr r1.toNatClampNeg, rfl, (show (agr r1.toNatClampNeg) = agr (lkF agr 80) from by exact ag_at (by assumption)), ht⟩) (fun q h => by cases h) dX4_agreementOfLikeliest_9
set_option maxHeartbeats 4000000 in
set_option maxRecDepth 100000 in
theorem k_X4_unlikeness2 (l : Launch) (dC : Nat → ClassId) (dI : Nat → Nat → Nat) (cI cZ cQ : ClassId) (pu0 : Nat) (pu1 : Nat) (agr : Nat → Int32) (ans : Int32) (dd : Int32) (r_ans : 0 ≤ ans.toInt ∧ ans.toInt ≤ 12) (q0 : 1 ≤ dd.toInt) (q1 : dd.toInt ≤ 60) : KR l yX4_unlikeness wsX4_unlikeness { frames := 2, cells := 0, slots := 0, locals := 41 } (dC, dI) (TY cI cZ cQ) (wPup cI cZ cQ pu0 pu1 agr ans) [.ref pu0, .int dd] (fun r : Int32 => (r.toInt = ofF agr ans dd) ∧ (0 ≤ r.toInt) ∧ (r.toInt ≤ 81)) := by
  refine Met.ofW (cc := cX4_unlikeness) (maxL := 4) (ret := (some .int)) (by decide) rfl ?_
  intro p e s m args below meth c s₁ B hml hv
  obtain ⟨rfl, hP, hK, hN⟩ := hv
  have hx := B.exec
  have hb := B.bytes
  have hr := B.returns
  have hts := atoms_spec (ws := wsX4_unlikeness) B.pre
  have hown : s.vm.findClass RX4 = some m.cls := findClass_of_methodNamed B.named
  have hlocks := B.notSynchronized
  have hl := lv_entry ([.ref pu0, .int dd]) (n := 4) (Nat.le_of_ble_eq_true rfl)
  rw [lg_entry_eq]
  generalize (lg_sl ([.ref pu0, .int dd]) ++ List.replicate (4 - (lg_sl ([.ref pu0, .int dd])).length) Slot.unset).toArray = ls at hl ⊢
  have hl : lv_has ls 4 [(0, .ref pu0), (1, .int dd)] := hl
  refine lv_iconst (v := 0) hx hb dX4_unlikeness_0 (by decide) ?_
  refine lv_istore_n (lv' := [(2, .int 0), (0, .ref pu0), (1, .int dd)]) hx hb dX4_unlikeness_1 rfl hl (by decide) rfl (fun ls hl => ?_)
  refine lv_iconst (v := 0) hx hb dX4_unlikeness_2 (by decide) ?_
  refine lv_istore_n (lv' := [(3, .int 0), (2, .int 0), (0, .ref pu0), (1, .int dd)]) hx hb dX4_unlikeness_3 rfl hl (by decide) rfl (fun ls hl => ?_)
  have L4 : ∀ (nn : Nat) (y4_2 : Int32) (y4_3 : Int32) (ls : Array Slot), (0 ≤ (y4_3.toInt)) → ((y4_3.toInt) ≤ 81) → (-81 ≤ (y4_2.toInt)) → ((y4_2.toInt) ≤ 81) → (0 - (y4_3.toInt) ≤ (y4_2.toInt)) → ((y4_2.toInt) ≤ (y4_3.toInt)) → ((y4_2.toInt) = unF agr ans dd ((y4_3.toInt)).toNat) → (81 - (y4_3.toInt)).toNat < nn → lv_has ls 4 [(0, .ref pu0), (1, .int dd), (2, .int y4_2), (3, .int y4_3)] → W p l e (headSpec wsX4_unlikeness { frames := 2, cells := 0, slots := 0, locals := 41 }).room s m ([.ref pu0, .int dd] : List Value).toArray below meth c s.heap [] 0 0 (MQ below (QR (fun r : Int32 => (r.toInt = ofF agr ans dd) ∧ (0 ≤ r.toInt) ∧ (r.toInt ≤ 81))) ([.ref pu0, .int dd] : List Value).toArray s 0 0 (fun _ => False)) (F0 m 4 ls []) := by
    intro nn
    induction nn with
    | zero =>
      intro y4_2 y4_3 ls i4_0 i4_1 i4_2 i4_3 i4_4 i4_5 i4_6 hm4
      exact absurd hm4 (Nat.not_lt_zero _)
    | succ nn ih4 =>
      intro y4_2 y4_3 ls i4_0 i4_1 i4_2 i4_3 i4_4 i4_5 i4_6 hm4 hl
      refine lv_iload_n hx hb dX4_unlikeness_4 rfl (lv_at hl 3 rfl) ?_
      refine lv_bipush (v := 81) hx hb dX4_unlikeness_5 (by decide) ?_
      refine lv_icmp_ge (tgt := 40) hx hb dX4_unlikeness_7 (by decide) (fun c1 => ?_) (fun c1 => ?_)
      · have dc1 : 81 ≤ y4_3.toInt := leC (show (81 : Int32).toInt = 81 from rfl) rfl c1
        refine lv_iload_n hx hb dX4_unlikeness_40 rfl (lv_at hl 2 rfl) ?_
        refine va_mabs hx hb (by rw [hml]; exact hl.1.symm) hown (hts (.methodLink RX4 44 Lib.Math.abs.name) (List.mem_cons_of_mem _ (List.mem_append_left _ (List.mem_of_getElem? (i := 0) rfl)))) (hts (.static Lib.Math.abs.name) (List.mem_cons_of_mem _ (List.mem_append_left _ (List.mem_of_getElem? (i := 1) rfl)))) (hts (.initialized "java/lang/Math") (List.mem_cons_of_mem _ (List.mem_append_left _ (List.mem_of_getElem? (i := 2) rfl)))) (hts (.code Lib.Math.abs.name Lib.Math.abs.code 1 (some .int)) (List.mem_cons_of_mem _ (List.mem_append_left _ (List.mem_of_getElem? (i := 3) rfl)))) (Nat.le_of_ble_eq_true rfl) (Nat.le_of_ble_eq_true rfl) (Nat.le_of_ble_eq_true rfl) (Nat.le_of_ble_eq_true rfl) dX4_unlikeness_41 ?_
        refine lv_topi (fun x2 ex2 => ?_)
        have ix2 : x2.toInt = (if 0 ≤ y4_2 then y4_2 else 0 - y4_2).toInt := by rw [ex2]
        have hab := ab_C (x := x2) (y := y4_2) (by assumption) (by omega) (by omega)
        exact W.iret (v := x2) hx hb hr (fun tq ht hW => ⟨x2, rfl, ⟨(show x2.toInt = ofF agr ans dd from by exact of_e i4_6 (by omega) hab), (show 0 ≤ x2.toInt from by omega), (show x2.toInt ≤ 81 from by omega)⟩, ht⟩) (fun q h => by cases h) dX4_unlikeness_44
      · have dc1 : y4_3.toInt < 81 := nleC (show (81 : Int32).toInt = 81 from rfl) rfl c1
        refine lv_aload_n hx hb dX4_unlikeness_10 rfl (lv_at hl 0 rfl) ?_
        refine lv_iload_n hx hb dX4_unlikeness_11 rfl (lv_at hl 3 rfl) ?_
        refine rdV (As := [.int y4_3]) (rest := []) ⟨hx, hb, hml, hown, hts⟩ (k_X4_mayBe2 l dC dI cI cZ cQ pu0 pu1 agr ans y4_3 r_ans (by omega) (by omega)) (cwV 1 hts gX4_unlikeness_X4_mayBe rfl rfl rfl (by decide +kernel) ⟨Nat.le_of_ble_eq_true rfl, Nat.le_of_ble_eq_true rfl⟩) hP hK hN [0, 1] rfl 0 4 rfl rfl rfl hl.1 rfl (Nat.le_of_ble_eq_true rfl) dX4_unlikeness_12 ⟨Nat.le_of_ble_eq_true rfl, Nat.le_of_ble_eq_true rfl⟩ (fun r3 h4 => ?_)
        have h4 : ((((r3 = 1) ∧ (agr y4_3.toNatClampNeg = ans)) ∨ ((r3 = 0) ∧ (¬ agr y4_3.toNatClampNeg = ans)))) := h4
        rcases h4 with (⟨rfl, h4_a0⟩ | ⟨rfl, h4_a0⟩)
        · refine lv_if_eq (tgt := 34) hx hb dX4_unlikeness_15 (by decide) (fun c9 => absurd c9 (by decide)) (fun _ => ?_)
          refine lv_iload_n hx hb dX4_unlikeness_18 rfl (lv_at hl 2 rfl) ?_
          refine lv_iload_n hx hb dX4_unlikeness_19 rfl (lv_at hl 3 rfl) ?_
          refine lv_iload_n hx hb dX4_unlikeness_20 rfl (lv_at hl 1 rfl) ?_
          refine rdS (As := [.int y4_3, .int dd]) (rest := [.int y4_2]) ⟨hx, hb, hml, hown, hts⟩ (k_X4_saysRight2 l dC dI cI cZ cQ y4_3 dd (by omega) (by omega) (by omega) (by omega)) (va_cwS 2 hts gX4_unlikeness_X4_saysRight rfl rfl rfl (by decide +kernel) ⟨Nat.le_of_ble_eq_true rfl, Nat.le_of_ble_eq_true rfl⟩) hP hK hN [] rfl rfl hl.1 rfl (Nat.le_of_ble_eq_true rfl) dX4_unlikeness_21 ⟨Nat.le_of_ble_eq_true rfl, Nat.le_of_ble_eq_true rfl⟩ (fun r5 h6 => ?_)
          have h6 : ((((r5 = 1) ∧ (sayW y4_3 dd = true)) ∨ ((r5 = 0) ∧ (sayW y4_3 dd = false)))) := h6
          rcases h6 with (⟨rfl, h6_a0⟩ | ⟨rfl, h6_a0⟩)
          · refine lv_if_eq (tgt := 31) hx hb dX4_unlikeness_24 (by decide) (fun c9 => absurd c9 (by decide)) (fun _ => ?_)
            refine lv_iconst (v := 1) hx hb dX4_unlikeness_27 (by decide) ?_
            refine lv_goto (tgt := 32) hx hb dX4_unlikeness_28 (by decide) ?_
            refine lv_iadd hx hb dX4_unlikeness_32 ?_
            have f7 : (y4_2 + 1).toInt = (y4_2.toInt) + (1) := addC rfl (show (1 : Int32).toInt = 1 from rfl) (by omega) (by omega)
            refine lv_topi (fun x8 ex8 => ?_)
            have ix8 : x8.toInt = (y4_2.toInt) + (1) := by rw [ex8]; exact f7
            refine lv_istore_n (lv' := [(2, .int x8), (0, .ref pu0), (1, .int dd), (3, .int y4_3)]) hx hb dX4_unlikeness_33 rfl hl (by decide) rfl (fun ls hl => ?_)
            obtain ⟨z9, ez9⟩ : ∃ y : Int32, y = y4_3 + 1 := ⟨_, rfl⟩
            have iz9 : z9.toInt = y4_3.toInt + 1 := by rw [ez9]; exact addC rfl rfl (by omega) (by omega)
            refine lv_iinc (v := z9) (lv' := [(3, .int z9), (2, .int x8), (0, .ref pu0), (1, .int dd)]) hx hb dX4_unlikeness_34 hl (k := 3) rfl (by rw [ez9]; rfl) (by decide) rfl (fun ls hl => ?_)
            refine lv_goto (tgt := 4) hx hb dX4_unlikeness_37 (by decide) ?_
            exact ih4 x8 z9 _ (by omega) (by omega) (by omega) (by omega) (by omega) (by omega) (by (first | exact un_s (o := y4_3) i4_6 (by omega) (by first | exact Or.inl ⟨by assumption, Or.inl ⟨by assumption, by omega⟩⟩ | exact Or.inl ⟨by assumption, Or.inr ⟨by assumption, by omega⟩⟩ | exact Or.inr ⟨by assumption, by first | rfl | omega⟩) (by omega) | exact un_0 (by first | rfl | omega) (by first | rfl | omega))) (by omega) (lv_sub hl [2, 3, 1, 0] rfl)
          · refine lv_if_eq (tgt := 31) hx hb dX4_unlikeness_24 (by decide) (fun _ => ?_) (fun c9 => absurd (by decide) c9)
            refine lv_iconst (v := (-1)) hx hb dX4_unlikeness_31 (by decide) ?_
            refine lv_iadd hx hb dX4_unlikeness_32 ?_
            refine lv_topi (fun x10 ex10 => ?_)
            have ix10 : x10.toInt = (y4_2.toInt) + ((-1)) := by rw [ex10]; exact addC rfl (show ((-1) : Int32).toInt = (-1) from rfl) (by omega) (by omega)
            refine lv_istore_n (lv' := [(2, .int x10), (0, .ref pu0), (1, .int dd), (3, .int y4_3)]) hx hb dX4_unlikeness_33 rfl hl (by decide) rfl (fun ls hl => ?_)
            obtain ⟨z11, ez11⟩ : ∃ y : Int32, y = y4_3 + 1 := ⟨_, rfl⟩
            have iz11 : z11.toInt = y4_3.toInt + 1 := by rw [ez11]; exact addC rfl rfl (by omega) (by omega)
            refine lv_iinc (v := z11) (lv' := [(3, .int z11), (2, .int x10), (0, .ref pu0), (1, .int dd)]) hx hb dX4_unlikeness_34 hl (k := 3) rfl (by rw [ez11]; rfl) (by decide) rfl (fun ls hl => ?_)
            refine lv_goto (tgt := 4) hx hb dX4_unlikeness_37 (by decide) ?_
            exact ih4 x10 z11 _ (by omega) (by omega) (by omega) (by omega) (by omega) (by omega) (by (first | exact un_s (o := y4_3) i4_6 (by omega) (by first | exact Or.inl ⟨by assumption, Or.inl ⟨by assumption, by omega⟩⟩ | exact Or.inl ⟨by assumption, Or.inr ⟨by assumption, by omega⟩⟩ | exact Or.inr ⟨by assumption, by first | rfl | omega⟩) (by omega) | exact un_0 (by first | rfl | omega) (by first | rfl | omega))) (by omega) (lv_sub hl [2, 3, 1, 0] rfl)
        · refine lv_if_eq (tgt := 34) hx hb dX4_unlikeness_15 (by decide) (fun _ => ?_) (fun c9 => absurd (by decide) c9)
          obtain ⟨z12, ez12⟩ : ∃ y : Int32, y = y4_3 + 1 := ⟨_, rfl⟩
          have iz12 : z12.toInt = y4_3.toInt + 1 := by rw [ez12]; exact addC rfl rfl (by omega) (by omega)
          refine lv_iinc (v := z12) (lv' := [(3, .int z12), (0, .ref pu0), (1, .int dd), (2, .int y4_2)]) hx hb dX4_unlikeness_34 hl (k := 3) rfl (by rw [ez12]; rfl) (by decide) rfl (fun ls hl => ?_)
          refine lv_goto (tgt := 4) hx hb dX4_unlikeness_37 (by decide) ?_
          exact ih4 y4_2 z12 _ (by omega) (by omega) (by omega) (by omega) (by omega) (by omega) (by (first | exact un_s (o := y4_3) i4_6 (by omega) (by first | exact Or.inl ⟨by assumption, Or.inl ⟨by assumption, by omega⟩⟩ | exact Or.inl ⟨by assumption, Or.inr ⟨by assumption, by omega⟩⟩ | exact Or.inr ⟨by assumption, by first | rfl | omega⟩) (by omega) | exact un_0 (by first | rfl | omega) (by first | rfl | omega))) (by omega) (lv_sub hl [1, 2, 3, 0] rfl)
  have kc13 : (0 : Int32).toInt = 0 := rfl
  exact L4 _ 0 0 _ (by omega) (by omega) (by omega) (by omega) (by omega) (by omega) (by (first | exact un_s (o := y4_3) i4_6 (by omega) (by first | exact Or.inl ⟨by assumption, Or.inl ⟨by assumption, by omega⟩⟩ | exact Or.inl ⟨by assumption, Or.inr ⟨by assumption, by omega⟩⟩ | exact Or.inr ⟨by assumption, by first | rfl | omega⟩) (by omega) | exact un_0 (by first | rfl | omega) (by first | rfl | omega))) (Nat.lt_succ_self _) (lv_sub hl [2, 3, 1, 0] rfl)
set_option maxHeartbeats 4000000 in
set_option maxRecDepth 100000 in
theorem k_X4_dayThatParts2 (l : Launch) (dC : Nat → ClassId) (dI : Nat → Nat → Nat) (cI cZ cQ : ClassId) (pu0 : Nat) (pu1 : Nat) (agr : Nat → Int32) (ans : Int32) (r_ans : 0 ≤ ans.toInt ∧ ans.toInt ≤ 12) : KR l yX4_dayThatParts wsX4_dayThatParts { frames := 3, cells := 0, slots := 0, locals := 64 } (dC, dI) (TY cI cZ cQ) (wPup cI cZ cQ pu0 pu1 agr ans) [.ref pu0] (fun r : Int32 => (r.toInt = dpF agr ans 82)) := by
  refine Met.ofW (cc := cX4_dayThatParts) (maxL := 5) (ret := (some .int)) (by decide) rfl ?_
  intro p e s m args below meth c s₁ B hml hv
  obtain ⟨rfl, hP, hK, hN⟩ := hv
  have hx := B.exec
  have hb := B.bytes
  have hr := B.returns
  have hts := atoms_spec (ws := wsX4_dayThatParts) B.pre
  have hown : s.vm.findClass RX4 = some m.cls := findClass_of_methodNamed B.named
  have hlocks := B.notSynchronized
  have hl := lv_entry ([.ref pu0]) (n := 5) (Nat.le_of_ble_eq_true rfl)
  rw [lg_entry_eq]
  generalize (lg_sl ([.ref pu0]) ++ List.replicate (5 - (lg_sl ([.ref pu0])).length) Slot.unset).toArray = ls at hl ⊢
  have hl : lv_has ls 5 [(0, .ref pu0)] := hl
  refine lv_aload_n hx hb dX4_dayThatParts_0 rfl (lv_at hl 0 rfl) ?_
  refine rdV (As := []) (rest := []) ⟨hx, hb, hml, hown, hts⟩ (k_X4_tablesThatMayBe2 l dC dI cI cZ cQ pu0 pu1 agr ans r_ans) (cwV 0 hts gX4_dayThatParts_X4_tablesThatMayBe rfl rfl rfl (by decide +kernel) ⟨Nat.le_of_ble_eq_true rfl, Nat.le_of_ble_eq_true rfl⟩) hP hK hN [0, 1] rfl 0 4 rfl rfl rfl hl.1 rfl (Nat.le_of_ble_eq_true rfl) dX4_dayThatParts_1 ⟨Nat.le_of_ble_eq_true rfl, Nat.le_of_ble_eq_true rfl⟩ (fun r1 h2 => ?_)
  have h2 : (0 ≤ r1.toInt) ∧ (r1.toInt ≤ 81) ∧ (r1.toInt = mayF agr ans 81) := h2
  obtain ⟨h2_0, h2_1, h2_2⟩ := h2
  refine lv_if_ne (tgt := 9) hx hb dX4_dayThatParts_4 (by decide) (fun c3 => ?_) (fun c3 => ?_)
  · have dc3 : 1 ≤ r1.toInt := ka_lo (by omega) (neC rfl (show (0 : Int32).toInt = 0 from rfl) c3)
    refine lv_iconst (v := (-1)) hx hb dX4_dayThatParts_9 (by decide) ?_
    refine lv_istore_n (lv' := [(1, .int (-1)), (0, .ref pu0)]) hx hb dX4_dayThatParts_10 rfl hl (by decide) rfl (fun ls hl => ?_)
    refine lv_bipush (v := 82) hx hb dX4_dayThatParts_11 (by decide) ?_
    refine lv_istore_n (lv' := [(2, .int 82), (1, .int (-1)), (0, .ref pu0)]) hx hb dX4_dayThatParts_13 rfl hl (by decide) rfl (fun ls hl => ?_)
    refine lv_iconst (v := 1) hx hb dX4_dayThatParts_14 (by decide) ?_
    refine lv_istore_n (lv' := [(3, .int 1), (2, .int 82), (1, .int (-1)), (0, .ref pu0)]) hx hb dX4_dayThatParts_15 rfl hl (by decide) rfl (fun ls hl => ?_)
    have L16 : ∀ (nn : Nat) (y16_1 : Int32) (y16_2 : Int32) (y16_3 : Int32) (ls : Array Slot), (1 ≤ (y16_3.toInt)) → ((y16_3.toInt) ≤ 61) → (-1 ≤ (y16_1.toInt)) → ((y16_1.toInt) ≤ 60) → (0 ≤ (y16_2.toInt)) → ((y16_2.toInt) ≤ 82) → (((y16_1.toInt), (y16_2.toInt)) = fdP agr ans 82 ((y16_3.toInt) - 1).toNat) → (61 - (y16_3.toInt)).toNat < nn → lv_has ls 5 [(0, .ref pu0), (1, .int y16_1), (2, .int y16_2), (3, .int y16_3)] → W p l e (headSpec wsX4_dayThatParts { frames := 3, cells := 0, slots := 0, locals := 64 }).room s m ([.ref pu0] : List Value).toArray below meth c s.heap [] 0 0 (MQ below (QR (fun r : Int32 => (r.toInt = dpF agr ans 82))) ([.ref pu0] : List Value).toArray s 0 0 (fun _ => False)) (F0 m 16 ls []) := by
      intro nn
      induction nn with
      | zero =>
        intro y16_1 y16_2 y16_3 ls i16_0 i16_1 i16_2 i16_3 i16_4 i16_5 i16_6 hm16
        exact absurd hm16 (Nat.not_lt_zero _)
      | succ nn ih16 =>
        intro y16_1 y16_2 y16_3 ls i16_0 i16_1 i16_2 i16_3 i16_4 i16_5 i16_6 hm16 hl
        refine lv_iload_n hx hb dX4_dayThatParts_16 rfl (lv_at hl 3 rfl) ?_
        refine lv_bipush (v := 60) hx hb dX4_dayThatParts_17 (by decide) ?_
        refine lv_icmp_gt (tgt := 46) hx hb dX4_dayThatParts_19 (by decide) (fun c4 => ?_) (fun c4 => ?_)
        · have dc4 : 60 < y16_3.toInt := ltC (show (60 : Int32).toInt = 60 from rfl) rfl c4
          refine lv_iload_n hx hb dX4_dayThatParts_46 rfl (lv_at hl 1 rfl) ?_
          exact W.iret (v := y16_1) hx hb hr (fun tq ht hW => ⟨y16_1, rfl, (show y16_1.toInt = dpF agr ans 82 from by (first | exact dp_0 (by assumption) (by omega) rfl | exact dp_1 (by assumption) (by omega) i16_6 (by omega))), ht⟩) (fun q h => by cases h) dX4_dayThatParts_47
        · have dc4 : y16_3.toInt ≤ 60 := nltC (show (60 : Int32).toInt = 60 from rfl) rfl c4
          refine lv_aload_n hx hb dX4_dayThatParts_22 rfl (lv_at hl 0 rfl) ?_
          refine lv_iload_n hx hb dX4_dayThatParts_23 rfl (lv_at hl 3 rfl) ?_
          refine rdV (As := [.int y16_3]) (rest := []) ⟨hx, hb, hml, hown, hts⟩ (k_X4_unlikeness2 l dC dI cI cZ cQ pu0 pu1 agr ans y16_3 r_ans (by omega) (by omega)) (cwV 1 hts gX4_dayThatParts_X4_unlikeness rfl rfl rfl (by decide +kernel) ⟨Nat.le_of_ble_eq_true rfl, Nat.le_of_ble_eq_true rfl⟩) hP hK hN [0, 1] rfl 0 4 rfl rfl rfl hl.1 rfl (Nat.le_of_ble_eq_true rfl) dX4_dayThatParts_24 ⟨Nat.le_of_ble_eq_true rfl, Nat.le_of_ble_eq_true rfl⟩ (fun r5 h6 => ?_)
          have h6 : (r5.toInt = ofF agr ans y16_3) ∧ (0 ≤ r5.toInt) ∧ (r5.toInt ≤ 81) := h6
          obtain ⟨h6_0, h6_1, h6_2⟩ := h6
          refine lv_istore (lv' := [(4, .int r5), (0, .ref pu0), (1, .int y16_1), (2, .int y16_2), (3, .int y16_3)]) hx hb dX4_dayThatParts_27 hl (by decide) rfl (fun ls hl => ?_)
          refine lv_iload hx hb dX4_dayThatParts_29 (lv_at hl 0 rfl) ?_
          refine lv_iload_n hx hb dX4_dayThatParts_31 rfl (lv_at hl 3 rfl) ?_
          refine lv_icmp_ge (tgt := 40) hx hb dX4_dayThatParts_32 (by decide) (fun c7 => ?_) (fun c7 => ?_)
          · have dc7 : y16_2.toInt ≤ r5.toInt := leC rfl rfl c7
            obtain ⟨z8, ez8⟩ : ∃ y : Int32, y = y16_3 + 1 := ⟨_, rfl⟩
            have iz8 : z8.toInt = y16_3.toInt + 1 := by rw [ez8]; exact addC rfl rfl (by omega) (by omega)
            refine lv_iinc (v := z8) (lv' := [(3, .int z8), (4, .int r5), (0, .ref pu0), (1, .int y16_1), (2, .int y16_2)]) hx hb dX4_dayThatParts_40 hl (k := 4) rfl (by rw [ez8]; rfl) (by decide) rfl (fun ls hl => ?_)
            refine lv_goto (tgt := 16) hx hb dX4_dayThatParts_43 (by decide) ?_
            exact ih16 y16_1 y16_2 z8 _ (by omega) (by omega) (by omega) (by omega) (by omega) (by omega) (by (first | exact fd_y (d := y16_3) i16_6 (by omega) rfl (by assumption) (by omega) (by omega) | exact fd_n (d := y16_3) i16_6 (by omega) (by assumption) (by omega) (by omega) | exact fd_0 (by first | rfl | omega) (by first | rfl | omega) (by first | rfl | omega))) (by omega) (lv_sub hl [2, 3, 4, 0] rfl)
          · have dc7 : r5.toInt < y16_2.toInt := nleC rfl rfl c7
            refine lv_iload hx hb dX4_dayThatParts_35 (lv_at hl 0 rfl) ?_
            refine lv_istore_n (lv' := [(2, .int r5), (4, .int r5), (0, .ref pu0), (1, .int y16_1), (3, .int y16_3)]) hx hb dX4_dayThatParts_37 rfl hl (by decide) rfl (fun ls hl => ?_)
            refine lv_iload_n hx hb dX4_dayThatParts_38 rfl (lv_at hl 4 rfl) ?_
            refine lv_istore_n (lv' := [(1, .int y16_3), (2, .int r5), (4, .int r5), (0, .ref pu0), (3, .int y16_3)]) hx hb dX4_dayThatParts_39 rfl hl (by decide) rfl (fun ls hl => ?_)
            obtain ⟨z9, ez9⟩ : ∃ y : Int32, y = y16_3 + 1 := ⟨_, rfl⟩
            have iz9 : z9.toInt = y16_3.toInt + 1 := by rw [ez9]; exact addC rfl rfl (by omega) (by omega)
            refine lv_iinc (v := z9) (lv' := [(3, .int z9), (1, .int y16_3), (2, .int r5), (4, .int r5), (0, .ref pu0)]) hx hb dX4_dayThatParts_40 hl (k := 4) rfl (by rw [ez9]; rfl) (by decide) rfl (fun ls hl => ?_)
            refine lv_goto (tgt := 16) hx hb dX4_dayThatParts_43 (by decide) ?_
            exact ih16 y16_3 r5 z9 _ (by omega) (by omega) (by omega) (by omega) (by omega) (by omega) (by (first | exact fd_y (d := y16_3) i16_6 (by omega) rfl (by assumption) (by omega) (by omega) | exact fd_n (d := y16_3) i16_6 (by omega) (by assumption) (by omega) (by omega) | exact fd_0 (by first | rfl | omega) (by first | rfl | omega) (by first | rfl | omega))) (by omega) (lv_sub hl [4, 1, 2, 0] rfl)
    have kc10 : ((-1) : Int32).toInt = -1 := rfl
    have kc11 : (82 : Int32).toInt = 82 := rfl
    have kc12 : (1 : Int32).toInt = 1 := rfl
    exact L16 _ (-1) 82 1 _ (by omega) (by omega) (by omega) (by omega) (by omega) (by omega) (by (first | exact fd_y (d := y16_3) i16_6 (by omega) rfl (by assumption) (by omega) (by omega) | exact fd_n (d := y16_3) i16_6 (by omega) (by assumption) (by omega) (by omega) | exact fd_0 (by first | rfl | omega) (by first | rfl | omega) (by first | rfl | omega))) (Nat.lt_succ_self _) (lv_sub hl [3, 2, 1, 0] rfl)
  · have dc3 : r1.toInt = 0 := eqC rfl (show (0 : Int32).toInt = 0 from rfl) c3
    refine lv_iconst (v := (-1)) hx hb dX4_dayThatParts_7 (by decide) ?_
    exact W.iret (v := (-1)) hx hb hr (fun tq ht hW => ⟨(-1), rfl, (show ((-1) : Int32).toInt = dpF agr ans 82 from by (try rw [show ((-1) : Int32).toInt = (-1) from (show ((-1) : Int32).toInt = (-1) from rfl)]); (first | exact dp_0 (by assumption) (by omega) rfl | exact dp_1 (by assumption) (by omega) i16_6 (by omega))), ht⟩) (fun q h => by cases h) dX4_dayThatParts_8
set_option maxHeartbeats 4000000 in
set_option maxRecDepth 100000 in
theorem k_X9_pupil2 (l : Launch) (dC : Nat → ClassId) (dI : Nat → Nat → Nat) (cI cZ cQ : ClassId) (a : Nat → Nat) (rb0 : Nat) (rb1 : Nat) (rb2 : Nat) (db0 : Nat) (db1 : Nat) (db2 : Nat) (agr0 : Nat → Int32) (ans0 : Int32) (agr1 : Nat → Int32) (ans1 : Int32) (agr2 : Nat → Int32) (ans2 : Int32) (agr3 : Nat → Int32) (ans3 : Int32) (pp : Int32) (wh : Int32) (r_ans0 : 0 ≤ ans0.toInt ∧ ans0.toInt ≤ 12) (r_ans1 : 0 ≤ ans1.toInt ∧ ans1.toInt ≤ 12) (r_ans2 : 0 ≤ ans2.toInt ∧ ans2.toInt ≤ 12) (r_ans3 : 0 ≤ ans3.toInt ∧ ans3.toInt ≤ 12) : KR l yX9_pupil wsX9_pupil { frames := 4, cells := 0, slots := 0, locals := 88 } (dC, dI) (TY cI cZ cQ) (wsPu cI cZ cQ a rb0 rb1 rb2 db0 db1 db2 agr0 ans0 agr1 ans1 agr2 ans2 agr3 ans3) [.ref (a 43), .int pp, .int wh] (fun r : Int32 => (spPup (gF agr0 agr1 agr2 agr3 pp.toNatClampNeg) (aF ans0 ans1 ans2 ans3 pp.toNatClampNeg) 82 pp wh r)) := by
  refine Met.ofW (cc := cX9_pupil) (maxL := 4) (ret := (some .int)) (by decide) rfl ?_
  intro p e s m args below meth c s₁ B hml hv
  obtain ⟨rfl, hP, hK, hN⟩ := hv
  have hx := B.exec
  have hb := B.bytes
  have hr := B.returns
  have hts := atoms_spec (ws := wsX9_pupil) B.pre
  have hown : s.vm.findClass RX9 = some m.cls := findClass_of_methodNamed B.named
  have hlocks := B.notSynchronized
  have lf64 := hts (.fieldLink RX9 64 "PalaceOfRooms" "pupils" "[LPalaceOfRooms$Pupil;") (List.mem_cons_of_mem _ (List.mem_append_left _ (List.mem_append_left _ (List.mem_append_left _ (List.mem_of_getElem? (i := 0) rfl)))))
  have inX9 : ∀ w ∈ wsX90, w ∈ wsX9_pupil := fun w h => List.mem_cons_of_mem _ (List.mem_append_left _ (List.mem_append_right _ h))
  have hl := lv_entry ([.ref (a 43), .int pp, .int wh]) (n := 4) (Nat.le_of_ble_eq_true rfl)
  rw [lg_entry_eq]
  generalize (lg_sl ([.ref (a 43), .int pp, .int wh]) ++ List.replicate (4 - (lg_sl ([.ref (a 43), .int pp, .int wh])).length) Slot.unset).toArray = ls at hl ⊢
  have hl : lv_has ls 4 [(0, .ref (a 43)), (1, .int pp), (2, .int wh)] := hl
  refine lv_iload_n hx hb dX9_pupil_0 rfl (lv_at hl 1 rfl) ?_
  refine lv_iconst (v := 0) hx hb dX9_pupil_1 (by decide) ?_
  refine lv_iconst (v := 3) hx hb dX9_pupil_2 (by decide) ?_
  refine rdS (As := [.int pp, .int 0, .int 3]) (rest := []) ⟨hx, hb, hml, hown, hts⟩ (k_X9_within l dC dI cI cZ cQ pp (0 : Int32) (3 : Int32)) (va_cwS 3 hts gX9_pupil_X9_within rfl rfl rfl (by decide +kernel) ⟨Nat.le_of_ble_eq_true rfl, Nat.le_of_ble_eq_true rfl⟩) hP hK hN [] rfl rfl hl.1 rfl (Nat.le_of_ble_eq_true rfl) dX9_pupil_3 ⟨Nat.le_of_ble_eq_true rfl, Nat.le_of_ble_eq_true rfl⟩ (fun r1 h2 => ?_)
  have h2 : ((((r1 = 1) ∧ ((0) ≤ pp.toInt) ∧ (pp.toInt ≤ (3))) ∨ ((r1 = 0) ∧ (pp.toInt < (0) ∨ (3) < pp.toInt)))) := h2
  rcases h2 with (⟨rfl, h2_a0, h2_a1⟩ | ⟨rfl, h2_a0⟩)
  · refine lv_if_ne (tgt := 12) hx hb dX9_pupil_6 (by decide) (fun _ => ?_) (fun c9 => absurd c9 (by decide))
    have hc3 : pp = 0 ∨ pp = 1 ∨ pp = 2 ∨ pp = 3 := by exact ci4 rfl (by omega)
    rcases hc3 with rfl | rfl | rfl | rfl
    · have kc4 : (0 : Int32).toInt = 0 := rfl
      refine lv_aload_n hx hb dX9_pupil_12 rfl (lv_at hl 0 rfl) ?_
      refine va_get (D := (dC, dI)) (ci := 9) (v := .ref (a 33)) (C := RX9) (T := TX9) (N := 11) hx hb hts inX9 hown hK hP 0 rfl rfl 7 (by decide) lf64 (fun _ h9 => h9) rfl dX9_pupil_13 ?_
      refine lv_iload_n hx hb dX9_pupil_16 rfl (lv_at hl 1 rfl) ?_
      have b5 : vp_in 0 4 := (show ¬ _ from by decide)
      refine va_aldq hx hb hK hP 1 2 rfl rfl b5 dX9_pupil_17 ?_
      refine W.eq (g2 := F0 m 18 ls [.ref (a 34)]) rfl ?_
      refine lv_astore_n (lv' := [(3, .ref (a 34)), (0, .ref (a 43)), (1, .int 0), (2, .int wh)]) hx hb dX9_pupil_18 rfl hl (by decide) rfl (fun ls hl => ?_)
      refine lv_iload_n hx hb dX9_pupil_19 rfl (lv_at hl 3 rfl) ?_
      by_cases w6 : wh = 0
      · have dw6 : wh.toInt = 0 := eqC rfl rfl w6
        refine lv_tableIn (off := 32) (tgt := 52) hx hb dX9_pupil_20 (by rw [w6]; decide) (by rw [w6]; decide) (by rw [w6]; decide) (by decide) ?_
        refine lv_aload_n hx hb dX9_pupil_52 rfl (lv_at hl 0 rfl) ?_
        refine rdV (As := []) (rest := []) ⟨hx, hb, hml, hown, hts⟩ (k_X4_tablesThatMayBe2 l dC dI cI cZ cQ (a 34) (a 35) agr0 ans0 r_ans0) (cwV 0 hts gX9_pupil_X4_tablesThatMayBe rfl rfl rfl (by decide +kernel) ⟨Nat.le_of_ble_eq_true rfl, Nat.le_of_ble_eq_true rfl⟩) hP hK hN [2, 3] rfl 2 4 rfl rfl rfl hl.1 rfl (Nat.le_of_ble_eq_true rfl) dX9_pupil_53 ⟨Nat.le_of_ble_eq_true rfl, Nat.le_of_ble_eq_true rfl⟩ (fun r7 h8 => ?_)
        have h8 : (0 ≤ r7.toInt) ∧ (r7.toInt ≤ 81) ∧ (r7.toInt = mayF agr0 ans0 81) := h8
        obtain ⟨h8_0, h8_1, h8_2⟩ := h8
        exact W.iret (v := r7) hx hb hr (fun tq ht hW => ⟨r7, rfl, (show spPup (gF agr0 agr1 agr2 agr3 (0 : Int32).toNatClampNeg) (aF ans0 ans1 ans2 ans3 (0 : Int32).toNatClampNeg) 82 (0 : Int32) wh r7 from by (first | exact Or.inl ⟨by omega, rfl⟩ | (refine Or.inr ⟨by omega, ?_⟩; first | exact Or.inl ⟨by omega, by assumption⟩ | exact Or.inr (Or.inl ⟨by omega, by assumption⟩) | exact Or.inr (Or.inr (Or.inl ⟨by omega, by assumption⟩)) | exact Or.inr (Or.inr (Or.inr (Or.inl ⟨by omega, by assumption⟩))) | exact Or.inr (Or.inr (Or.inr (Or.inr ⟨by omega, rfl⟩)))))), ht⟩) (fun q h => by cases h) dX9_pupil_56
      by_cases w9 : wh = 1
      · have dw9 : wh.toInt = 1 := eqC rfl rfl w9
        refine lv_tableIn (off := 37) (tgt := 57) hx hb dX9_pupil_20 (by rw [w9]; decide) (by rw [w9]; decide) (by rw [w9]; decide) (by decide) ?_
        refine lv_aload_n hx hb dX9_pupil_57 rfl (lv_at hl 0 rfl) ?_
        refine rdV (As := []) (rest := []) ⟨hx, hb, hml, hown, hts⟩ (k_X4_nameOfLikeliest2 l dC dI cI cZ cQ (a 34) (a 35) agr0 ans0 r_ans0) (cwV 0 hts gX9_pupil_X4_nameOfLikeliest rfl rfl rfl (by decide +kernel) ⟨Nat.le_of_ble_eq_true rfl, Nat.le_of_ble_eq_true rfl⟩) hP hK hN [2, 3] rfl 2 4 rfl rfl rfl hl.1 rfl (Nat.le_of_ble_eq_true rfl) dX9_pupil_58 ⟨Nat.le_of_ble_eq_true rfl, Nat.le_of_ble_eq_true rfl⟩ (fun r10 h11 => ?_)
        have h11 : (r10.toInt = nmL (lkF agr0 80)) := h11
        have h11_0 := h11
        exact W.iret (v := r10) hx hb hr (fun tq ht hW => ⟨r10, rfl, (show spPup (gF agr0 agr1 agr2 agr3 (0 : Int32).toNatClampNeg) (aF ans0 ans1 ans2 ans3 (0 : Int32).toNatClampNeg) 82 (0 : Int32) wh r10 from by (first | exact Or.inl ⟨by omega, rfl⟩ | (refine Or.inr ⟨by omega, ?_⟩; first | exact Or.inl ⟨by omega, by assumption⟩ | exact Or.inr (Or.inl ⟨by omega, by assumption⟩) | exact Or.inr (Or.inr (Or.inl ⟨by omega, by assumption⟩)) | exact Or.inr (Or.inr (Or.inr (Or.inl ⟨by omega, by assumption⟩))) | exact Or.inr (Or.inr (Or.inr (Or.inr ⟨by omega, rfl⟩)))))), ht⟩) (fun q h => by cases h) dX9_pupil_61
      by_cases w12 : wh = 2
      · have dw12 : wh.toInt = 2 := eqC rfl rfl w12
        refine lv_tableIn (off := 42) (tgt := 62) hx hb dX9_pupil_20 (by rw [w12]; decide) (by rw [w12]; decide) (by rw [w12]; decide) (by decide) ?_
        refine lv_aload_n hx hb dX9_pupil_62 rfl (lv_at hl 0 rfl) ?_
        refine rdV (As := []) (rest := []) ⟨hx, hb, hml, hown, hts⟩ (k_X4_agreementOfLikeliest2 l dC dI cI cZ cQ (a 34) (a 35) agr0 ans0 r_ans0) (cwV 0 hts gX9_pupil_X4_agreementOfLikeliest rfl rfl rfl (by decide +kernel) ⟨Nat.le_of_ble_eq_true rfl, Nat.le_of_ble_eq_true rfl⟩) hP hK hN [2, 3] rfl 2 4 rfl rfl rfl hl.1 rfl (Nat.le_of_ble_eq_true rfl) dX9_pupil_63 ⟨Nat.le_of_ble_eq_true rfl, Nat.le_of_ble_eq_true rfl⟩ (fun r13 h14 => ?_)
        have h14 : (r13 = agr0 (lkF agr0 80)) := h14
        have h14_0 := h14
        exact W.iret (v := r13) hx hb hr (fun tq ht hW => ⟨r13, rfl, (show spPup (gF agr0 agr1 agr2 agr3 (0 : Int32).toNatClampNeg) (aF ans0 ans1 ans2 ans3 (0 : Int32).toNatClampNeg) 82 (0 : Int32) wh r13 from by (first | exact Or.inl ⟨by omega, rfl⟩ | (refine Or.inr ⟨by omega, ?_⟩; first | exact Or.inl ⟨by omega, by assumption⟩ | exact Or.inr (Or.inl ⟨by omega, by assumption⟩) | exact Or.inr (Or.inr (Or.inl ⟨by omega, by assumption⟩)) | exact Or.inr (Or.inr (Or.inr (Or.inl ⟨by omega, by assumption⟩))) | exact Or.inr (Or.inr (Or.inr (Or.inr ⟨by omega, rfl⟩)))))), ht⟩) (fun q h => by cases h) dX9_pupil_66
      by_cases w15 : wh = 3
      · have dw15 : wh.toInt = 3 := eqC rfl rfl w15
        refine lv_tableIn (off := 47) (tgt := 67) hx hb dX9_pupil_20 (by rw [w15]; decide) (by rw [w15]; decide) (by rw [w15]; decide) (by decide) ?_
        refine lv_aload_n hx hb dX9_pupil_67 rfl (lv_at hl 0 rfl) ?_
        refine rdV (As := []) (rest := []) ⟨hx, hb, hml, hown, hts⟩ (k_X4_dayThatParts2 l dC dI cI cZ cQ (a 34) (a 35) agr0 ans0 r_ans0) (cwV 0 hts gX9_pupil_X4_dayThatParts rfl rfl rfl (by decide +kernel) ⟨Nat.le_of_ble_eq_true rfl, Nat.le_of_ble_eq_true rfl⟩) hP hK hN [2, 3] rfl 2 4 rfl rfl rfl hl.1 rfl (Nat.le_of_ble_eq_true rfl) dX9_pupil_68 ⟨Nat.le_of_ble_eq_true rfl, Nat.le_of_ble_eq_true rfl⟩ (fun r16 h17 => ?_)
        have h17 : (r16.toInt = dpF agr0 ans0 82) := h17
        have h17_0 := h17
        exact W.iret (v := r16) hx hb hr (fun tq ht hW => ⟨r16, rfl, (show spPup (gF agr0 agr1 agr2 agr3 (0 : Int32).toNatClampNeg) (aF ans0 ans1 ans2 ans3 (0 : Int32).toNatClampNeg) 82 (0 : Int32) wh r16 from by (first | exact Or.inl ⟨by omega, rfl⟩ | (refine Or.inr ⟨by omega, ?_⟩; first | exact Or.inl ⟨by omega, by assumption⟩ | exact Or.inr (Or.inl ⟨by omega, by assumption⟩) | exact Or.inr (Or.inr (Or.inl ⟨by omega, by assumption⟩)) | exact Or.inr (Or.inr (Or.inr (Or.inl ⟨by omega, by assumption⟩))) | exact Or.inr (Or.inr (Or.inr (Or.inr ⟨by omega, rfl⟩)))))), ht⟩) (fun q h => by cases h) dX9_pupil_71
      have nw6 : wh.toInt ≠ 0 := neC rfl rfl w6
      have nw9 : wh.toInt ≠ 1 := neC rfl rfl w9
      have nw12 : wh.toInt ≠ 2 := neC rfl rfl w12
      have nw15 : wh.toInt ≠ 3 := neC rfl rfl w15
      have o20 : wh.toInt < 0 ∨ 3 < wh.toInt := by rw [show wh.toInt = wh.toInt from rfl]; omega
      refine lv_tableOut (tgt := 72) hx hb dX9_pupil_20 o20 (by decide) ?_
      refine lv_bipush (v := (-3)) hx hb dX9_pupil_72 (by decide) ?_
      exact W.iret (v := (-3)) hx hb hr (fun tq ht hW => ⟨(-3), rfl, (show spPup (gF agr0 agr1 agr2 agr3 (0 : Int32).toNatClampNeg) (aF ans0 ans1 ans2 ans3 (0 : Int32).toNatClampNeg) 82 (0 : Int32) wh ((-3) : Int32) from by (try rw [show ((-3) : Int32).toInt = (-3) from (show ((-3) : Int32).toInt = (-3) from rfl)]); (first | exact Or.inl ⟨by omega, rfl⟩ | (refine Or.inr ⟨by omega, ?_⟩; first | exact Or.inl ⟨by omega, by assumption⟩ | exact Or.inr (Or.inl ⟨by omega, by assumption⟩) | exact Or.inr (Or.inr (Or.inl ⟨by omega, by assumption⟩)) | exact Or.inr (Or.inr (Or.inr (Or.inl ⟨by omega, by assumption⟩))) | exact Or.inr (Or.inr (Or.inr (Or.inr ⟨by omega, rfl⟩)))))), ht⟩) (fun q h => by cases h) dX9_pupil_74
    · have kc18 : (1 : Int32).toInt = 1 := rfl
      refine lv_aload_n hx hb dX9_pupil_12 rfl (lv_at hl 0 rfl) ?_
      refine va_get (D := (dC, dI)) (ci := 9) (v := .ref (a 33)) (C := RX9) (T := TX9) (N := 11) hx hb hts inX9 hown hK hP 0 rfl rfl 7 (by decide) lf64 (fun _ h9 => h9) rfl dX9_pupil_13 ?_
      refine lv_iload_n hx hb dX9_pupil_16 rfl (lv_at hl 1 rfl) ?_
      have b19 : vp_in 1 4 := (show ¬ _ from by decide)
      refine va_aldq hx hb hK hP 1 2 rfl rfl b19 dX9_pupil_17 ?_
      refine W.eq (g2 := F0 m 18 ls [.ref (a 36)]) rfl ?_
      refine lv_astore_n (lv' := [(3, .ref (a 36)), (0, .ref (a 43)), (1, .int 1), (2, .int wh)]) hx hb dX9_pupil_18 rfl hl (by decide) rfl (fun ls hl => ?_)
      refine lv_iload_n hx hb dX9_pupil_19 rfl (lv_at hl 3 rfl) ?_
      by_cases w20 : wh = 0
      · have dw20 : wh.toInt = 0 := eqC rfl rfl w20
        refine lv_tableIn (off := 32) (tgt := 52) hx hb dX9_pupil_20 (by rw [w20]; decide) (by rw [w20]; decide) (by rw [w20]; decide) (by decide) ?_
        refine lv_aload_n hx hb dX9_pupil_52 rfl (lv_at hl 0 rfl) ?_
        refine rdV (As := []) (rest := []) ⟨hx, hb, hml, hown, hts⟩ (k_X4_tablesThatMayBe2 l dC dI cI cZ cQ (a 36) (a 37) agr1 ans1 r_ans1) (cwV 0 hts gX9_pupil_X4_tablesThatMayBe rfl rfl rfl (by decide +kernel) ⟨Nat.le_of_ble_eq_true rfl, Nat.le_of_ble_eq_true rfl⟩) hP hK hN [4, 5] rfl 4 4 rfl rfl rfl hl.1 rfl (Nat.le_of_ble_eq_true rfl) dX9_pupil_53 ⟨Nat.le_of_ble_eq_true rfl, Nat.le_of_ble_eq_true rfl⟩ (fun r21 h22 => ?_)
        have h22 : (0 ≤ r21.toInt) ∧ (r21.toInt ≤ 81) ∧ (r21.toInt = mayF agr1 ans1 81) := h22
        obtain ⟨h22_0, h22_1, h22_2⟩ := h22
        exact W.iret (v := r21) hx hb hr (fun tq ht hW => ⟨r21, rfl, (show spPup (gF agr0 agr1 agr2 agr3 (1 : Int32).toNatClampNeg) (aF ans0 ans1 ans2 ans3 (1 : Int32).toNatClampNeg) 82 (1 : Int32) wh r21 from by (first | exact Or.inl ⟨by omega, rfl⟩ | (refine Or.inr ⟨by omega, ?_⟩; first | exact Or.inl ⟨by omega, by assumption⟩ | exact Or.inr (Or.inl ⟨by omega, by assumption⟩) | exact Or.inr (Or.inr (Or.inl ⟨by omega, by assumption⟩)) | exact Or.inr (Or.inr (Or.inr (Or.inl ⟨by omega, by assumption⟩))) | exact Or.inr (Or.inr (Or.inr (Or.inr ⟨by omega, rfl⟩)))))), ht⟩) (fun q h => by cases h) dX9_pupil_56
      by_cases w23 : wh = 1
      · have dw23 : wh.toInt = 1 := eqC rfl rfl w23
        refine lv_tableIn (off := 37) (tgt := 57) hx hb dX9_pupil_20 (by rw [w23]; decide) (by rw [w23]; decide) (by rw [w23]; decide) (by decide) ?_
        refine lv_aload_n hx hb dX9_pupil_57 rfl (lv_at hl 0 rfl) ?_
        refine rdV (As := []) (rest := []) ⟨hx, hb, hml, hown, hts⟩ (k_X4_nameOfLikeliest2 l dC dI cI cZ cQ (a 36) (a 37) agr1 ans1 r_ans1) (cwV 0 hts gX9_pupil_X4_nameOfLikeliest rfl rfl rfl (by decide +kernel) ⟨Nat.le_of_ble_eq_true rfl, Nat.le_of_ble_eq_true rfl⟩) hP hK hN [4, 5] rfl 4 4 rfl rfl rfl hl.1 rfl (Nat.le_of_ble_eq_true rfl) dX9_pupil_58 ⟨Nat.le_of_ble_eq_true rfl, Nat.le_of_ble_eq_true rfl⟩ (fun r24 h25 => ?_)
        have h25 : (r24.toInt = nmL (lkF agr1 80)) := h25
        have h25_0 := h25
        exact W.iret (v := r24) hx hb hr (fun tq ht hW => ⟨r24, rfl, (show spPup (gF agr0 agr1 agr2 agr3 (1 : Int32).toNatClampNeg) (aF ans0 ans1 ans2 ans3 (1 : Int32).toNatClampNeg) 82 (1 : Int32) wh r24 from by (first | exact Or.inl ⟨by omega, rfl⟩ | (refine Or.inr ⟨by omega, ?_⟩; first | exact Or.inl ⟨by omega, by assumption⟩ | exact Or.inr (Or.inl ⟨by omega, by assumption⟩) | exact Or.inr (Or.inr (Or.inl ⟨by omega, by assumption⟩)) | exact Or.inr (Or.inr (Or.inr (Or.inl ⟨by omega, by assumption⟩))) | exact Or.inr (Or.inr (Or.inr (Or.inr ⟨by omega, rfl⟩)))))), ht⟩) (fun q h => by cases h) dX9_pupil_61
      by_cases w26 : wh = 2
      · have dw26 : wh.toInt = 2 := eqC rfl rfl w26
        refine lv_tableIn (off := 42) (tgt := 62) hx hb dX9_pupil_20 (by rw [w26]; decide) (by rw [w26]; decide) (by rw [w26]; decide) (by decide) ?_
        refine lv_aload_n hx hb dX9_pupil_62 rfl (lv_at hl 0 rfl) ?_
        refine rdV (As := []) (rest := []) ⟨hx, hb, hml, hown, hts⟩ (k_X4_agreementOfLikeliest2 l dC dI cI cZ cQ (a 36) (a 37) agr1 ans1 r_ans1) (cwV 0 hts gX9_pupil_X4_agreementOfLikeliest rfl rfl rfl (by decide +kernel) ⟨Nat.le_of_ble_eq_true rfl, Nat.le_of_ble_eq_true rfl⟩) hP hK hN [4, 5] rfl 4 4 rfl rfl rfl hl.1 rfl (Nat.le_of_ble_eq_true rfl) dX9_pupil_63 ⟨Nat.le_of_ble_eq_true rfl, Nat.le_of_ble_eq_true rfl⟩ (fun r27 h28 => ?_)
        have h28 : (r27 = agr1 (lkF agr1 80)) := h28
        have h28_0 := h28
        exact W.iret (v := r27) hx hb hr (fun tq ht hW => ⟨r27, rfl, (show spPup (gF agr0 agr1 agr2 agr3 (1 : Int32).toNatClampNeg) (aF ans0 ans1 ans2 ans3 (1 : Int32).toNatClampNeg) 82 (1 : Int32) wh r27 from by (first | exact Or.inl ⟨by omega, rfl⟩ | (refine Or.inr ⟨by omega, ?_⟩; first | exact Or.inl ⟨by omega, by assumption⟩ | exact Or.inr (Or.inl ⟨by omega, by assumption⟩) | exact Or.inr (Or.inr (Or.inl ⟨by omega, by assumption⟩)) | exact Or.inr (Or.inr (Or.inr (Or.inl ⟨by omega, by assumption⟩))) | exact Or.inr (Or.inr (Or.inr (Or.inr ⟨by omega, rfl⟩)))))), ht⟩) (fun q h => by cases h) dX9_pupil_66
      by_cases w29 : wh = 3
      · have dw29 : wh.toInt = 3 := eqC rfl rfl w29
        refine lv_tableIn (off := 47) (tgt := 67) hx hb dX9_pupil_20 (by rw [w29]; decide) (by rw [w29]; decide) (by rw [w29]; decide) (by decide) ?_
        refine lv_aload_n hx hb dX9_pupil_67 rfl (lv_at hl 0 rfl) ?_
        refine rdV (As := []) (rest := []) ⟨hx, hb, hml, hown, hts⟩ (k_X4_dayThatParts2 l dC dI cI cZ cQ (a 36) (a 37) agr1 ans1 r_ans1) (cwV 0 hts gX9_pupil_X4_dayThatParts rfl rfl rfl (by decide +kernel) ⟨Nat.le_of_ble_eq_true rfl, Nat.le_of_ble_eq_true rfl⟩) hP hK hN [4, 5] rfl 4 4 rfl rfl rfl hl.1 rfl (Nat.le_of_ble_eq_true rfl) dX9_pupil_68 ⟨Nat.le_of_ble_eq_true rfl, Nat.le_of_ble_eq_true rfl⟩ (fun r30 h31 => ?_)
        have h31 : (r30.toInt = dpF agr1 ans1 82) := h31
        have h31_0 := h31
        exact W.iret (v := r30) hx hb hr (fun tq ht hW => ⟨r30, rfl, (show spPup (gF agr0 agr1 agr2 agr3 (1 : Int32).toNatClampNeg) (aF ans0 ans1 ans2 ans3 (1 : Int32).toNatClampNeg) 82 (1 : Int32) wh r30 from by (first | exact Or.inl ⟨by omega, rfl⟩ | (refine Or.inr ⟨by omega, ?_⟩; first | exact Or.inl ⟨by omega, by assumption⟩ | exact Or.inr (Or.inl ⟨by omega, by assumption⟩) | exact Or.inr (Or.inr (Or.inl ⟨by omega, by assumption⟩)) | exact Or.inr (Or.inr (Or.inr (Or.inl ⟨by omega, by assumption⟩))) | exact Or.inr (Or.inr (Or.inr (Or.inr ⟨by omega, rfl⟩)))))), ht⟩) (fun q h => by cases h) dX9_pupil_71
      have nw20 : wh.toInt ≠ 0 := neC rfl rfl w20
      have nw23 : wh.toInt ≠ 1 := neC rfl rfl w23
      have nw26 : wh.toInt ≠ 2 := neC rfl rfl w26
      have nw29 : wh.toInt ≠ 3 := neC rfl rfl w29
      have o20 : wh.toInt < 0 ∨ 3 < wh.toInt := by rw [show wh.toInt = wh.toInt from rfl]; omega
      refine lv_tableOut (tgt := 72) hx hb dX9_pupil_20 o20 (by decide) ?_
      refine lv_bipush (v := (-3)) hx hb dX9_pupil_72 (by decide) ?_
      exact W.iret (v := (-3)) hx hb hr (fun tq ht hW => ⟨(-3), rfl, (show spPup (gF agr0 agr1 agr2 agr3 (1 : Int32).toNatClampNeg) (aF ans0 ans1 ans2 ans3 (1 : Int32).toNatClampNeg) 82 (1 : Int32) wh ((-3) : Int32) from by (try rw [show ((-3) : Int32).toInt = (-3) from (show ((-3) : Int32).toInt = (-3) from rfl)]); (first | exact Or.inl ⟨by omega, rfl⟩ | (refine Or.inr ⟨by omega, ?_⟩; first | exact Or.inl ⟨by omega, by assumption⟩ | exact Or.inr (Or.inl ⟨by omega, by assumption⟩) | exact Or.inr (Or.inr (Or.inl ⟨by omega, by assumption⟩)) | exact Or.inr (Or.inr (Or.inr (Or.inl ⟨by omega, by assumption⟩))) | exact Or.inr (Or.inr (Or.inr (Or.inr ⟨by omega, rfl⟩)))))), ht⟩) (fun q h => by cases h) dX9_pupil_74
    · have kc32 : (2 : Int32).toInt = 2 := rfl
      refine lv_aload_n hx hb dX9_pupil_12 rfl (lv_at hl 0 rfl) ?_
      refine va_get (D := (dC, dI)) (ci := 9) (v := .ref (a 33)) (C := RX9) (T := TX9) (N := 11) hx hb hts inX9 hown hK hP 0 rfl rfl 7 (by decide) lf64 (fun _ h9 => h9) rfl dX9_pupil_13 ?_
      refine lv_iload_n hx hb dX9_pupil_16 rfl (lv_at hl 1 rfl) ?_
      have b33 : vp_in 2 4 := (show ¬ _ from by decide)
      refine va_aldq hx hb hK hP 1 2 rfl rfl b33 dX9_pupil_17 ?_
      refine W.eq (g2 := F0 m 18 ls [.ref (a 38)]) rfl ?_
      refine lv_astore_n (lv' := [(3, .ref (a 38)), (0, .ref (a 43)), (1, .int 2), (2, .int wh)]) hx hb dX9_pupil_18 rfl hl (by decide) rfl (fun ls hl => ?_)
      refine lv_iload_n hx hb dX9_pupil_19 rfl (lv_at hl 3 rfl) ?_
      by_cases w34 : wh = 0
      · have dw34 : wh.toInt = 0 := eqC rfl rfl w34
        refine lv_tableIn (off := 32) (tgt := 52) hx hb dX9_pupil_20 (by rw [w34]; decide) (by rw [w34]; decide) (by rw [w34]; decide) (by decide) ?_
        refine lv_aload_n hx hb dX9_pupil_52 rfl (lv_at hl 0 rfl) ?_
        refine rdV (As := []) (rest := []) ⟨hx, hb, hml, hown, hts⟩ (k_X4_tablesThatMayBe2 l dC dI cI cZ cQ (a 38) (a 39) agr2 ans2 r_ans2) (cwV 0 hts gX9_pupil_X4_tablesThatMayBe rfl rfl rfl (by decide +kernel) ⟨Nat.le_of_ble_eq_true rfl, Nat.le_of_ble_eq_true rfl⟩) hP hK hN [6, 7] rfl 6 4 rfl rfl rfl hl.1 rfl (Nat.le_of_ble_eq_true rfl) dX9_pupil_53 ⟨Nat.le_of_ble_eq_true rfl, Nat.le_of_ble_eq_true rfl⟩ (fun r35 h36 => ?_)
        have h36 : (0 ≤ r35.toInt) ∧ (r35.toInt ≤ 81) ∧ (r35.toInt = mayF agr2 ans2 81) := h36
        obtain ⟨h36_0, h36_1, h36_2⟩ := h36
        exact W.iret (v := r35) hx hb hr (fun tq ht hW => ⟨r35, rfl, (show spPup (gF agr0 agr1 agr2 agr3 (2 : Int32).toNatClampNeg) (aF ans0 ans1 ans2 ans3 (2 : Int32).toNatClampNeg) 82 (2 : Int32) wh r35 from by (first | exact Or.inl ⟨by omega, rfl⟩ | (refine Or.inr ⟨by omega, ?_⟩; first | exact Or.inl ⟨by omega, by assumption⟩ | exact Or.inr (Or.inl ⟨by omega, by assumption⟩) | exact Or.inr (Or.inr (Or.inl ⟨by omega, by assumption⟩)) | exact Or.inr (Or.inr (Or.inr (Or.inl ⟨by omega, by assumption⟩))) | exact Or.inr (Or.inr (Or.inr (Or.inr ⟨by omega, rfl⟩)))))), ht⟩) (fun q h => by cases h) dX9_pupil_56
      by_cases w37 : wh = 1
      · have dw37 : wh.toInt = 1 := eqC rfl rfl w37
        refine lv_tableIn (off := 37) (tgt := 57) hx hb dX9_pupil_20 (by rw [w37]; decide) (by rw [w37]; decide) (by rw [w37]; decide) (by decide) ?_
        refine lv_aload_n hx hb dX9_pupil_57 rfl (lv_at hl 0 rfl) ?_
        refine rdV (As := []) (rest := []) ⟨hx, hb, hml, hown, hts⟩ (k_X4_nameOfLikeliest2 l dC dI cI cZ cQ (a 38) (a 39) agr2 ans2 r_ans2) (cwV 0 hts gX9_pupil_X4_nameOfLikeliest rfl rfl rfl (by decide +kernel) ⟨Nat.le_of_ble_eq_true rfl, Nat.le_of_ble_eq_true rfl⟩) hP hK hN [6, 7] rfl 6 4 rfl rfl rfl hl.1 rfl (Nat.le_of_ble_eq_true rfl) dX9_pupil_58 ⟨Nat.le_of_ble_eq_true rfl, Nat.le_of_ble_eq_true rfl⟩ (fun r38 h39 => ?_)
        have h39 : (r38.toInt = nmL (lkF agr2 80)) := h39
        have h39_0 := h39
        exact W.iret (v := r38) hx hb hr (fun tq ht hW => ⟨r38, rfl, (show spPup (gF agr0 agr1 agr2 agr3 (2 : Int32).toNatClampNeg) (aF ans0 ans1 ans2 ans3 (2 : Int32).toNatClampNeg) 82 (2 : Int32) wh r38 from by (first | exact Or.inl ⟨by omega, rfl⟩ | (refine Or.inr ⟨by omega, ?_⟩; first | exact Or.inl ⟨by omega, by assumption⟩ | exact Or.inr (Or.inl ⟨by omega, by assumption⟩) | exact Or.inr (Or.inr (Or.inl ⟨by omega, by assumption⟩)) | exact Or.inr (Or.inr (Or.inr (Or.inl ⟨by omega, by assumption⟩))) | exact Or.inr (Or.inr (Or.inr (Or.inr ⟨by omega, rfl⟩)))))), ht⟩) (fun q h => by cases h) dX9_pupil_61
      by_cases w40 : wh = 2
      · have dw40 : wh.toInt = 2 := eqC rfl rfl w40
        refine lv_tableIn (off := 42) (tgt := 62) hx hb dX9_pupil_20 (by rw [w40]; decide) (by rw [w40]; decide) (by rw [w40]; decide) (by decide) ?_
        refine lv_aload_n hx hb dX9_pupil_62 rfl (lv_at hl 0 rfl) ?_
        refine rdV (As := []) (rest := []) ⟨hx, hb, hml, hown, hts⟩ (k_X4_agreementOfLikeliest2 l dC dI cI cZ cQ (a 38) (a 39) agr2 ans2 r_ans2) (cwV 0 hts gX9_pupil_X4_agreementOfLikeliest rfl rfl rfl (by decide +kernel) ⟨Nat.le_of_ble_eq_true rfl, Nat.le_of_ble_eq_true rfl⟩) hP hK hN [6, 7] rfl 6 4 rfl rfl rfl hl.1 rfl (Nat.le_of_ble_eq_true rfl) dX9_pupil_63 ⟨Nat.le_of_ble_eq_true rfl, Nat.le_of_ble_eq_true rfl⟩ (fun r41 h42 => ?_)
        have h42 : (r41 = agr2 (lkF agr2 80)) := h42
        have h42_0 := h42
        exact W.iret (v := r41) hx hb hr (fun tq ht hW => ⟨r41, rfl, (show spPup (gF agr0 agr1 agr2 agr3 (2 : Int32).toNatClampNeg) (aF ans0 ans1 ans2 ans3 (2 : Int32).toNatClampNeg) 82 (2 : Int32) wh r41 from by (first | exact Or.inl ⟨by omega, rfl⟩ | (refine Or.inr ⟨by omega, ?_⟩; first | exact Or.inl ⟨by omega, by assumption⟩ | exact Or.inr (Or.inl ⟨by omega, by assumption⟩) | exact Or.inr (Or.inr (Or.inl ⟨by omega, by assumption⟩)) | exact Or.inr (Or.inr (Or.inr (Or.inl ⟨by omega, by assumption⟩))) | exact Or.inr (Or.inr (Or.inr (Or.inr ⟨by omega, rfl⟩)))))), ht⟩) (fun q h => by cases h) dX9_pupil_66
      by_cases w43 : wh = 3
      · have dw43 : wh.toInt = 3 := eqC rfl rfl w43
        refine lv_tableIn (off := 47) (tgt := 67) hx hb dX9_pupil_20 (by rw [w43]; decide) (by rw [w43]; decide) (by rw [w43]; decide) (by decide) ?_
        refine lv_aload_n hx hb dX9_pupil_67 rfl (lv_at hl 0 rfl) ?_
        refine rdV (As := []) (rest := []) ⟨hx, hb, hml, hown, hts⟩ (k_X4_dayThatParts2 l dC dI cI cZ cQ (a 38) (a 39) agr2 ans2 r_ans2) (cwV 0 hts gX9_pupil_X4_dayThatParts rfl rfl rfl (by decide +kernel) ⟨Nat.le_of_ble_eq_true rfl, Nat.le_of_ble_eq_true rfl⟩) hP hK hN [6, 7] rfl 6 4 rfl rfl rfl hl.1 rfl (Nat.le_of_ble_eq_true rfl) dX9_pupil_68 ⟨Nat.le_of_ble_eq_true rfl, Nat.le_of_ble_eq_true rfl⟩ (fun r44 h45 => ?_)
        have h45 : (r44.toInt = dpF agr2 ans2 82) := h45
        have h45_0 := h45
        exact W.iret (v := r44) hx hb hr (fun tq ht hW => ⟨r44, rfl, (show spPup (gF agr0 agr1 agr2 agr3 (2 : Int32).toNatClampNeg) (aF ans0 ans1 ans2 ans3 (2 : Int32).toNatClampNeg) 82 (2 : Int32) wh r44 from by (first | exact Or.inl ⟨by omega, rfl⟩ | (refine Or.inr ⟨by omega, ?_⟩; first | exact Or.inl ⟨by omega, by assumption⟩ | exact Or.inr (Or.inl ⟨by omega, by assumption⟩) | exact Or.inr (Or.inr (Or.inl ⟨by omega, by assumption⟩)) | exact Or.inr (Or.inr (Or.inr (Or.inl ⟨by omega, by assumption⟩))) | exact Or.inr (Or.inr (Or.inr (Or.inr ⟨by omega, rfl⟩)))))), ht⟩) (fun q h => by cases h) dX9_pupil_71
      have nw34 : wh.toInt ≠ 0 := neC rfl rfl w34
      have nw37 : wh.toInt ≠ 1 := neC rfl rfl w37
      have nw40 : wh.toInt ≠ 2 := neC rfl rfl w40
      have nw43 : wh.toInt ≠ 3 := neC rfl rfl w43
      have o20 : wh.toInt < 0 ∨ 3 < wh.toInt := by rw [show wh.toInt = wh.toInt from rfl]; omega
      refine lv_tableOut (tgt := 72) hx hb dX9_pupil_20 o20 (by decide) ?_
      refine lv_bipush (v := (-3)) hx hb dX9_pupil_72 (by decide) ?_
      exact W.iret (v := (-3)) hx hb hr (fun tq ht hW => ⟨(-3), rfl, (show spPup (gF agr0 agr1 agr2 agr3 (2 : Int32).toNatClampNeg) (aF ans0 ans1 ans2 ans3 (2 : Int32).toNatClampNeg) 82 (2 : Int32) wh ((-3) : Int32) from by (try rw [show ((-3) : Int32).toInt = (-3) from (show ((-3) : Int32).toInt = (-3) from rfl)]); (first | exact Or.inl ⟨by omega, rfl⟩ | (refine Or.inr ⟨by omega, ?_⟩; first | exact Or.inl ⟨by omega, by assumption⟩ | exact Or.inr (Or.inl ⟨by omega, by assumption⟩) | exact Or.inr (Or.inr (Or.inl ⟨by omega, by assumption⟩)) | exact Or.inr (Or.inr (Or.inr (Or.inl ⟨by omega, by assumption⟩))) | exact Or.inr (Or.inr (Or.inr (Or.inr ⟨by omega, rfl⟩)))))), ht⟩) (fun q h => by cases h) dX9_pupil_74
    · have kc46 : (3 : Int32).toInt = 3 := rfl
      refine lv_aload_n hx hb dX9_pupil_12 rfl (lv_at hl 0 rfl) ?_
      refine va_get (D := (dC, dI)) (ci := 9) (v := .ref (a 33)) (C := RX9) (T := TX9) (N := 11) hx hb hts inX9 hown hK hP 0 rfl rfl 7 (by decide) lf64 (fun _ h9 => h9) rfl dX9_pupil_13 ?_
      refine lv_iload_n hx hb dX9_pupil_16 rfl (lv_at hl 1 rfl) ?_
      have b47 : vp_in 3 4 := (show ¬ _ from by decide)
      refine va_aldq hx hb hK hP 1 2 rfl rfl b47 dX9_pupil_17 ?_
      refine W.eq (g2 := F0 m 18 ls [.ref (a 40)]) rfl ?_
      refine lv_astore_n (lv' := [(3, .ref (a 40)), (0, .ref (a 43)), (1, .int 3), (2, .int wh)]) hx hb dX9_pupil_18 rfl hl (by decide) rfl (fun ls hl => ?_)
      refine lv_iload_n hx hb dX9_pupil_19 rfl (lv_at hl 3 rfl) ?_
      by_cases w48 : wh = 0
      · have dw48 : wh.toInt = 0 := eqC rfl rfl w48
        refine lv_tableIn (off := 32) (tgt := 52) hx hb dX9_pupil_20 (by rw [w48]; decide) (by rw [w48]; decide) (by rw [w48]; decide) (by decide) ?_
        refine lv_aload_n hx hb dX9_pupil_52 rfl (lv_at hl 0 rfl) ?_
        refine rdV (As := []) (rest := []) ⟨hx, hb, hml, hown, hts⟩ (k_X4_tablesThatMayBe2 l dC dI cI cZ cQ (a 40) (a 41) agr3 ans3 r_ans3) (cwV 0 hts gX9_pupil_X4_tablesThatMayBe rfl rfl rfl (by decide +kernel) ⟨Nat.le_of_ble_eq_true rfl, Nat.le_of_ble_eq_true rfl⟩) hP hK hN [8, 9] rfl 8 4 rfl rfl rfl hl.1 rfl (Nat.le_of_ble_eq_true rfl) dX9_pupil_53 ⟨Nat.le_of_ble_eq_true rfl, Nat.le_of_ble_eq_true rfl⟩ (fun r49 h50 => ?_)
        have h50 : (0 ≤ r49.toInt) ∧ (r49.toInt ≤ 81) ∧ (r49.toInt = mayF agr3 ans3 81) := h50
        obtain ⟨h50_0, h50_1, h50_2⟩ := h50
        exact W.iret (v := r49) hx hb hr (fun tq ht hW => ⟨r49, rfl, (show spPup (gF agr0 agr1 agr2 agr3 (3 : Int32).toNatClampNeg) (aF ans0 ans1 ans2 ans3 (3 : Int32).toNatClampNeg) 82 (3 : Int32) wh r49 from by (first | exact Or.inl ⟨by omega, rfl⟩ | (refine Or.inr ⟨by omega, ?_⟩; first | exact Or.inl ⟨by omega, by assumption⟩ | exact Or.inr (Or.inl ⟨by omega, by assumption⟩) | exact Or.inr (Or.inr (Or.inl ⟨by omega, by assumption⟩)) | exact Or.inr (Or.inr (Or.inr (Or.inl ⟨by omega, by assumption⟩))) | exact Or.inr (Or.inr (Or.inr (Or.inr ⟨by omega, rfl⟩)))))), ht⟩) (fun q h => by cases h) dX9_pupil_56
      by_cases w51 : wh = 1
      · have dw51 : wh.toInt = 1 := eqC rfl rfl w51
        refine lv_tableIn (off := 37) (tgt := 57) hx hb dX9_pupil_20 (by rw [w51]; decide) (by rw [w51]; decide) (by rw [w51]; decide) (by decide) ?_
        refine lv_aload_n hx hb dX9_pupil_57 rfl (lv_at hl 0 rfl) ?_
        refine rdV (As := []) (rest := []) ⟨hx, hb, hml, hown, hts⟩ (k_X4_nameOfLikeliest2 l dC dI cI cZ cQ (a 40) (a 41) agr3 ans3 r_ans3) (cwV 0 hts gX9_pupil_X4_nameOfLikeliest rfl rfl rfl (by decide +kernel) ⟨Nat.le_of_ble_eq_true rfl, Nat.le_of_ble_eq_true rfl⟩) hP hK hN [8, 9] rfl 8 4 rfl rfl rfl hl.1 rfl (Nat.le_of_ble_eq_true rfl) dX9_pupil_58 ⟨Nat.le_of_ble_eq_true rfl, Nat.le_of_ble_eq_true rfl⟩ (fun r52 h53 => ?_)
        have h53 : (r52.toInt = nmL (lkF agr3 80)) := h53
        have h53_0 := h53
        exact W.iret (v := r52) hx hb hr (fun tq ht hW => ⟨r52, rfl, (show spPup (gF agr0 agr1 agr2 agr3 (3 : Int32).toNatClampNeg) (aF ans0 ans1 ans2 ans3 (3 : Int32).toNatClampNeg) 82 (3 : Int32) wh r52 from by (first | exact Or.inl ⟨by omega, rfl⟩ | (refine Or.inr ⟨by omega, ?_⟩; first | exact Or.inl ⟨by omega, by assumption⟩ | exact Or.inr (Or.inl ⟨by omega, by assumption⟩) | exact Or.inr (Or.inr (Or.inl ⟨by omega, by assumption⟩)) | exact Or.inr (Or.inr (Or.inr (Or.inl ⟨by omega, by assumption⟩))) | exact Or.inr (Or.inr (Or.inr (Or.inr ⟨by omega, rfl⟩)))))), ht⟩) (fun q h => by cases h) dX9_pupil_61
      by_cases w54 : wh = 2
      · have dw54 : wh.toInt = 2 := eqC rfl rfl w54
        refine lv_tableIn (off := 42) (tgt := 62) hx hb dX9_pupil_20 (by rw [w54]; decide) (by rw [w54]; decide) (by rw [w54]; decide) (by decide) ?_
        refine lv_aload_n hx hb dX9_pupil_62 rfl (lv_at hl 0 rfl) ?_
        refine rdV (As := []) (rest := []) ⟨hx, hb, hml, hown, hts⟩ (k_X4_agreementOfLikeliest2 l dC dI cI cZ cQ (a 40) (a 41) agr3 ans3 r_ans3) (cwV 0 hts gX9_pupil_X4_agreementOfLikeliest rfl rfl rfl (by decide +kernel) ⟨Nat.le_of_ble_eq_true rfl, Nat.le_of_ble_eq_true rfl⟩) hP hK hN [8, 9] rfl 8 4 rfl rfl rfl hl.1 rfl (Nat.le_of_ble_eq_true rfl) dX9_pupil_63 ⟨Nat.le_of_ble_eq_true rfl, Nat.le_of_ble_eq_true rfl⟩ (fun r55 h56 => ?_)
        have h56 : (r55 = agr3 (lkF agr3 80)) := h56
        have h56_0 := h56
        exact W.iret (v := r55) hx hb hr (fun tq ht hW => ⟨r55, rfl, (show spPup (gF agr0 agr1 agr2 agr3 (3 : Int32).toNatClampNeg) (aF ans0 ans1 ans2 ans3 (3 : Int32).toNatClampNeg) 82 (3 : Int32) wh r55 from by (first | exact Or.inl ⟨by omega, rfl⟩ | (refine Or.inr ⟨by omega, ?_⟩; first | exact Or.inl ⟨by omega, by assumption⟩ | exact Or.inr (Or.inl ⟨by omega, by assumption⟩) | exact Or.inr (Or.inr (Or.inl ⟨by omega, by assumption⟩)) | exact Or.inr (Or.inr (Or.inr (Or.inl ⟨by omega, by assumption⟩))) | exact Or.inr (Or.inr (Or.inr (Or.inr ⟨by omega, rfl⟩)))))), ht⟩) (fun q h => by cases h) dX9_pupil_66
      by_cases w57 : wh = 3
      · have dw57 : wh.toInt = 3 := eqC rfl rfl w57
        refine lv_tableIn (off := 47) (tgt := 67) hx hb dX9_pupil_20 (by rw [w57]; decide) (by rw [w57]; decide) (by rw [w57]; decide) (by decide) ?_
        refine lv_aload_n hx hb dX9_pupil_67 rfl (lv_at hl 0 rfl) ?_
        refine rdV (As := []) (rest := []) ⟨hx, hb, hml, hown, hts⟩ (k_X4_dayThatParts2 l dC dI cI cZ cQ (a 40) (a 41) agr3 ans3 r_ans3) (cwV 0 hts gX9_pupil_X4_dayThatParts rfl rfl rfl (by decide +kernel) ⟨Nat.le_of_ble_eq_true rfl, Nat.le_of_ble_eq_true rfl⟩) hP hK hN [8, 9] rfl 8 4 rfl rfl rfl hl.1 rfl (Nat.le_of_ble_eq_true rfl) dX9_pupil_68 ⟨Nat.le_of_ble_eq_true rfl, Nat.le_of_ble_eq_true rfl⟩ (fun r58 h59 => ?_)
        have h59 : (r58.toInt = dpF agr3 ans3 82) := h59
        have h59_0 := h59
        exact W.iret (v := r58) hx hb hr (fun tq ht hW => ⟨r58, rfl, (show spPup (gF agr0 agr1 agr2 agr3 (3 : Int32).toNatClampNeg) (aF ans0 ans1 ans2 ans3 (3 : Int32).toNatClampNeg) 82 (3 : Int32) wh r58 from by (first | exact Or.inl ⟨by omega, rfl⟩ | (refine Or.inr ⟨by omega, ?_⟩; first | exact Or.inl ⟨by omega, by assumption⟩ | exact Or.inr (Or.inl ⟨by omega, by assumption⟩) | exact Or.inr (Or.inr (Or.inl ⟨by omega, by assumption⟩)) | exact Or.inr (Or.inr (Or.inr (Or.inl ⟨by omega, by assumption⟩))) | exact Or.inr (Or.inr (Or.inr (Or.inr ⟨by omega, rfl⟩)))))), ht⟩) (fun q h => by cases h) dX9_pupil_71
      have nw48 : wh.toInt ≠ 0 := neC rfl rfl w48
      have nw51 : wh.toInt ≠ 1 := neC rfl rfl w51
      have nw54 : wh.toInt ≠ 2 := neC rfl rfl w54
      have nw57 : wh.toInt ≠ 3 := neC rfl rfl w57
      have o20 : wh.toInt < 0 ∨ 3 < wh.toInt := by rw [show wh.toInt = wh.toInt from rfl]; omega
      refine lv_tableOut (tgt := 72) hx hb dX9_pupil_20 o20 (by decide) ?_
      refine lv_bipush (v := (-3)) hx hb dX9_pupil_72 (by decide) ?_
      exact W.iret (v := (-3)) hx hb hr (fun tq ht hW => ⟨(-3), rfl, (show spPup (gF agr0 agr1 agr2 agr3 (3 : Int32).toNatClampNeg) (aF ans0 ans1 ans2 ans3 (3 : Int32).toNatClampNeg) 82 (3 : Int32) wh ((-3) : Int32) from by (try rw [show ((-3) : Int32).toInt = (-3) from (show ((-3) : Int32).toInt = (-3) from rfl)]); (first | exact Or.inl ⟨by omega, rfl⟩ | (refine Or.inr ⟨by omega, ?_⟩; first | exact Or.inl ⟨by omega, by assumption⟩ | exact Or.inr (Or.inl ⟨by omega, by assumption⟩) | exact Or.inr (Or.inr (Or.inl ⟨by omega, by assumption⟩)) | exact Or.inr (Or.inr (Or.inr (Or.inl ⟨by omega, by assumption⟩))) | exact Or.inr (Or.inr (Or.inr (Or.inr ⟨by omega, rfl⟩)))))), ht⟩) (fun q h => by cases h) dX9_pupil_74
  · refine lv_if_ne (tgt := 12) hx hb dX9_pupil_6 (by decide) (fun c9 => absurd (by decide) c9) (fun _ => ?_)
    refine lv_bipush (v := (-2)) hx hb dX9_pupil_9 (by decide) ?_
    exact W.iret (v := (-2)) hx hb hr (fun tq ht hW => ⟨(-2), rfl, (show spPup (gF agr0 agr1 agr2 agr3 pp.toNatClampNeg) (aF ans0 ans1 ans2 ans3 pp.toNatClampNeg) 82 pp wh ((-2) : Int32) from by (try rw [show ((-2) : Int32).toInt = (-2) from (show ((-2) : Int32).toInt = (-2) from rfl)]); (first | exact Or.inl ⟨by omega, rfl⟩ | (refine Or.inr ⟨by omega, ?_⟩; first | exact Or.inl ⟨by omega, by assumption⟩ | exact Or.inr (Or.inl ⟨by omega, by assumption⟩) | exact Or.inr (Or.inr (Or.inl ⟨by omega, by assumption⟩)) | exact Or.inr (Or.inr (Or.inr (Or.inl ⟨by omega, by assumption⟩))) | exact Or.inr (Or.inr (Or.inr (Or.inr ⟨by omega, rfl⟩)))))), ht⟩) (fun q h => by cases h) dX9_pupil_11
set_option maxHeartbeats 4000000 in
set_option maxRecDepth 100000 in
theorem k_X9_answer2 (l : Launch) (dC : Nat → ClassId) (dI : Nat → Nat → Nat) (cI cZ cQ : ClassId) (a : Nat → Nat) (rb0 : Nat) (rb1 : Nat) (rb2 : Nat) (db0 : Nat) (db1 : Nat) (db2 : Nat) (agr0 : Nat → Int32) (ans0 : Int32) (agr1 : Nat → Int32) (ans1 : Int32) (agr2 : Nat → Int32) (ans2 : Int32) (agr3 : Nat → Int32) (ans3 : Int32) (sz : Nat) (pp : Int32) (dd : Int32) (ri : Int32) (r_ans0 : 0 ≤ ans0.toInt ∧ ans0.toInt ≤ 12) (r_ans1 : 0 ≤ ans1.toInt ∧ ans1.toInt ≤ 12) (r_ans2 : 0 ≤ ans2.toInt ∧ ans2.toInt ≤ 12) (r_ans3 : 0 ≤ ans3.toInt ∧ ans3.toInt ≤ 12) : KW l yX9_answer wsX9_answer { frames := 3, cells := 0, slots := 0, locals := 64 } (dC, dI) (TY cI cZ cQ) (wsPu cI cZ cQ a rb0 rb1 rb2 db0 db1 db2 agr0 ans0 agr1 ans1 agr2 ans2 agr3 ans3) [.ref (a 43), .int pp, .int dd, .int ri] sz 0 0 (fun (r : Int32) (u : US) => (spAnC (aF ans0 ans1 ans2 ans3) (gF agr0 agr1 agr2 agr3) pp dd ri r (aF (u.1 1 0) (u.1 3 0) (u.1 5 0) (u.1 7 0)) (gF (u.1 0) (u.1 2) (u.1 4) (u.1 6))) ∧ (0 ≤ (u.1 1 0).toInt ∧ (u.1 1 0).toInt ≤ 12) ∧ (0 ≤ (u.1 3 0).toInt ∧ (u.1 3 0).toInt ≤ 12) ∧ (0 ≤ (u.1 5 0).toInt ∧ (u.1 5 0).toInt ≤ 12) ∧ (0 ≤ (u.1 7 0).toInt ∧ (u.1 7 0).toInt ≤ 12)) (fun u : US => (wsPu cI cZ cQ a rb0 rb1 rb2 db0 db1 db2 (u.1 0) (u.1 1 0) (u.1 2) (u.1 3 0) (u.1 4) (u.1 5 0) (u.1 6) (u.1 7 0))) := by
  refine Met.ofW (cc := cX9_answer) (maxL := 5) (ret := (some .int)) (by decide) rfl ?_
  intro p e s m args below meth c s₁ B hml hv
  obtain ⟨rfl, hsz, hP, hK, hD0, hN⟩ := hv
  have hx := B.exec
  have hb := B.bytes
  have hr := B.returns
  have hts := atoms_spec (ws := wsX9_answer) B.pre
  have hown : s.vm.findClass RX9 = some m.cls := findClass_of_methodNamed B.named
  have hlocks := B.notSynchronized
  have lf64 := hts (.fieldLink RX9 64 "PalaceOfRooms" "pupils" "[LPalaceOfRooms$Pupil;") (List.mem_cons_of_mem _ (List.mem_append_left _ (List.mem_append_left _ (List.mem_of_getElem? (i := 0) rfl))))
  have inX9 : ∀ w ∈ wsX90, w ∈ wsX9_answer := fun w h => List.mem_cons_of_mem _ (List.mem_append_left _ (List.mem_append_right _ h))
  have lf236 := hN.use (w := .fieldLinkNest "PalaceOfRooms" 236 "PalaceOfRooms$Pupil" "answers" "I" "PalaceOfRooms") (List.mem_of_getElem? (i := 20) rfl) ([.ref (a 43), .int pp, .int dd, .int ri] : List Value).toArray
  have inX4 : ∀ w ∈ wsX40, w ∈ wsX9_answer := fun w h => List.mem_cons_of_mem _ (List.mem_append_right _ h)
  subst hsz
  have hD := hD0.self (sz := s.heap.size)
  generalize hAe : va_A (wsPu cI cZ cQ a rb0 rb1 rb2 db0 db1 db2 agr0 ans0 agr1 ans1 agr2 ans2 agr3 ans3) s.heap.size = A at hD ⊢
  have hA : ∀ q : Nat, s.heap.size ≤ q → A q := fun q h => by rw [← hAe]; exact Or.inr h
  have hS : va_S A s.heap s.heap [] := va_S.rf
  have hl := lv_entry ([.ref (a 43), .int pp, .int dd, .int ri]) (n := 5) (Nat.le_of_ble_eq_true rfl)
  rw [lg_entry_eq]
  generalize (lg_sl ([.ref (a 43), .int pp, .int dd, .int ri]) ++ List.replicate (5 - (lg_sl ([.ref (a 43), .int pp, .int dd, .int ri])).length) Slot.unset).toArray = ls at hl ⊢
  have hl : lv_has ls 5 [(0, .ref (a 43)), (1, .int pp), (2, .int dd), (3, .int ri)] := hl
  refine lv_iload_n hx hb dX9_answer_0 rfl (lv_at hl 1 rfl) ?_
  refine lv_iconst (v := 0) hx hb dX9_answer_1 (by decide) ?_
  refine lv_iconst (v := 3) hx hb dX9_answer_2 (by decide) ?_
  refine rdS (As := [.int pp, .int 0, .int 3]) (rest := []) ⟨hx, hb, hml, hown, hts⟩ (k_X9_within l dC dI cI cZ cQ pp (0 : Int32) (3 : Int32)) (va_cwS 3 hts gX9_answer_X9_within rfl rfl rfl (by decide +kernel) ⟨Nat.le_of_ble_eq_true rfl, Nat.le_of_ble_eq_true rfl⟩) hP hK hN [] rfl rfl hl.1 rfl (Nat.le_of_ble_eq_true rfl) dX9_answer_3 ⟨Nat.le_of_ble_eq_true rfl, Nat.le_of_ble_eq_true rfl⟩ (fun r1 h2 => ?_)
  have h2 : ((((r1 = 1) ∧ ((0) ≤ pp.toInt) ∧ (pp.toInt ≤ (3))) ∨ ((r1 = 0) ∧ (pp.toInt < (0) ∨ (3) < pp.toInt)))) := h2
  rcases h2 with (⟨rfl, h2_a0, h2_a1⟩ | ⟨rfl, h2_a0⟩)
  · refine lv_if_ne (tgt := 12) hx hb dX9_answer_6 (by decide) (fun _ => ?_) (fun c9 => absurd c9 (by decide))
    refine lv_iload_n hx hb dX9_answer_12 rfl (lv_at hl 2 rfl) ?_
    refine lv_iconst (v := 1) hx hb dX9_answer_13 (by decide) ?_
    refine lv_bipush (v := 60) hx hb dX9_answer_14 (by decide) ?_
    refine rdS (As := [.int dd, .int 1, .int 60]) (rest := []) ⟨hx, hb, hml, hown, hts⟩ (k_X9_within l dC dI cI cZ cQ dd (1 : Int32) (60 : Int32)) (va_cwS 3 hts gX9_answer_X9_within rfl rfl rfl (by decide +kernel) ⟨Nat.le_of_ble_eq_true rfl, Nat.le_of_ble_eq_true rfl⟩) hP hK hN [] rfl rfl hl.1 rfl (Nat.le_of_ble_eq_true rfl) dX9_answer_16 ⟨Nat.le_of_ble_eq_true rfl, Nat.le_of_ble_eq_true rfl⟩ (fun r3 h4 => ?_)
    have h4 : ((((r3 = 1) ∧ ((1) ≤ dd.toInt) ∧ (dd.toInt ≤ (60))) ∨ ((r3 = 0) ∧ (dd.toInt < (1) ∨ (60) < dd.toInt)))) := h4
    rcases h4 with (⟨rfl, h4_a0, h4_a1⟩ | ⟨rfl, h4_a0⟩)
    · refine lv_if_ne (tgt := 25) hx hb dX9_answer_19 (by decide) (fun _ => ?_) (fun c9 => absurd c9 (by decide))
      have hc5 : pp = 0 ∨ pp = 1 ∨ pp = 2 ∨ pp = 3 := by exact ci4 rfl (by omega)
      rcases hc5 with rfl | rfl | rfl | rfl
      · have kc6 : (0 : Int32).toInt = 0 := rfl
        refine lv_aload_n hx hb dX9_answer_25 rfl (lv_at hl 0 rfl) ?_
        refine va_get (D := (dC, dI)) (ci := 9) (v := .ref (a 33)) (C := RX9) (T := TX9) (N := 11) hx hb hts inX9 hown hK hP 0 rfl rfl 7 (by decide) lf64 (fun _ h9 => h9) rfl dX9_answer_26 ?_
        refine lv_iload_n hx hb dX9_answer_29 rfl (lv_at hl 1 rfl) ?_
        have b7 : vp_in 0 4 := (show ¬ _ from by decide)
        refine va_aldq hx hb hK hP 1 2 rfl rfl b7 dX9_answer_30 ?_
        refine W.eq (g2 := F0 m 31 ls [.ref (a 34)]) rfl ?_
        refine lv_astore (lv' := [(4, .ref (a 34)), (0, .ref (a 43)), (1, .int 0), (2, .int dd), (3, .int ri)]) hx hb dX9_answer_31 hl (by decide) rfl (fun ls hl => ?_)
        refine lv_aload hx hb dX9_answer_33 (lv_at hl 0 rfl) ?_
        refine va_getN (D := (dC, dI)) (ci := 4) (v := .int ans0) (C := RX4) (T := TX4) (N := 2) hx hb hts inX4 hown hK hP 2 rfl rfl 1 (by decide) lf236 (fun _ h9 => h9) rfl dX9_answer_35 ?_
        refine lv_bipush (v := 12) hx hb dX9_answer_38 (by decide) ?_
        refine lv_icmp_lt (tgt := 46) hx hb dX9_answer_40 (by decide) (fun c8 => ?_) (fun c8 => ?_)
        · have dc8 : ans0.toInt < 12 := ltC rfl (show (12 : Int32).toInt = 12 from rfl) c8
          refine lv_aload hx hb dX9_answer_46 (lv_at hl 0 rfl) ?_
          refine lv_iload_n hx hb dX9_answer_48 rfl (lv_at hl 3 rfl) ?_
          refine lv_iload_n hx hb dX9_answer_49 rfl (lv_at hl 4 rfl) ?_
          refine wvV (As := [.int dd, .int ri]) (rest := []) (wr := [((a 43), .inr (9, [.ref (a 0), .ref (a 2), .ref (a 4), .ref (a 14), .ref (a 16), .ref (a 23), .ref (a 28), .ref (a 33), .ref (a 42), .ref rb0, .ref db0])), ((a 33), .inl (cQ, 4, .inr (.inr (.inr (.inr (puF a)))))), ((a 36), .inr (4, [.ref (a 37), .int ans1])), ((a 37), .inl (cI, 81, .inl agr1)), ((a 38), .inr (4, [.ref (a 39), .int ans2])), ((a 39), .inl (cI, 81, .inl agr2)), ((a 40), .inr (4, [.ref (a 41), .int ans3])), ((a 41), .inl (cI, 81, .inl agr3))]) (w2 := (fun u : US => (wsPu cI cZ cQ a rb0 rb1 rb2 db0 db1 db2 (u.1 0) (u.1 1 0) agr1 ans1 agr2 ans2 agr3 ans3))) ⟨hx, hb, hml, hown, hts⟩ (k_X4_note2 l dC dI cI cZ cQ (a 34) (a 35) agr0 ans0 _ dd ri r_ans0 (by omega) (by omega) (by omega)) (cwV 2 hts gX9_answer_X4_note rfl rfl rfl (by decide +kernel) ⟨Nat.le_of_ble_eq_true rfl, Nat.le_of_ble_eq_true rfl⟩) hP hD hS hA hK hN [2, 3] [0, 1, 4, 5, 6, 7, 8, 9] [0, 1, 8, 9, 2, 3, 4, 5, 6, 7] rfl rfl (by decide) (by decide) (by decide) (fun _ => rfl) (by decide) 2 4 rfl rfl rfl hl.1 rfl (Nat.le_of_ble_eq_true rfl) dX9_answer_50 ⟨Nat.le_of_ble_eq_true rfl, Nat.le_of_ble_eq_true rfl⟩ (fun u11 H locs h10 hP hD hS => ?_)
          obtain ⟨agr0_c12, eagr0_c12⟩ : ∃ f : Nat → Int32, f = (u11.1 0) := ⟨_, rfl⟩
          obtain ⟨ans0_c13, eans0_c13⟩ : ∃ f : Int32, f = (u11.1 1 0) := ⟨_, rfl⟩
          have hP : va_P (dC, dI) vwCl (wsPu cI cZ cQ a rb0 rb1 rb2 db0 db1 db2 agr0_c12 ans0_c13 agr1 ans1 agr2 ans2 agr3 ans3) H := by rw [eagr0_c12, eans0_c13]; exact hP
          have hD : va_D A (wsPu cI cZ cQ a rb0 rb1 rb2 db0 db1 db2 agr0_c12 ans0_c13 agr1 ans1 agr2 ans2 agr3 ans3) := by rw [eagr0_c12, eans0_c13]; exact hD
          have h10 : (ans0_c13 = ans0 + 1) ∧ (∀ j : Nat, j < 81 → agr0_c12 j = agr0 j + incW (nI j) dd ri) ∧ (0 ≤ ans0_c13.toInt ∧ ans0_c13.toInt ≤ 12) := by (try rw [eagr0_c12]); (try rw [eans0_c13]); exact h10
          obtain ⟨h10_0, h10_1, h10_2⟩ := h10
          refine lv_aload hx hb dX9_answer_53 (lv_at hl 0 rfl) ?_
          refine va_getN (D := (dC, dI)) (ci := 4) (v := .int ans0_c13) (C := RX4) (T := TX4) (N := 2) hx hb hts inX4 hown hK hP 2 rfl rfl 1 (by decide) lf236 (fun _ h9 => h9) rfl dX9_answer_55 ?_
          exact W.iret (v := ans0_c13) hx hb hr (fun tq ht hW => ⟨⟨ans0_c13, (uS [agr0_c12, (fun _ => ans0_c13), agr1, (fun _ => ans1), agr2, (fun _ => ans2), agr3, (fun _ => ans3)] 0 (fun _ => 0)), rfl, ⟨(show spAnC (aF ans0 ans1 ans2 ans3) (gF agr0 agr1 agr2 agr3) (0 : Int32) dd ri ans0_c13 (aF ans0_c13 ans1 ans2 ans3) (gF agr0_c12 agr1 agr2 agr3) from by exact ⟨by (unfold spAns; first | exact Or.inl ⟨by omega, rfl, rfl⟩ | exact Or.inr (Or.inl ⟨by omega, by omega, rfl, rfl⟩) | exact Or.inr (Or.inr (Or.inl ⟨by omega, by omega, by (first | (show 12 ≤ ans0.toInt; omega) | (show 12 ≤ ans1.toInt; omega) | (show 12 ≤ ans2.toInt; omega) | (show 12 ≤ ans3.toInt; omega)), rfl, rfl⟩)) | exact Or.inr (Or.inr (Or.inr ⟨by omega, by omega, by (first | (show ans0.toInt < 12; omega) | (show ans1.toInt < 12; omega) | (show ans2.toInt < 12; omega) | (show ans3.toInt < 12; omega)), by (first | assumption | (show _ = ans0 + 1; assumption) | (show _ = ans1 + 1; assumption) | (show _ = ans2 + 1; assumption) | (show _ = ans3 + 1; assumption)), by (first | exact aF_u0 (by assumption) | exact aF_u1 (by assumption) | exact aF_u2 (by assumption) | exact aF_u3 (by assumption))⟩))), by (first | exact Or.inl ⟨by decide, fun q hq t ht => rfl⟩ | exact an_u0 (by omega) (by assumption) | exact an_u1 (by omega) (by assumption) | exact an_u2 (by omega) (by assumption) | exact an_u3 (by omega) (by assumption))⟩), h10_2, r_ans1, r_ans2, r_ans3⟩, by rw [ht]; exact hP, hD⟩, hS.F ht⟩) hS.2.2 dX9_answer_58
        · have dc8 : 12 ≤ ans0.toInt := nltC rfl (show (12 : Int32).toInt = 12 from rfl) c8
          refine lv_bipush (v := (-5)) hx hb dX9_answer_43 (by decide) ?_
          exact W.iret (v := (-5)) hx hb hr (fun tq ht hW => ⟨⟨(-5), (uS [agr0, (fun _ => ans0), agr1, (fun _ => ans1), agr2, (fun _ => ans2), agr3, (fun _ => ans3)] 0 (fun _ => 0)), rfl, ⟨(show spAnC (aF ans0 ans1 ans2 ans3) (gF agr0 agr1 agr2 agr3) (0 : Int32) dd ri ((-5) : Int32) (aF ans0 ans1 ans2 ans3) (gF agr0 agr1 agr2 agr3) from by (try rw [show ((-5) : Int32).toInt = (-5) from (show ((-5) : Int32).toInt = (-5) from rfl)]); exact ⟨by (unfold spAns; first | exact Or.inl ⟨by omega, rfl, rfl⟩ | exact Or.inr (Or.inl ⟨by omega, by omega, rfl, rfl⟩) | exact Or.inr (Or.inr (Or.inl ⟨by omega, by omega, by (first | (show 12 ≤ ans0.toInt; omega) | (show 12 ≤ ans1.toInt; omega) | (show 12 ≤ ans2.toInt; omega) | (show 12 ≤ ans3.toInt; omega)), rfl, rfl⟩)) | exact Or.inr (Or.inr (Or.inr ⟨by omega, by omega, by (first | (show ans0.toInt < 12; omega) | (show ans1.toInt < 12; omega) | (show ans2.toInt < 12; omega) | (show ans3.toInt < 12; omega)), by (first | assumption | (show _ = ans0 + 1; assumption) | (show _ = ans1 + 1; assumption) | (show _ = ans2 + 1; assumption) | (show _ = ans3 + 1; assumption)), by (first | exact aF_u0 (by assumption) | exact aF_u1 (by assumption) | exact aF_u2 (by assumption) | exact aF_u3 (by assumption))⟩))), by (first | exact Or.inl ⟨by decide, fun q hq t ht => rfl⟩ | exact an_u0 (by omega) (by assumption) | exact an_u1 (by omega) (by assumption) | exact an_u2 (by omega) (by assumption) | exact an_u3 (by omega) (by assumption))⟩), r_ans0, r_ans1, r_ans2, r_ans3⟩, by rw [ht]; exact hP, hD⟩, hS.F ht⟩) hS.2.2 dX9_answer_45
      · have kc14 : (1 : Int32).toInt = 1 := rfl
        refine lv_aload_n hx hb dX9_answer_25 rfl (lv_at hl 0 rfl) ?_
        refine va_get (D := (dC, dI)) (ci := 9) (v := .ref (a 33)) (C := RX9) (T := TX9) (N := 11) hx hb hts inX9 hown hK hP 0 rfl rfl 7 (by decide) lf64 (fun _ h9 => h9) rfl dX9_answer_26 ?_
        refine lv_iload_n hx hb dX9_answer_29 rfl (lv_at hl 1 rfl) ?_
        have b15 : vp_in 1 4 := (show ¬ _ from by decide)
        refine va_aldq hx hb hK hP 1 2 rfl rfl b15 dX9_answer_30 ?_
        refine W.eq (g2 := F0 m 31 ls [.ref (a 36)]) rfl ?_
        refine lv_astore (lv' := [(4, .ref (a 36)), (0, .ref (a 43)), (1, .int 1), (2, .int dd), (3, .int ri)]) hx hb dX9_answer_31 hl (by decide) rfl (fun ls hl => ?_)
        refine lv_aload hx hb dX9_answer_33 (lv_at hl 0 rfl) ?_
        refine va_getN (D := (dC, dI)) (ci := 4) (v := .int ans1) (C := RX4) (T := TX4) (N := 2) hx hb hts inX4 hown hK hP 4 rfl rfl 1 (by decide) lf236 (fun _ h9 => h9) rfl dX9_answer_35 ?_
        refine lv_bipush (v := 12) hx hb dX9_answer_38 (by decide) ?_
        refine lv_icmp_lt (tgt := 46) hx hb dX9_answer_40 (by decide) (fun c16 => ?_) (fun c16 => ?_)
        · have dc16 : ans1.toInt < 12 := ltC rfl (show (12 : Int32).toInt = 12 from rfl) c16
          refine lv_aload hx hb dX9_answer_46 (lv_at hl 0 rfl) ?_
          refine lv_iload_n hx hb dX9_answer_48 rfl (lv_at hl 3 rfl) ?_
          refine lv_iload_n hx hb dX9_answer_49 rfl (lv_at hl 4 rfl) ?_
          refine wvV (As := [.int dd, .int ri]) (rest := []) (wr := [((a 43), .inr (9, [.ref (a 0), .ref (a 2), .ref (a 4), .ref (a 14), .ref (a 16), .ref (a 23), .ref (a 28), .ref (a 33), .ref (a 42), .ref rb0, .ref db0])), ((a 33), .inl (cQ, 4, .inr (.inr (.inr (.inr (puF a)))))), ((a 34), .inr (4, [.ref (a 35), .int ans0])), ((a 35), .inl (cI, 81, .inl agr0)), ((a 38), .inr (4, [.ref (a 39), .int ans2])), ((a 39), .inl (cI, 81, .inl agr2)), ((a 40), .inr (4, [.ref (a 41), .int ans3])), ((a 41), .inl (cI, 81, .inl agr3))]) (w2 := (fun u : US => (wsPu cI cZ cQ a rb0 rb1 rb2 db0 db1 db2 agr0 ans0 (u.1 0) (u.1 1 0) agr2 ans2 agr3 ans3))) ⟨hx, hb, hml, hown, hts⟩ (k_X4_note2 l dC dI cI cZ cQ (a 36) (a 37) agr1 ans1 _ dd ri r_ans1 (by omega) (by omega) (by omega)) (cwV 2 hts gX9_answer_X4_note rfl rfl rfl (by decide +kernel) ⟨Nat.le_of_ble_eq_true rfl, Nat.le_of_ble_eq_true rfl⟩) hP hD hS hA hK hN [4, 5] [0, 1, 2, 3, 6, 7, 8, 9] [0, 1, 2, 3, 8, 9, 4, 5, 6, 7] rfl rfl (by decide) (by decide) (by decide) (fun _ => rfl) (by decide) 4 4 rfl rfl rfl hl.1 rfl (Nat.le_of_ble_eq_true rfl) dX9_answer_50 ⟨Nat.le_of_ble_eq_true rfl, Nat.le_of_ble_eq_true rfl⟩ (fun u19 H locs h18 hP hD hS => ?_)
          obtain ⟨agr1_c20, eagr1_c20⟩ : ∃ f : Nat → Int32, f = (u19.1 0) := ⟨_, rfl⟩
          obtain ⟨ans1_c21, eans1_c21⟩ : ∃ f : Int32, f = (u19.1 1 0) := ⟨_, rfl⟩
          have hP : va_P (dC, dI) vwCl (wsPu cI cZ cQ a rb0 rb1 rb2 db0 db1 db2 agr0 ans0 agr1_c20 ans1_c21 agr2 ans2 agr3 ans3) H := by rw [eagr1_c20, eans1_c21]; exact hP
          have hD : va_D A (wsPu cI cZ cQ a rb0 rb1 rb2 db0 db1 db2 agr0 ans0 agr1_c20 ans1_c21 agr2 ans2 agr3 ans3) := by rw [eagr1_c20, eans1_c21]; exact hD
          have h18 : (ans1_c21 = ans1 + 1) ∧ (∀ j : Nat, j < 81 → agr1_c20 j = agr1 j + incW (nI j) dd ri) ∧ (0 ≤ ans1_c21.toInt ∧ ans1_c21.toInt ≤ 12) := by (try rw [eagr1_c20]); (try rw [eans1_c21]); exact h18
          obtain ⟨h18_0, h18_1, h18_2⟩ := h18
          refine lv_aload hx hb dX9_answer_53 (lv_at hl 0 rfl) ?_
          refine va_getN (D := (dC, dI)) (ci := 4) (v := .int ans1_c21) (C := RX4) (T := TX4) (N := 2) hx hb hts inX4 hown hK hP 4 rfl rfl 1 (by decide) lf236 (fun _ h9 => h9) rfl dX9_answer_55 ?_
          exact W.iret (v := ans1_c21) hx hb hr (fun tq ht hW => ⟨⟨ans1_c21, (uS [agr0, (fun _ => ans0), agr1_c20, (fun _ => ans1_c21), agr2, (fun _ => ans2), agr3, (fun _ => ans3)] 0 (fun _ => 0)), rfl, ⟨(show spAnC (aF ans0 ans1 ans2 ans3) (gF agr0 agr1 agr2 agr3) (1 : Int32) dd ri ans1_c21 (aF ans0 ans1_c21 ans2 ans3) (gF agr0 agr1_c20 agr2 agr3) from by exact ⟨by (unfold spAns; first | exact Or.inl ⟨by omega, rfl, rfl⟩ | exact Or.inr (Or.inl ⟨by omega, by omega, rfl, rfl⟩) | exact Or.inr (Or.inr (Or.inl ⟨by omega, by omega, by (first | (show 12 ≤ ans0.toInt; omega) | (show 12 ≤ ans1.toInt; omega) | (show 12 ≤ ans2.toInt; omega) | (show 12 ≤ ans3.toInt; omega)), rfl, rfl⟩)) | exact Or.inr (Or.inr (Or.inr ⟨by omega, by omega, by (first | (show ans0.toInt < 12; omega) | (show ans1.toInt < 12; omega) | (show ans2.toInt < 12; omega) | (show ans3.toInt < 12; omega)), by (first | assumption | (show _ = ans0 + 1; assumption) | (show _ = ans1 + 1; assumption) | (show _ = ans2 + 1; assumption) | (show _ = ans3 + 1; assumption)), by (first | exact aF_u0 (by assumption) | exact aF_u1 (by assumption) | exact aF_u2 (by assumption) | exact aF_u3 (by assumption))⟩))), by (first | exact Or.inl ⟨by decide, fun q hq t ht => rfl⟩ | exact an_u0 (by omega) (by assumption) | exact an_u1 (by omega) (by assumption) | exact an_u2 (by omega) (by assumption) | exact an_u3 (by omega) (by assumption))⟩), r_ans0, h18_2, r_ans2, r_ans3⟩, by rw [ht]; exact hP, hD⟩, hS.F ht⟩) hS.2.2 dX9_answer_58
        · have dc16 : 12 ≤ ans1.toInt := nltC rfl (show (12 : Int32).toInt = 12 from rfl) c16
          refine lv_bipush (v := (-5)) hx hb dX9_answer_43 (by decide) ?_
          exact W.iret (v := (-5)) hx hb hr (fun tq ht hW => ⟨⟨(-5), (uS [agr0, (fun _ => ans0), agr1, (fun _ => ans1), agr2, (fun _ => ans2), agr3, (fun _ => ans3)] 0 (fun _ => 0)), rfl, ⟨(show spAnC (aF ans0 ans1 ans2 ans3) (gF agr0 agr1 agr2 agr3) (1 : Int32) dd ri ((-5) : Int32) (aF ans0 ans1 ans2 ans3) (gF agr0 agr1 agr2 agr3) from by (try rw [show ((-5) : Int32).toInt = (-5) from (show ((-5) : Int32).toInt = (-5) from rfl)]); exact ⟨by (unfold spAns; first | exact Or.inl ⟨by omega, rfl, rfl⟩ | exact Or.inr (Or.inl ⟨by omega, by omega, rfl, rfl⟩) | exact Or.inr (Or.inr (Or.inl ⟨by omega, by omega, by (first | (show 12 ≤ ans0.toInt; omega) | (show 12 ≤ ans1.toInt; omega) | (show 12 ≤ ans2.toInt; omega) | (show 12 ≤ ans3.toInt; omega)), rfl, rfl⟩)) | exact Or.inr (Or.inr (Or.inr ⟨by omega, by omega, by (first | (show ans0.toInt < 12; omega) | (show ans1.toInt < 12; omega) | (show ans2.toInt < 12; omega) | (show ans3.toInt < 12; omega)), by (first | assumption | (show _ = ans0 + 1; assumption) | (show _ = ans1 + 1; assumption) | (show _ = ans2 + 1; assumption) | (show _ = ans3 + 1; assumption)), by (first | exact aF_u0 (by assumption) | exact aF_u1 (by assumption) | exact aF_u2 (by assumption) | exact aF_u3 (by assumption))⟩))), by (first | exact Or.inl ⟨by decide, fun q hq t ht => rfl⟩ | exact an_u0 (by omega) (by assumption) | exact an_u1 (by omega) (by assumption) | exact an_u2 (by omega) (by assumption) | exact an_u3 (by omega) (by assumption))⟩), r_ans0, r_ans1, r_ans2, r_ans3⟩, by rw [ht]; exact hP, hD⟩, hS.F ht⟩) hS.2.2 dX9_answer_45
      · have kc22 : (2 : Int32).toInt = 2 := rfl
        refine lv_aload_n hx hb dX9_answer_25 rfl (lv_at hl 0 rfl) ?_
        refine va_get (D := (dC, dI)) (ci := 9) (v := .ref (a 33)) (C := RX9) (T := TX9) (N := 11) hx hb hts inX9 hown hK hP 0 rfl rfl 7 (by decide) lf64 (fun _ h9 => h9) rfl dX9_answer_26 ?_
        refine lv_iload_n hx hb dX9_answer_29 rfl (lv_at hl 1 rfl) ?_
        have b23 : vp_in 2 4 := (show ¬ _ from by decide)
        refine va_aldq hx hb hK hP 1 2 rfl rfl b23 dX9_answer_30 ?_
        refine W.eq (g2 := F0 m 31 ls [.ref (a 38)]) rfl ?_
        refine lv_astore (lv' := [(4, .ref (a 38)), (0, .ref (a 43)), (1, .int 2), (2, .int dd), (3, .int ri)]) hx hb dX9_answer_31 hl (by decide) rfl (fun ls hl => ?_)
        refine lv_aload hx hb dX9_answer_33 (lv_at hl 0 rfl) ?_
        refine va_getN (D := (dC, dI)) (ci := 4) (v := .int ans2) (C := RX4) (T := TX4) (N := 2) hx hb hts inX4 hown hK hP 6 rfl rfl 1 (by decide) lf236 (fun _ h9 => h9) rfl dX9_answer_35 ?_
        refine lv_bipush (v := 12) hx hb dX9_answer_38 (by decide) ?_
        refine lv_icmp_lt (tgt := 46) hx hb dX9_answer_40 (by decide) (fun c24 => ?_) (fun c24 => ?_)
        · have dc24 : ans2.toInt < 12 := ltC rfl (show (12 : Int32).toInt = 12 from rfl) c24
          refine lv_aload hx hb dX9_answer_46 (lv_at hl 0 rfl) ?_
          refine lv_iload_n hx hb dX9_answer_48 rfl (lv_at hl 3 rfl) ?_
          refine lv_iload_n hx hb dX9_answer_49 rfl (lv_at hl 4 rfl) ?_
          refine wvV (As := [.int dd, .int ri]) (rest := []) (wr := [((a 43), .inr (9, [.ref (a 0), .ref (a 2), .ref (a 4), .ref (a 14), .ref (a 16), .ref (a 23), .ref (a 28), .ref (a 33), .ref (a 42), .ref rb0, .ref db0])), ((a 33), .inl (cQ, 4, .inr (.inr (.inr (.inr (puF a)))))), ((a 34), .inr (4, [.ref (a 35), .int ans0])), ((a 35), .inl (cI, 81, .inl agr0)), ((a 36), .inr (4, [.ref (a 37), .int ans1])), ((a 37), .inl (cI, 81, .inl agr1)), ((a 40), .inr (4, [.ref (a 41), .int ans3])), ((a 41), .inl (cI, 81, .inl agr3))]) (w2 := (fun u : US => (wsPu cI cZ cQ a rb0 rb1 rb2 db0 db1 db2 agr0 ans0 agr1 ans1 (u.1 0) (u.1 1 0) agr3 ans3))) ⟨hx, hb, hml, hown, hts⟩ (k_X4_note2 l dC dI cI cZ cQ (a 38) (a 39) agr2 ans2 _ dd ri r_ans2 (by omega) (by omega) (by omega)) (cwV 2 hts gX9_answer_X4_note rfl rfl rfl (by decide +kernel) ⟨Nat.le_of_ble_eq_true rfl, Nat.le_of_ble_eq_true rfl⟩) hP hD hS hA hK hN [6, 7] [0, 1, 2, 3, 4, 5, 8, 9] [0, 1, 2, 3, 4, 5, 8, 9, 6, 7] rfl rfl (by decide) (by decide) (by decide) (fun _ => rfl) (by decide) 6 4 rfl rfl rfl hl.1 rfl (Nat.le_of_ble_eq_true rfl) dX9_answer_50 ⟨Nat.le_of_ble_eq_true rfl, Nat.le_of_ble_eq_true rfl⟩ (fun u27 H locs h26 hP hD hS => ?_)
          obtain ⟨agr2_c28, eagr2_c28⟩ : ∃ f : Nat → Int32, f = (u27.1 0) := ⟨_, rfl⟩
          obtain ⟨ans2_c29, eans2_c29⟩ : ∃ f : Int32, f = (u27.1 1 0) := ⟨_, rfl⟩
          have hP : va_P (dC, dI) vwCl (wsPu cI cZ cQ a rb0 rb1 rb2 db0 db1 db2 agr0 ans0 agr1 ans1 agr2_c28 ans2_c29 agr3 ans3) H := by rw [eagr2_c28, eans2_c29]; exact hP
          have hD : va_D A (wsPu cI cZ cQ a rb0 rb1 rb2 db0 db1 db2 agr0 ans0 agr1 ans1 agr2_c28 ans2_c29 agr3 ans3) := by rw [eagr2_c28, eans2_c29]; exact hD
          have h26 : (ans2_c29 = ans2 + 1) ∧ (∀ j : Nat, j < 81 → agr2_c28 j = agr2 j + incW (nI j) dd ri) ∧ (0 ≤ ans2_c29.toInt ∧ ans2_c29.toInt ≤ 12) := by (try rw [eagr2_c28]); (try rw [eans2_c29]); exact h26
          obtain ⟨h26_0, h26_1, h26_2⟩ := h26
          refine lv_aload hx hb dX9_answer_53 (lv_at hl 0 rfl) ?_
          refine va_getN (D := (dC, dI)) (ci := 4) (v := .int ans2_c29) (C := RX4) (T := TX4) (N := 2) hx hb hts inX4 hown hK hP 6 rfl rfl 1 (by decide) lf236 (fun _ h9 => h9) rfl dX9_answer_55 ?_
          exact W.iret (v := ans2_c29) hx hb hr (fun tq ht hW => ⟨⟨ans2_c29, (uS [agr0, (fun _ => ans0), agr1, (fun _ => ans1), agr2_c28, (fun _ => ans2_c29), agr3, (fun _ => ans3)] 0 (fun _ => 0)), rfl, ⟨(show spAnC (aF ans0 ans1 ans2 ans3) (gF agr0 agr1 agr2 agr3) (2 : Int32) dd ri ans2_c29 (aF ans0 ans1 ans2_c29 ans3) (gF agr0 agr1 agr2_c28 agr3) from by exact ⟨by (unfold spAns; first | exact Or.inl ⟨by omega, rfl, rfl⟩ | exact Or.inr (Or.inl ⟨by omega, by omega, rfl, rfl⟩) | exact Or.inr (Or.inr (Or.inl ⟨by omega, by omega, by (first | (show 12 ≤ ans0.toInt; omega) | (show 12 ≤ ans1.toInt; omega) | (show 12 ≤ ans2.toInt; omega) | (show 12 ≤ ans3.toInt; omega)), rfl, rfl⟩)) | exact Or.inr (Or.inr (Or.inr ⟨by omega, by omega, by (first | (show ans0.toInt < 12; omega) | (show ans1.toInt < 12; omega) | (show ans2.toInt < 12; omega) | (show ans3.toInt < 12; omega)), by (first | assumption | (show _ = ans0 + 1; assumption) | (show _ = ans1 + 1; assumption) | (show _ = ans2 + 1; assumption) | (show _ = ans3 + 1; assumption)), by (first | exact aF_u0 (by assumption) | exact aF_u1 (by assumption) | exact aF_u2 (by assumption) | exact aF_u3 (by assumption))⟩))), by (first | exact Or.inl ⟨by decide, fun q hq t ht => rfl⟩ | exact an_u0 (by omega) (by assumption) | exact an_u1 (by omega) (by assumption) | exact an_u2 (by omega) (by assumption) | exact an_u3 (by omega) (by assumption))⟩), r_ans0, r_ans1, h26_2, r_ans3⟩, by rw [ht]; exact hP, hD⟩, hS.F ht⟩) hS.2.2 dX9_answer_58
        · have dc24 : 12 ≤ ans2.toInt := nltC rfl (show (12 : Int32).toInt = 12 from rfl) c24
          refine lv_bipush (v := (-5)) hx hb dX9_answer_43 (by decide) ?_
          exact W.iret (v := (-5)) hx hb hr (fun tq ht hW => ⟨⟨(-5), (uS [agr0, (fun _ => ans0), agr1, (fun _ => ans1), agr2, (fun _ => ans2), agr3, (fun _ => ans3)] 0 (fun _ => 0)), rfl, ⟨(show spAnC (aF ans0 ans1 ans2 ans3) (gF agr0 agr1 agr2 agr3) (2 : Int32) dd ri ((-5) : Int32) (aF ans0 ans1 ans2 ans3) (gF agr0 agr1 agr2 agr3) from by (try rw [show ((-5) : Int32).toInt = (-5) from (show ((-5) : Int32).toInt = (-5) from rfl)]); exact ⟨by (unfold spAns; first | exact Or.inl ⟨by omega, rfl, rfl⟩ | exact Or.inr (Or.inl ⟨by omega, by omega, rfl, rfl⟩) | exact Or.inr (Or.inr (Or.inl ⟨by omega, by omega, by (first | (show 12 ≤ ans0.toInt; omega) | (show 12 ≤ ans1.toInt; omega) | (show 12 ≤ ans2.toInt; omega) | (show 12 ≤ ans3.toInt; omega)), rfl, rfl⟩)) | exact Or.inr (Or.inr (Or.inr ⟨by omega, by omega, by (first | (show ans0.toInt < 12; omega) | (show ans1.toInt < 12; omega) | (show ans2.toInt < 12; omega) | (show ans3.toInt < 12; omega)), by (first | assumption | (show _ = ans0 + 1; assumption) | (show _ = ans1 + 1; assumption) | (show _ = ans2 + 1; assumption) | (show _ = ans3 + 1; assumption)), by (first | exact aF_u0 (by assumption) | exact aF_u1 (by assumption) | exact aF_u2 (by assumption) | exact aF_u3 (by assumption))⟩))), by (first | exact Or.inl ⟨by decide, fun q hq t ht => rfl⟩ | exact an_u0 (by omega) (by assumption) | exact an_u1 (by omega) (by assumption) | exact an_u2 (by omega) (by assumption) | exact an_u3 (by omega) (by assumption))⟩), r_ans0, r_ans1, r_ans2, r_ans3⟩, by rw [ht]; exact hP, hD⟩, hS.F ht⟩) hS.2.2 dX9_answer_45
      · have kc30 : (3 : Int32).toInt = 3 := rfl
        refine lv_aload_n hx hb dX9_answer_25 rfl (lv_at hl 0 rfl) ?_
        refine va_get (D := (dC, dI)) (ci := 9) (v := .ref (a 33)) (C := RX9) (T := TX9) (N := 11) hx hb hts inX9 hown hK hP 0 rfl rfl 7 (by decide) lf64 (fun _ h9 => h9) rfl dX9_answer_26 ?_
        refine lv_iload_n hx hb dX9_answer_29 rfl (lv_at hl 1 rfl) ?_
        have b31 : vp_in 3 4 := (show ¬ _ from by decide)
        refine va_aldq hx hb hK hP 1 2 rfl rfl b31 dX9_answer_30 ?_
        refine W.eq (g2 := F0 m 31 ls [.ref (a 40)]) rfl ?_
        refine lv_astore (lv' := [(4, .ref (a 40)), (0, .ref (a 43)), (1, .int 3), (2, .int dd), (3, .int ri)]) hx hb dX9_answer_31 hl (by decide) rfl (fun ls hl => ?_)
        refine lv_aload hx hb dX9_answer_33 (lv_at hl 0 rfl) ?_
        refine va_getN (D := (dC, dI)) (ci := 4) (v := .int ans3) (C := RX4) (T := TX4) (N := 2) hx hb hts inX4 hown hK hP 8 rfl rfl 1 (by decide) lf236 (fun _ h9 => h9) rfl dX9_answer_35 ?_
        refine lv_bipush (v := 12) hx hb dX9_answer_38 (by decide) ?_
        refine lv_icmp_lt (tgt := 46) hx hb dX9_answer_40 (by decide) (fun c32 => ?_) (fun c32 => ?_)
        · have dc32 : ans3.toInt < 12 := ltC rfl (show (12 : Int32).toInt = 12 from rfl) c32
          refine lv_aload hx hb dX9_answer_46 (lv_at hl 0 rfl) ?_
          refine lv_iload_n hx hb dX9_answer_48 rfl (lv_at hl 3 rfl) ?_
          refine lv_iload_n hx hb dX9_answer_49 rfl (lv_at hl 4 rfl) ?_
          refine wvV (As := [.int dd, .int ri]) (rest := []) (wr := [((a 43), .inr (9, [.ref (a 0), .ref (a 2), .ref (a 4), .ref (a 14), .ref (a 16), .ref (a 23), .ref (a 28), .ref (a 33), .ref (a 42), .ref rb0, .ref db0])), ((a 33), .inl (cQ, 4, .inr (.inr (.inr (.inr (puF a)))))), ((a 34), .inr (4, [.ref (a 35), .int ans0])), ((a 35), .inl (cI, 81, .inl agr0)), ((a 36), .inr (4, [.ref (a 37), .int ans1])), ((a 37), .inl (cI, 81, .inl agr1)), ((a 38), .inr (4, [.ref (a 39), .int ans2])), ((a 39), .inl (cI, 81, .inl agr2))]) (w2 := (fun u : US => (wsPu cI cZ cQ a rb0 rb1 rb2 db0 db1 db2 agr0 ans0 agr1 ans1 agr2 ans2 (u.1 0) (u.1 1 0)))) ⟨hx, hb, hml, hown, hts⟩ (k_X4_note2 l dC dI cI cZ cQ (a 40) (a 41) agr3 ans3 _ dd ri r_ans3 (by omega) (by omega) (by omega)) (cwV 2 hts gX9_answer_X4_note rfl rfl rfl (by decide +kernel) ⟨Nat.le_of_ble_eq_true rfl, Nat.le_of_ble_eq_true rfl⟩) hP hD hS hA hK hN [8, 9] [0, 1, 2, 3, 4, 5, 6, 7] [0, 1, 2, 3, 4, 5, 6, 7, 8, 9] rfl rfl (by decide) (by decide) (by decide) (fun _ => rfl) (by decide) 8 4 rfl rfl rfl hl.1 rfl (Nat.le_of_ble_eq_true rfl) dX9_answer_50 ⟨Nat.le_of_ble_eq_true rfl, Nat.le_of_ble_eq_true rfl⟩ (fun u35 H locs h34 hP hD hS => ?_)
          obtain ⟨agr3_c36, eagr3_c36⟩ : ∃ f : Nat → Int32, f = (u35.1 0) := ⟨_, rfl⟩
          obtain ⟨ans3_c37, eans3_c37⟩ : ∃ f : Int32, f = (u35.1 1 0) := ⟨_, rfl⟩
          have hP : va_P (dC, dI) vwCl (wsPu cI cZ cQ a rb0 rb1 rb2 db0 db1 db2 agr0 ans0 agr1 ans1 agr2 ans2 agr3_c36 ans3_c37) H := by rw [eagr3_c36, eans3_c37]; exact hP
          have hD : va_D A (wsPu cI cZ cQ a rb0 rb1 rb2 db0 db1 db2 agr0 ans0 agr1 ans1 agr2 ans2 agr3_c36 ans3_c37) := by rw [eagr3_c36, eans3_c37]; exact hD
          have h34 : (ans3_c37 = ans3 + 1) ∧ (∀ j : Nat, j < 81 → agr3_c36 j = agr3 j + incW (nI j) dd ri) ∧ (0 ≤ ans3_c37.toInt ∧ ans3_c37.toInt ≤ 12) := by (try rw [eagr3_c36]); (try rw [eans3_c37]); exact h34
          obtain ⟨h34_0, h34_1, h34_2⟩ := h34
          refine lv_aload hx hb dX9_answer_53 (lv_at hl 0 rfl) ?_
          refine va_getN (D := (dC, dI)) (ci := 4) (v := .int ans3_c37) (C := RX4) (T := TX4) (N := 2) hx hb hts inX4 hown hK hP 8 rfl rfl 1 (by decide) lf236 (fun _ h9 => h9) rfl dX9_answer_55 ?_
          exact W.iret (v := ans3_c37) hx hb hr (fun tq ht hW => ⟨⟨ans3_c37, (uS [agr0, (fun _ => ans0), agr1, (fun _ => ans1), agr2, (fun _ => ans2), agr3_c36, (fun _ => ans3_c37)] 0 (fun _ => 0)), rfl, ⟨(show spAnC (aF ans0 ans1 ans2 ans3) (gF agr0 agr1 agr2 agr3) (3 : Int32) dd ri ans3_c37 (aF ans0 ans1 ans2 ans3_c37) (gF agr0 agr1 agr2 agr3_c36) from by exact ⟨by (unfold spAns; first | exact Or.inl ⟨by omega, rfl, rfl⟩ | exact Or.inr (Or.inl ⟨by omega, by omega, rfl, rfl⟩) | exact Or.inr (Or.inr (Or.inl ⟨by omega, by omega, by (first | (show 12 ≤ ans0.toInt; omega) | (show 12 ≤ ans1.toInt; omega) | (show 12 ≤ ans2.toInt; omega) | (show 12 ≤ ans3.toInt; omega)), rfl, rfl⟩)) | exact Or.inr (Or.inr (Or.inr ⟨by omega, by omega, by (first | (show ans0.toInt < 12; omega) | (show ans1.toInt < 12; omega) | (show ans2.toInt < 12; omega) | (show ans3.toInt < 12; omega)), by (first | assumption | (show _ = ans0 + 1; assumption) | (show _ = ans1 + 1; assumption) | (show _ = ans2 + 1; assumption) | (show _ = ans3 + 1; assumption)), by (first | exact aF_u0 (by assumption) | exact aF_u1 (by assumption) | exact aF_u2 (by assumption) | exact aF_u3 (by assumption))⟩))), by (first | exact Or.inl ⟨by decide, fun q hq t ht => rfl⟩ | exact an_u0 (by omega) (by assumption) | exact an_u1 (by omega) (by assumption) | exact an_u2 (by omega) (by assumption) | exact an_u3 (by omega) (by assumption))⟩), r_ans0, r_ans1, r_ans2, h34_2⟩, by rw [ht]; exact hP, hD⟩, hS.F ht⟩) hS.2.2 dX9_answer_58
        · have dc32 : 12 ≤ ans3.toInt := nltC rfl (show (12 : Int32).toInt = 12 from rfl) c32
          refine lv_bipush (v := (-5)) hx hb dX9_answer_43 (by decide) ?_
          exact W.iret (v := (-5)) hx hb hr (fun tq ht hW => ⟨⟨(-5), (uS [agr0, (fun _ => ans0), agr1, (fun _ => ans1), agr2, (fun _ => ans2), agr3, (fun _ => ans3)] 0 (fun _ => 0)), rfl, ⟨(show spAnC (aF ans0 ans1 ans2 ans3) (gF agr0 agr1 agr2 agr3) (3 : Int32) dd ri ((-5) : Int32) (aF ans0 ans1 ans2 ans3) (gF agr0 agr1 agr2 agr3) from by (try rw [show ((-5) : Int32).toInt = (-5) from (show ((-5) : Int32).toInt = (-5) from rfl)]); exact ⟨by (unfold spAns; first | exact Or.inl ⟨by omega, rfl, rfl⟩ | exact Or.inr (Or.inl ⟨by omega, by omega, rfl, rfl⟩) | exact Or.inr (Or.inr (Or.inl ⟨by omega, by omega, by (first | (show 12 ≤ ans0.toInt; omega) | (show 12 ≤ ans1.toInt; omega) | (show 12 ≤ ans2.toInt; omega) | (show 12 ≤ ans3.toInt; omega)), rfl, rfl⟩)) | exact Or.inr (Or.inr (Or.inr ⟨by omega, by omega, by (first | (show ans0.toInt < 12; omega) | (show ans1.toInt < 12; omega) | (show ans2.toInt < 12; omega) | (show ans3.toInt < 12; omega)), by (first | assumption | (show _ = ans0 + 1; assumption) | (show _ = ans1 + 1; assumption) | (show _ = ans2 + 1; assumption) | (show _ = ans3 + 1; assumption)), by (first | exact aF_u0 (by assumption) | exact aF_u1 (by assumption) | exact aF_u2 (by assumption) | exact aF_u3 (by assumption))⟩))), by (first | exact Or.inl ⟨by decide, fun q hq t ht => rfl⟩ | exact an_u0 (by omega) (by assumption) | exact an_u1 (by omega) (by assumption) | exact an_u2 (by omega) (by assumption) | exact an_u3 (by omega) (by assumption))⟩), r_ans0, r_ans1, r_ans2, r_ans3⟩, by rw [ht]; exact hP, hD⟩, hS.F ht⟩) hS.2.2 dX9_answer_45
    · refine lv_if_ne (tgt := 25) hx hb dX9_answer_19 (by decide) (fun c9 => absurd (by decide) c9) (fun _ => ?_)
      refine lv_bipush (v := (-3)) hx hb dX9_answer_22 (by decide) ?_
      exact W.iret (v := (-3)) hx hb hr (fun tq ht hW => ⟨⟨(-3), (uS [agr0, (fun _ => ans0), agr1, (fun _ => ans1), agr2, (fun _ => ans2), agr3, (fun _ => ans3)] 0 (fun _ => 0)), rfl, ⟨(show spAnC (aF ans0 ans1 ans2 ans3) (gF agr0 agr1 agr2 agr3) pp dd ri ((-3) : Int32) (aF ans0 ans1 ans2 ans3) (gF agr0 agr1 agr2 agr3) from by (try rw [show ((-3) : Int32).toInt = (-3) from (show ((-3) : Int32).toInt = (-3) from rfl)]); exact ⟨by (unfold spAns; first | exact Or.inl ⟨by omega, rfl, rfl⟩ | exact Or.inr (Or.inl ⟨by omega, by omega, rfl, rfl⟩) | exact Or.inr (Or.inr (Or.inl ⟨by omega, by omega, by (first | (show 12 ≤ ans0.toInt; omega) | (show 12 ≤ ans1.toInt; omega) | (show 12 ≤ ans2.toInt; omega) | (show 12 ≤ ans3.toInt; omega)), rfl, rfl⟩)) | exact Or.inr (Or.inr (Or.inr ⟨by omega, by omega, by (first | (show ans0.toInt < 12; omega) | (show ans1.toInt < 12; omega) | (show ans2.toInt < 12; omega) | (show ans3.toInt < 12; omega)), by (first | assumption | (show _ = ans0 + 1; assumption) | (show _ = ans1 + 1; assumption) | (show _ = ans2 + 1; assumption) | (show _ = ans3 + 1; assumption)), by (first | exact aF_u0 (by assumption) | exact aF_u1 (by assumption) | exact aF_u2 (by assumption) | exact aF_u3 (by assumption))⟩))), by (first | exact Or.inl ⟨by decide, fun q hq t ht => rfl⟩ | exact an_u0 (by omega) (by assumption) | exact an_u1 (by omega) (by assumption) | exact an_u2 (by omega) (by assumption) | exact an_u3 (by omega) (by assumption))⟩), r_ans0, r_ans1, r_ans2, r_ans3⟩, by rw [ht]; exact hP, hD⟩, hS.F ht⟩) hS.2.2 dX9_answer_24
  · refine lv_if_ne (tgt := 12) hx hb dX9_answer_6 (by decide) (fun c9 => absurd (by decide) c9) (fun _ => ?_)
    refine lv_bipush (v := (-2)) hx hb dX9_answer_9 (by decide) ?_
    exact W.iret (v := (-2)) hx hb hr (fun tq ht hW => ⟨⟨(-2), (uS [agr0, (fun _ => ans0), agr1, (fun _ => ans1), agr2, (fun _ => ans2), agr3, (fun _ => ans3)] 0 (fun _ => 0)), rfl, ⟨(show spAnC (aF ans0 ans1 ans2 ans3) (gF agr0 agr1 agr2 agr3) pp dd ri ((-2) : Int32) (aF ans0 ans1 ans2 ans3) (gF agr0 agr1 agr2 agr3) from by (try rw [show ((-2) : Int32).toInt = (-2) from (show ((-2) : Int32).toInt = (-2) from rfl)]); exact ⟨by (unfold spAns; first | exact Or.inl ⟨by omega, rfl, rfl⟩ | exact Or.inr (Or.inl ⟨by omega, by omega, rfl, rfl⟩) | exact Or.inr (Or.inr (Or.inl ⟨by omega, by omega, by (first | (show 12 ≤ ans0.toInt; omega) | (show 12 ≤ ans1.toInt; omega) | (show 12 ≤ ans2.toInt; omega) | (show 12 ≤ ans3.toInt; omega)), rfl, rfl⟩)) | exact Or.inr (Or.inr (Or.inr ⟨by omega, by omega, by (first | (show ans0.toInt < 12; omega) | (show ans1.toInt < 12; omega) | (show ans2.toInt < 12; omega) | (show ans3.toInt < 12; omega)), by (first | assumption | (show _ = ans0 + 1; assumption) | (show _ = ans1 + 1; assumption) | (show _ = ans2 + 1; assumption) | (show _ = ans3 + 1; assumption)), by (first | exact aF_u0 (by assumption) | exact aF_u1 (by assumption) | exact aF_u2 (by assumption) | exact aF_u3 (by assumption))⟩))), by (first | exact Or.inl ⟨by decide, fun q hq t ht => rfl⟩ | exact an_u0 (by omega) (by assumption) | exact an_u1 (by omega) (by assumption) | exact an_u2 (by omega) (by assumption) | exact an_u3 (by omega) (by assumption))⟩), r_ans0, r_ans1, r_ans2, r_ans3⟩, by rw [ht]; exact hP, hD⟩, hS.F ht⟩) hS.2.2 dX9_answer_11
set_option maxHeartbeats 4000000 in
set_option maxRecDepth 100000 in
theorem k_X10_isRight2 (l : Launch) (dC : Nat → ClassId) (dI : Nat → Nat → Nat) (cI cZ cQ : ClassId) (tb : Int32) (dd : Int32) (q0 : 0 ≤ tb.toInt) (q1 : tb.toInt ≤ 80) : KR l yX10_isRight wsX10_isRight { frames := 0, cells := 0, slots := 0, locals := 0 } (dC, dI) (TY cI cZ cQ) (wNil cI cZ cQ) [.int tb, .int dd] (fun r : Int32 => ((((r = 1) ∧ (sayW tb dd = true)) ∨ ((r = 0) ∧ (sayW tb dd = false))))) := by
  refine Met.ofW (cc := cX10_isRight) (maxL := 2) (ret := (some .boolean)) (by decide) rfl ?_
  intro p e s m args below meth c s₁ B hml hv
  obtain ⟨rfl, hP, hK, hN⟩ := hv
  have hx := B.exec
  have hb := B.bytes
  have hr := B.returns
  have hts := atoms_spec (ws := wsX10_isRight) B.pre
  have hown : s.vm.findClass RX10 = some m.cls := findClass_of_methodNamed B.named
  have hlocks := B.notSynchronized
  have hl := lv_entry ([.int tb, .int dd]) (n := 2) (Nat.le_of_ble_eq_true rfl)
  rw [lg_entry_eq]
  generalize (lg_sl ([.int tb, .int dd]) ++ List.replicate (2 - (lg_sl ([.int tb, .int dd])).length) Slot.unset).toArray = ls at hl ⊢
  have hl : lv_has ls 2 [(0, .int tb), (1, .int dd)] := hl
  refine lv_bipush (v := 100) hx hb dX10_isRight_0 (by decide) ?_
  refine lv_iload_n hx hb dX10_isRight_2 rfl (lv_at hl 0 rfl) ?_
  refine lv_bipush (v := 9) hx hb dX10_isRight_3 (by decide) ?_
  refine lv_idiv hx hb dX10_isRight_5 (by decide) ?_
  have f1 : (tb / 9).toInt = (tb.toInt) / (9) := divC rfl (show (9 : Int32).toInt = 9 from rfl) (by omega) (by omega)
  refine lv_iconst (v := 1) hx hb dX10_isRight_6 (by decide) ?_
  refine lv_iadd hx hb dX10_isRight_7 ?_
  have f2 : ((tb / 9) + 1).toInt = ((tb.toInt) / (9)) + (1) := addC f1 (show (1 : Int32).toInt = 1 from rfl) (by omega) (by omega)
  refine lv_iload_n hx hb dX10_isRight_8 rfl (lv_at hl 1 rfl) ?_
  refine lv_imul hx hb dX10_isRight_9 ?_
  refine lv_isub hx hb dX10_isRight_10 ?_
  refine lv_bipush (v := 10) hx hb dX10_isRight_11 (by decide) ?_
  refine lv_iload_n hx hb dX10_isRight_13 rfl (lv_at hl 0 rfl) ?_
  refine lv_bipush (v := 9) hx hb dX10_isRight_14 (by decide) ?_
  refine lv_irem hx hb dX10_isRight_16 (by decide) ?_
  have f3 : (tb - tb / 9 * 9).toInt = (tb.toInt) % (9) := remC rfl (show (9 : Int32).toInt = 9 from rfl) (by omega) (by omega)
  refine lv_iconst (v := 1) hx hb dX10_isRight_17 (by decide) ?_
  refine lv_iadd hx hb dX10_isRight_18 ?_
  have f4 : ((tb - tb / 9 * 9) + 1).toInt = ((tb.toInt) % (9)) + (1) := addC f3 (show (1 : Int32).toInt = 1 from rfl) (by omega) (by omega)
  refine lv_imul hx hb dX10_isRight_19 ?_
  have f5 : (10 * ((tb - tb / 9 * 9) + 1)).toInt = (10) * (((tb.toInt) % (9)) + (1)) := mulC (show (10 : Int32).toInt = 10 from rfl) f4 (by omega) (by omega)
  refine lv_icmp_lt (tgt := 27) hx hb dX10_isRight_20 (by decide) (fun c6 => ?_) (fun c6 => ?_)
  · have dc6 : (100 - (((tb / 9) + 1) * dd)).toInt < (10) * (((tb.toInt) % (9)) + (1)) := ltC rfl f5 c6
    refine lv_iconst (v := 0) hx hb dX10_isRight_27 (by decide) ?_
    exact W.zret (v := 0) hx hb hr (by decide) (fun tq ht hW => ⟨0, rfl, (Or.inr (⟨rfl, (show sayW tb dd = false from by (try rw [show (0 : Int32).toInt = 0 from (show (0 : Int32).toInt = 0 from rfl)]); (first | exact sw_tM (by assumption) | exact sw_fM (by assumption)))⟩)), ht⟩) (fun q h => by cases h) dX10_isRight_28
  · have dc6 : (10) * (((tb.toInt) % (9)) + (1)) ≤ (100 - (((tb / 9) + 1) * dd)).toInt := nltC rfl f5 c6
    refine lv_iconst (v := 1) hx hb dX10_isRight_23 (by decide) ?_
    refine lv_goto (tgt := 28) hx hb dX10_isRight_24 (by decide) ?_
    exact W.zret (v := 1) hx hb hr (by decide) (fun tq ht hW => ⟨1, rfl, (Or.inl (⟨rfl, (show sayW tb dd = true from by (try rw [show (1 : Int32).toInt = 1 from (show (1 : Int32).toInt = 1 from rfl)]); (first | exact sw_tM (by assumption) | exact sw_fM (by assumption)))⟩)), ht⟩) (fun q h => by cases h) dX10_isRight_28
set_option maxHeartbeats 4000000 in
set_option maxRecDepth 100000 in
theorem k_X10_agrees2 (l : Launch) (dC : Nat → ClassId) (dI : Nat → Nat → Nat) (cI cZ cQ : ClassId) (b : Nat → Nat) (mday : Int32) (mdoo : Int32) (mdA : Nat → Int32) (mdB : Nat → Int32) (mfar : Nat → Int32) (mmar : Nat → Int32) (mtel : Int32) (mgai : Int32) (mfal : Nat → Int32) (mtop : Nat → Int32) (mstr : Nat → Int32) (mgho : Nat → Int32) (mfai : Nat → Int32) (mpto : Nat → Int32) (mwal : Nat → Int32) (mahd : Nat → Int32) (mahf : Nat → Int32) (mcho : Nat → Int32) (mbes : Nat → Int32) (mbyt : Int32) (mtxt : Nat → Int32) (mpos : Int32) (mtka : Int32) (mtok : Int64) (mdig : Int32) (mnum : Int32) (mfau : Int32) (mrdm : Int32) (mrea : Nat → Int32) (mlin : Int32) (mlne : Nat → Int32) (mthg : Nat → Int32) (mord : Nat → Int32) (mbor : Nat → Int32) (mbsm : Int32) (mans : Nat → Int32) (mand : Nat → Int32) (manr : Nat → Int32) (mali : Nat → Int32) (pp : Int32) (tb : Int32) (r_mday : 0 ≤ mday.toInt ∧ mday.toInt ≤ 400) (r_mdoo : 0 ≤ mdoo.toInt ∧ mdoo.toInt ≤ 14) (r_mdA : rg 14 (0) (7) mdA) (r_mdB : rg 14 (0) (7) mdB) (r_mmar : rg 24 (0) (255) mmar) (r_mgai : 0 ≤ mgai.toInt ∧ mgai.toInt ≤ 100) (r_mfal : rg 11 (0) (30) mfal) (r_mtop : rg 48 (-1) (23) mtop) (r_mstr : rg 48 (0) (100) mstr) (r_mgho : rg 48 (-1) (23) mgho) (r_mfai : rg 48 (0) (100) mfai) (r_mahd : rg 240 (0) (100) mahd) (r_mahf : rg 240 (0) (100) mahf) (r_mcho : rg 5 (-1) (9) mcho) (r_mbyt : 0 ≤ mbyt.toInt ∧ mbyt.toInt ≤ 160) (r_mpos : 0 ≤ mpos.toInt ∧ mpos.toInt ≤ 160) (r_mrdm : 0 ≤ mrdm.toInt ∧ mrdm.toInt ≤ 10) (r_mlin : 0 ≤ mlin.toInt ∧ mlin.toInt ≤ 10) (r_mthg : rg 8 (0) (31) mthg) (r_mord : rg 8 (-1) (8) mord) (r_mans : rg 4 (0) (12) mans) (q0 : 0 ≤ pp.toInt) (q1 : pp.toInt ≤ 3) (q2 : 0 ≤ tb.toInt) (q3 : tb.toInt ≤ 80) : KR l yX10_agrees wsX10_agrees { frames := 1, cells := 0, slots := 0, locals := 21 } (dC, dI) (TY cI cZ cQ) (wMod cI cZ cQ b mday mdoo mdA mdB mfar mmar mtel mgai mfal mtop mstr mgho mfai mpto mwal mahd mahf mcho mbes mbyt mtxt mpos mtka mtok mdig mnum mfau mrdm mrea mlin mlne mthg mord mbor mbsm mans mand manr mali) [.ref (b 39), .int pp, .int tb] (fun r : Int32 => (r = agW mand manr tb (12 * pp.toInt).toNat (mans pp.toNatClampNeg).toInt.toNat)) := by
  refine Met.ofW (cc := cX10_agrees) (maxL := 5) (ret := (some .int)) (by decide) rfl ?_
  intro p e s m args below meth c s₁ B hml hv
  obtain ⟨rfl, hP, hK, hN⟩ := hv
  have hx := B.exec
  have hb := B.bytes
  have hr := B.returns
  have hts := atoms_spec (ws := wsX10_agrees) B.pre
  have hown : s.vm.findClass RX10 = some m.cls := findClass_of_methodNamed B.named
  have hlocks := B.notSynchronized
  have lf80 := hts (.fieldLink RX10 80 "PalaceOfRoomsModel" "answers" "[I") (List.mem_cons_of_mem _ (List.mem_append_left _ (List.mem_of_getElem? (i := 0) rfl)))
  have inX10 : ∀ w ∈ wsX100, w ∈ wsX10_agrees := fun w h => List.mem_cons_of_mem _ (List.mem_append_right _ h)
  have lf83 := hts (.fieldLink RX10 83 "PalaceOfRoomsModel" "answerDay" "[I") (List.mem_cons_of_mem _ (List.mem_append_left _ (List.mem_of_getElem? (i := 1) rfl)))
  have lf86 := hts (.fieldLink RX10 86 "PalaceOfRoomsModel" "answerRight" "[Z") (List.mem_cons_of_mem _ (List.mem_append_left _ (List.mem_of_getElem? (i := 2) rfl)))
  have hl := lv_entry ([.ref (b 39), .int pp, .int tb]) (n := 5) (Nat.le_of_ble_eq_true rfl)
  rw [lg_entry_eq]
  generalize (lg_sl ([.ref (b 39), .int pp, .int tb]) ++ List.replicate (5 - (lg_sl ([.ref (b 39), .int pp, .int tb])).length) Slot.unset).toArray = ls at hl ⊢
  have hl : lv_has ls 5 [(0, .ref (b 39)), (1, .int pp), (2, .int tb)] := hl
  have wma := r_mans pp.toNatClampNeg (by rw [clC (x := pp) rfl]; omega)
  refine lv_iconst (v := 0) hx hb dX10_agrees_0 (by decide) ?_
  refine lv_istore_n (lv' := [(3, .int 0), (0, .ref (b 39)), (1, .int pp), (2, .int tb)]) hx hb dX10_agrees_1 rfl hl (by decide) rfl (fun ls hl => ?_)
  refine lv_iconst (v := 0) hx hb dX10_agrees_2 (by decide) ?_
  refine lv_istore (lv' := [(4, .int 0), (3, .int 0), (0, .ref (b 39)), (1, .int pp), (2, .int tb)]) hx hb dX10_agrees_3 hl (by decide) rfl (fun ls hl => ?_)
  have L5 : ∀ (nn : Nat) (y5_3 : Int32) (y5_4 : Int32) (ls : Array Slot), (0 ≤ (y5_4.toInt)) → ((y5_4.toInt) ≤ 12) → (y5_3 = agW mand manr tb (12 * pp.toInt).toNat ((y5_4.toInt)).toNat) → ((y5_4.toInt) ≤ (mans pp.toNatClampNeg).toInt) → (12 - (y5_4.toInt)).toNat < nn → lv_has ls 5 [(0, .ref (b 39)), (1, .int pp), (2, .int tb), (3, .int y5_3), (4, .int y5_4)] → W p l e (headSpec wsX10_agrees { frames := 1, cells := 0, slots := 0, locals := 21 }).room s m ([.ref (b 39), .int pp, .int tb] : List Value).toArray below meth c s.heap [] 0 0 (MQ below (QR (fun r : Int32 => (r = agW mand manr tb (12 * pp.toInt).toNat (mans pp.toNatClampNeg).toInt.toNat))) ([.ref (b 39), .int pp, .int tb] : List Value).toArray s 0 0 (fun _ => False)) (F0 m 5 ls []) := by
    intro nn
    induction nn with
    | zero =>
      intro y5_3 y5_4 ls i5_0 i5_1 i5_2 i5_3 hm5
      exact absurd hm5 (Nat.not_lt_zero _)
    | succ nn ih5 =>
      intro y5_3 y5_4 ls i5_0 i5_1 i5_2 i5_3 hm5 hl
      refine lv_iload hx hb dX10_agrees_5 (lv_at hl 4 rfl) ?_
      refine lv_aload_n hx hb dX10_agrees_7 rfl (lv_at hl 0 rfl) ?_
      refine va_get (D := (dC, dI)) (ci := 10) (v := .ref (b 35)) (C := RX10) (T := TX10) (N := 39) hx hb hts inX10 hown hK hP 0 rfl rfl 35 (by decide) lf80 (fun _ h9 => h9) rfl dX10_agrees_8 ?_
      refine lv_iload_n hx hb dX10_agrees_11 rfl (lv_at hl 1 rfl) ?_
      have b1 : vp_in pp 4 := inC rfl (by omega) (by omega)
      refine va_iald hx hb hK hP 22 0 rfl rfl b1 dX10_agrees_12 ?_
      have g2 : 0 ≤ (mans pp.toNatClampNeg).toInt ∧ (mans pp.toNatClampNeg).toInt ≤ 12 := rg_at r_mans b1
      refine lv_icmp_ge (tgt := 61) hx hb dX10_agrees_13 (by decide) (fun c3 => ?_) (fun c3 => ?_)
      · have dc3 : (mans pp.toNatClampNeg).toInt ≤ y5_4.toInt := leC rfl rfl c3
        refine lv_iload_n hx hb dX10_agrees_61 rfl (lv_at hl 3 rfl) ?_
        exact W.iret (v := y5_3) hx hb hr (fun tq ht hW => ⟨y5_3, rfl, (show y5_3 = agW mand manr tb (12 * pp.toInt).toNat (mans pp.toNatClampNeg).toInt.toNat from by exact aw_e i5_2 rfl (by omega)), ht⟩) (fun q h => by cases h) dX10_agrees_62
      · have dc3 : y5_4.toInt < (mans pp.toNatClampNeg).toInt := nleC rfl rfl c3
        refine lv_iload_n hx hb dX10_agrees_16 rfl (lv_at hl 3 rfl) ?_
        refine lv_iload_n hx hb dX10_agrees_17 rfl (lv_at hl 2 rfl) ?_
        refine lv_aload_n hx hb dX10_agrees_18 rfl (lv_at hl 0 rfl) ?_
        refine va_get (D := (dC, dI)) (ci := 10) (v := .ref (b 36)) (C := RX10) (T := TX10) (N := 39) hx hb hts inX10 hown hK hP 0 rfl rfl 36 (by decide) lf83 (fun _ h9 => h9) rfl dX10_agrees_19 ?_
        refine lv_bipush (v := 12) hx hb dX10_agrees_22 (by decide) ?_
        refine lv_iload_n hx hb dX10_agrees_24 rfl (lv_at hl 1 rfl) ?_
        refine lv_imul hx hb dX10_agrees_25 ?_
        have f4 : (12 * pp).toInt = (12) * (pp.toInt) := mulC (show (12 : Int32).toInt = 12 from rfl) rfl (by omega) (by omega)
        refine lv_iload hx hb dX10_agrees_26 (lv_at hl 4 rfl) ?_
        refine lv_iadd hx hb dX10_agrees_28 ?_
        have f5 : ((12 * pp) + y5_4).toInt = ((12) * (pp.toInt)) + (y5_4.toInt) := addC f4 rfl (by omega) (by omega)
        have b6 : vp_in ((12 * pp) + y5_4) 48 := inC f5 (by omega) (by omega)
        refine va_iald hx hb hK hP 23 0 rfl rfl b6 dX10_agrees_29 ?_
        refine rdS (As := [.int tb, .int (mand ((12 * pp) + y5_4).toNatClampNeg)]) (rest := [.int y5_3]) ⟨hx, hb, hml, hown, hts⟩ (k_X10_isRight2 l dC dI cI cZ cQ tb (mand ((12 * pp) + y5_4).toNatClampNeg) (by omega) (by omega)) (va_cwS 2 hts gX10_agrees_X10_isRight rfl rfl rfl (by decide +kernel) ⟨Nat.le_of_ble_eq_true rfl, Nat.le_of_ble_eq_true rfl⟩) hP hK hN [] rfl rfl hl.1 rfl (Nat.le_of_ble_eq_true rfl) dX10_agrees_30 ⟨Nat.le_of_ble_eq_true rfl, Nat.le_of_ble_eq_true rfl⟩ (fun r7 h8 => ?_)
        have h8 : ((((r7 = 1) ∧ (sayW tb (mand ((12 * pp) + y5_4).toNatClampNeg) = true)) ∨ ((r7 = 0) ∧ (sayW tb (mand ((12 * pp) + y5_4).toNatClampNeg) = false)))) := h8
        rcases h8 with (⟨rfl, h8_a0⟩ | ⟨rfl, h8_a0⟩)
        · refine lv_aload_n hx hb dX10_agrees_33 rfl (lv_at hl 0 rfl) ?_
          refine va_get (D := (dC, dI)) (ci := 10) (v := .ref (b 37)) (C := RX10) (T := TX10) (N := 39) hx hb hts inX10 hown hK hP 0 rfl rfl 37 (by decide) lf86 (fun _ h9 => h9) rfl dX10_agrees_34 ?_
          refine lv_bipush (v := 12) hx hb dX10_agrees_37 (by decide) ?_
          refine lv_iload_n hx hb dX10_agrees_39 rfl (lv_at hl 1 rfl) ?_
          refine lv_imul hx hb dX10_agrees_40 ?_
          have f9 : (12 * pp).toInt = (12) * (pp.toInt) := mulC (show (12 : Int32).toInt = 12 from rfl) rfl (by omega) (by omega)
          refine lv_iload hx hb dX10_agrees_41 (lv_at hl 4 rfl) ?_
          refine lv_iadd hx hb dX10_agrees_43 ?_
          have f10 : ((12 * pp) + y5_4).toInt = ((12) * (pp.toInt)) + (y5_4.toInt) := addC f9 rfl (by omega) (by omega)
          have b11 : vp_in ((12 * pp) + y5_4) 48 := inC f10 (by omega) (by omega)
          refine va_zald hx hb hK hP 24 1 rfl rfl b11 dX10_agrees_44 ?_
          refine lv_icmp_ne (tgt := 52) hx hb dX10_agrees_45 (by decide) (fun c12 => ?_) (fun c12 => ?_)
          · have dc12 : 1 ≠ (manr ((12 * pp) + y5_4).toNatClampNeg).toInt := neC (show (1 : Int32).toInt = 1 from rfl) rfl c12
            refine lv_iconst (v := 0) hx hb dX10_agrees_52 (by decide) ?_
            refine lv_iadd hx hb dX10_agrees_53 ?_
            refine lv_topi (fun x13 ex13 => ?_)
            have ix13 : x13.toInt = (y5_3 + 0).toInt := by rw [ex13]
            refine lv_istore_n (lv' := [(3, .int x13), (0, .ref (b 39)), (1, .int pp), (2, .int tb), (4, .int y5_4)]) hx hb dX10_agrees_54 rfl hl (by decide) rfl (fun ls hl => ?_)
            obtain ⟨z14, ez14⟩ : ∃ y : Int32, y = y5_4 + 1 := ⟨_, rfl⟩
            have iz14 : z14.toInt = y5_4.toInt + 1 := by rw [ez14]; exact addC rfl rfl (by omega) (by omega)
            refine lv_iinc (v := z14) (lv' := [(4, .int z14), (3, .int x13), (0, .ref (b 39)), (1, .int pp), (2, .int tb)]) hx hb dX10_agrees_55 hl (k := 4) rfl (by rw [ez14]; rfl) (by decide) rfl (fun ls hl => ?_)
            refine lv_goto (tgt := 5) hx hb dX10_agrees_58 (by decide) ?_
            exact ih5 x13 z14 _ (by omega) (by omega) (by (first | exact aw_y (x := 12 * pp + y5_4) i5_2 (by first | exact sw1 (by assumption) (by assumption) | exact sw0 (by assumption) (by assumption)) (by omega) (by assumption) (by omega) | exact aw_n (x := 12 * pp + y5_4) i5_2 (by first | exact nw1 (by assumption) (by assumption) | exact nw0 (by assumption) (by assumption)) (by omega) (by assumption) (by omega) | exact aw_0 rfl (by first | rfl | omega))) (by omega) (by omega) (lv_sub hl [2, 3, 4, 1, 0] rfl)
          · have dc12 : 1 = (manr ((12 * pp) + y5_4).toNatClampNeg).toInt := eqC (show (1 : Int32).toInt = 1 from rfl) rfl c12
            refine lv_iconst (v := 1) hx hb dX10_agrees_48 (by decide) ?_
            refine lv_goto (tgt := 53) hx hb dX10_agrees_49 (by decide) ?_
            refine lv_iadd hx hb dX10_agrees_53 ?_
            refine lv_topi (fun x15 ex15 => ?_)
            have ix15 : x15.toInt = (y5_3 + 1).toInt := by rw [ex15]
            refine lv_istore_n (lv' := [(3, .int x15), (0, .ref (b 39)), (1, .int pp), (2, .int tb), (4, .int y5_4)]) hx hb dX10_agrees_54 rfl hl (by decide) rfl (fun ls hl => ?_)
            obtain ⟨z16, ez16⟩ : ∃ y : Int32, y = y5_4 + 1 := ⟨_, rfl⟩
            have iz16 : z16.toInt = y5_4.toInt + 1 := by rw [ez16]; exact addC rfl rfl (by omega) (by omega)
            refine lv_iinc (v := z16) (lv' := [(4, .int z16), (3, .int x15), (0, .ref (b 39)), (1, .int pp), (2, .int tb)]) hx hb dX10_agrees_55 hl (k := 4) rfl (by rw [ez16]; rfl) (by decide) rfl (fun ls hl => ?_)
            refine lv_goto (tgt := 5) hx hb dX10_agrees_58 (by decide) ?_
            exact ih5 x15 z16 _ (by omega) (by omega) (by (first | exact aw_y (x := 12 * pp + y5_4) i5_2 (by first | exact sw1 (by assumption) (by assumption) | exact sw0 (by assumption) (by assumption)) (by omega) (by assumption) (by omega) | exact aw_n (x := 12 * pp + y5_4) i5_2 (by first | exact nw1 (by assumption) (by assumption) | exact nw0 (by assumption) (by assumption)) (by omega) (by assumption) (by omega) | exact aw_0 rfl (by first | rfl | omega))) (by omega) (by omega) (lv_sub hl [2, 3, 4, 1, 0] rfl)
        · refine lv_aload_n hx hb dX10_agrees_33 rfl (lv_at hl 0 rfl) ?_
          refine va_get (D := (dC, dI)) (ci := 10) (v := .ref (b 37)) (C := RX10) (T := TX10) (N := 39) hx hb hts inX10 hown hK hP 0 rfl rfl 37 (by decide) lf86 (fun _ h9 => h9) rfl dX10_agrees_34 ?_
          refine lv_bipush (v := 12) hx hb dX10_agrees_37 (by decide) ?_
          refine lv_iload_n hx hb dX10_agrees_39 rfl (lv_at hl 1 rfl) ?_
          refine lv_imul hx hb dX10_agrees_40 ?_
          have f17 : (12 * pp).toInt = (12) * (pp.toInt) := mulC (show (12 : Int32).toInt = 12 from rfl) rfl (by omega) (by omega)
          refine lv_iload hx hb dX10_agrees_41 (lv_at hl 4 rfl) ?_
          refine lv_iadd hx hb dX10_agrees_43 ?_
          have f18 : ((12 * pp) + y5_4).toInt = ((12) * (pp.toInt)) + (y5_4.toInt) := addC f17 rfl (by omega) (by omega)
          have b19 : vp_in ((12 * pp) + y5_4) 48 := inC f18 (by omega) (by omega)
          refine va_zald hx hb hK hP 24 1 rfl rfl b19 dX10_agrees_44 ?_
          refine lv_icmp_ne (tgt := 52) hx hb dX10_agrees_45 (by decide) (fun c20 => ?_) (fun c20 => ?_)
          · have dc20 : 0 ≠ (manr ((12 * pp) + y5_4).toNatClampNeg).toInt := neC (show (0 : Int32).toInt = 0 from rfl) rfl c20
            refine lv_iconst (v := 0) hx hb dX10_agrees_52 (by decide) ?_
            refine lv_iadd hx hb dX10_agrees_53 ?_
            refine lv_topi (fun x21 ex21 => ?_)
            have ix21 : x21.toInt = (y5_3 + 0).toInt := by rw [ex21]
            refine lv_istore_n (lv' := [(3, .int x21), (0, .ref (b 39)), (1, .int pp), (2, .int tb), (4, .int y5_4)]) hx hb dX10_agrees_54 rfl hl (by decide) rfl (fun ls hl => ?_)
            obtain ⟨z22, ez22⟩ : ∃ y : Int32, y = y5_4 + 1 := ⟨_, rfl⟩
            have iz22 : z22.toInt = y5_4.toInt + 1 := by rw [ez22]; exact addC rfl rfl (by omega) (by omega)
            refine lv_iinc (v := z22) (lv' := [(4, .int z22), (3, .int x21), (0, .ref (b 39)), (1, .int pp), (2, .int tb)]) hx hb dX10_agrees_55 hl (k := 4) rfl (by rw [ez22]; rfl) (by decide) rfl (fun ls hl => ?_)
            refine lv_goto (tgt := 5) hx hb dX10_agrees_58 (by decide) ?_
            exact ih5 x21 z22 _ (by omega) (by omega) (by (first | exact aw_y (x := 12 * pp + y5_4) i5_2 (by first | exact sw1 (by assumption) (by assumption) | exact sw0 (by assumption) (by assumption)) (by omega) (by assumption) (by omega) | exact aw_n (x := 12 * pp + y5_4) i5_2 (by first | exact nw1 (by assumption) (by assumption) | exact nw0 (by assumption) (by assumption)) (by omega) (by assumption) (by omega) | exact aw_0 rfl (by first | rfl | omega))) (by omega) (by omega) (lv_sub hl [2, 3, 4, 1, 0] rfl)
          · have dc20 : 0 = (manr ((12 * pp) + y5_4).toNatClampNeg).toInt := eqC (show (0 : Int32).toInt = 0 from rfl) rfl c20
            refine lv_iconst (v := 1) hx hb dX10_agrees_48 (by decide) ?_
            refine lv_goto (tgt := 53) hx hb dX10_agrees_49 (by decide) ?_
            refine lv_iadd hx hb dX10_agrees_53 ?_
            refine lv_topi (fun x23 ex23 => ?_)
            have ix23 : x23.toInt = (y5_3 + 1).toInt := by rw [ex23]
            refine lv_istore_n (lv' := [(3, .int x23), (0, .ref (b 39)), (1, .int pp), (2, .int tb), (4, .int y5_4)]) hx hb dX10_agrees_54 rfl hl (by decide) rfl (fun ls hl => ?_)
            obtain ⟨z24, ez24⟩ : ∃ y : Int32, y = y5_4 + 1 := ⟨_, rfl⟩
            have iz24 : z24.toInt = y5_4.toInt + 1 := by rw [ez24]; exact addC rfl rfl (by omega) (by omega)
            refine lv_iinc (v := z24) (lv' := [(4, .int z24), (3, .int x23), (0, .ref (b 39)), (1, .int pp), (2, .int tb)]) hx hb dX10_agrees_55 hl (k := 4) rfl (by rw [ez24]; rfl) (by decide) rfl (fun ls hl => ?_)
            refine lv_goto (tgt := 5) hx hb dX10_agrees_58 (by decide) ?_
            exact ih5 x23 z24 _ (by omega) (by omega) (by (first | exact aw_y (x := 12 * pp + y5_4) i5_2 (by first | exact sw1 (by assumption) (by assumption) | exact sw0 (by assumption) (by assumption)) (by omega) (by assumption) (by omega) | exact aw_n (x := 12 * pp + y5_4) i5_2 (by first | exact nw1 (by assumption) (by assumption) | exact nw0 (by assumption) (by assumption)) (by omega) (by assumption) (by omega) | exact aw_0 rfl (by first | rfl | omega))) (by omega) (by omega) (lv_sub hl [2, 3, 4, 1, 0] rfl)
  have kc25 : (0 : Int32).toInt = 0 := rfl
  exact L5 _ 0 0 _ (by omega) (by omega) (by (first | exact aw_y (x := 12 * pp + y5_4) i5_2 (by first | exact sw1 (by assumption) (by assumption) | exact sw0 (by assumption) (by assumption)) (by omega) (by assumption) (by omega) | exact aw_n (x := 12 * pp + y5_4) i5_2 (by first | exact nw1 (by assumption) (by assumption) | exact nw0 (by assumption) (by assumption)) (by omega) (by assumption) (by omega) | exact aw_0 rfl (by first | rfl | omega))) (by omega) (Nat.lt_succ_self _) (lv_sub hl [2, 3, 4, 1, 0] rfl)
set_option maxHeartbeats 4000000 in
set_option maxRecDepth 100000 in
theorem k_X10_answer2 (l : Launch) (dC : Nat → ClassId) (dI : Nat → Nat → Nat) (cI cZ cQ : ClassId) (b : Nat → Nat) (mday : Int32) (mdoo : Int32) (mdA : Nat → Int32) (mdB : Nat → Int32) (mfar : Nat → Int32) (mmar : Nat → Int32) (mtel : Int32) (mgai : Int32) (mfal : Nat → Int32) (mtop : Nat → Int32) (mstr : Nat → Int32) (mgho : Nat → Int32) (mfai : Nat → Int32) (mpto : Nat → Int32) (mwal : Nat → Int32) (mahd : Nat → Int32) (mahf : Nat → Int32) (mcho : Nat → Int32) (mbes : Nat → Int32) (mbyt : Int32) (mtxt : Nat → Int32) (mpos : Int32) (mtka : Int32) (mtok : Int64) (mdig : Int32) (mnum : Int32) (mfau : Int32) (mrdm : Int32) (mrea : Nat → Int32) (mlin : Int32) (mlne : Nat → Int32) (mthg : Nat → Int32) (mord : Nat → Int32) (mbor : Nat → Int32) (mbsm : Int32) (mans : Nat → Int32) (mand : Nat → Int32) (manr : Nat → Int32) (mali : Nat → Int32) (sz : Nat) (pp : Int32) (dd : Int32) (ri : Int32) (r_mday : 0 ≤ mday.toInt ∧ mday.toInt ≤ 400) (r_mdoo : 0 ≤ mdoo.toInt ∧ mdoo.toInt ≤ 14) (r_mdA : rg 14 (0) (7) mdA) (r_mdB : rg 14 (0) (7) mdB) (r_mmar : rg 24 (0) (255) mmar) (r_mgai : 0 ≤ mgai.toInt ∧ mgai.toInt ≤ 100) (r_mfal : rg 11 (0) (30) mfal) (r_mtop : rg 48 (-1) (23) mtop) (r_mstr : rg 48 (0) (100) mstr) (r_mgho : rg 48 (-1) (23) mgho) (r_mfai : rg 48 (0) (100) mfai) (r_mahd : rg 240 (0) (100) mahd) (r_mahf : rg 240 (0) (100) mahf) (r_mcho : rg 5 (-1) (9) mcho) (r_mbyt : 0 ≤ mbyt.toInt ∧ mbyt.toInt ≤ 160) (r_mpos : 0 ≤ mpos.toInt ∧ mpos.toInt ≤ 160) (r_mrdm : 0 ≤ mrdm.toInt ∧ mrdm.toInt ≤ 10) (r_mlin : 0 ≤ mlin.toInt ∧ mlin.toInt ≤ 10) (r_mthg : rg 8 (0) (31) mthg) (r_mord : rg 8 (-1) (8) mord) (r_mans : rg 4 (0) (12) mans) : KW l yX10_answer wsX10_answer { frames := 2, cells := 0, slots := 0, locals := 42 } (dC, dI) (TY cI cZ cQ) (wMod cI cZ cQ b mday mdoo mdA mdB mfar mmar mtel mgai mfal mtop mstr mgho mfai mpto mwal mahd mahf mcho mbes mbyt mtxt mpos mtka mtok mdig mnum mfau mrdm mrea mlin mlne mthg mord mbor mbsm mans mand manr mali) [.ref (b 39), .int pp, .int dd, .int ri] sz 0 0 (fun (r : Int32) (u : US) => (spAnM mans mand manr pp dd ri r (u.1 0) (u.1 1) (u.1 2)) ∧ (rg 4 (0) (12) (u.1 0))) (fun u : US => (wMod cI cZ cQ b mday mdoo mdA mdB mfar mmar mtel mgai mfal mtop mstr mgho mfai mpto mwal mahd mahf mcho mbes mbyt mtxt mpos mtka mtok mdig mnum mfau mrdm mrea mlin mlne mthg mord mbor mbsm (u.1 0) (u.1 1) (u.1 2) mali)) := by
  refine Met.ofW (cc := cX10_answer) (maxL := 4) (ret := (some .int)) (by decide) rfl ?_
  intro p e s m args below meth c s₁ B hml hv
  obtain ⟨rfl, hsz, hP, hK, hD0, hN⟩ := hv
  have hx := B.exec
  have hb := B.bytes
  have hr := B.returns
  have hts := atoms_spec (ws := wsX10_answer) B.pre
  have hown : s.vm.findClass RX10 = some m.cls := findClass_of_methodNamed B.named
  have hlocks := B.notSynchronized
  have lf80 := hts (.fieldLink RX10 80 "PalaceOfRoomsModel" "answers" "[I") (List.mem_cons_of_mem _ (List.mem_append_left _ (List.mem_of_getElem? (i := 0) rfl)))
  have inX10 : ∀ w ∈ wsX100, w ∈ wsX10_answer := fun w h => List.mem_cons_of_mem _ (List.mem_append_right _ h)
  have lf83 := hts (.fieldLink RX10 83 "PalaceOfRoomsModel" "answerDay" "[I") (List.mem_cons_of_mem _ (List.mem_append_left _ (List.mem_of_getElem? (i := 1) rfl)))
  have lf86 := hts (.fieldLink RX10 86 "PalaceOfRoomsModel" "answerRight" "[Z") (List.mem_cons_of_mem _ (List.mem_append_left _ (List.mem_of_getElem? (i := 2) rfl)))
  subst hsz
  have hD := hD0.self (sz := s.heap.size)
  generalize hAe : va_A (wMod cI cZ cQ b mday mdoo mdA mdB mfar mmar mtel mgai mfal mtop mstr mgho mfai mpto mwal mahd mahf mcho mbes mbyt mtxt mpos mtka mtok mdig mnum mfau mrdm mrea mlin mlne mthg mord mbor mbsm mans mand manr mali) s.heap.size = A at hD ⊢
  have hA : ∀ q : Nat, s.heap.size ≤ q → A q := fun q h => by rw [← hAe]; exact Or.inr h
  have hS : va_S A s.heap s.heap [] := va_S.rf
  have hl := lv_entry ([.ref (b 39), .int pp, .int dd, .int ri]) (n := 4) (Nat.le_of_ble_eq_true rfl)
  rw [lg_entry_eq]
  generalize (lg_sl ([.ref (b 39), .int pp, .int dd, .int ri]) ++ List.replicate (4 - (lg_sl ([.ref (b 39), .int pp, .int dd, .int ri])).length) Slot.unset).toArray = ls at hl ⊢
  have hl : lv_has ls 4 [(0, .ref (b 39)), (1, .int pp), (2, .int dd), (3, .int ri)] := hl
  refine lv_iload_n hx hb dX10_answer_0 rfl (lv_at hl 1 rfl) ?_
  refine rdS (As := [.int pp]) (rest := []) ⟨hx, hb, hml, hown, hts⟩ (k_X10_isPupil l dC dI cI cZ cQ pp) (va_cwS 1 hts gX10_answer_X10_isPupil rfl rfl rfl (by decide +kernel) ⟨Nat.le_of_ble_eq_true rfl, Nat.le_of_ble_eq_true rfl⟩) hP hK hN [] rfl rfl hl.1 rfl (Nat.le_of_ble_eq_true rfl) dX10_answer_1 ⟨Nat.le_of_ble_eq_true rfl, Nat.le_of_ble_eq_true rfl⟩ (fun r1 h2 => ?_)
  have h2 : ((((r1 = 1) ∧ (0 ≤ pp.toInt) ∧ (pp.toInt ≤ 3)) ∨ ((r1 = 0) ∧ (pp.toInt < 0 ∨ 3 < pp.toInt)))) := h2
  rcases h2 with (⟨rfl, h2_a0, h2_a1⟩ | ⟨rfl, h2_a0⟩)
  · refine lv_if_ne (tgt := 10) hx hb dX10_answer_4 (by decide) (fun _ => ?_) (fun c9 => absurd c9 (by decide))
    refine lv_iload_n hx hb dX10_answer_10 rfl (lv_at hl 2 rfl) ?_
    refine lv_iconst (v := 1) hx hb dX10_answer_11 (by decide) ?_
    refine lv_bipush (v := 60) hx hb dX10_answer_12 (by decide) ?_
    refine rdS (As := [.int dd, .int 1, .int 60]) (rest := []) ⟨hx, hb, hml, hown, hts⟩ (k_X10_in l dC dI cI cZ cQ dd (1 : Int32) (60 : Int32)) (va_cwS 3 hts gX10_answer_X10_in rfl rfl rfl (by decide +kernel) ⟨Nat.le_of_ble_eq_true rfl, Nat.le_of_ble_eq_true rfl⟩) hP hK hN [] rfl rfl hl.1 rfl (Nat.le_of_ble_eq_true rfl) dX10_answer_14 ⟨Nat.le_of_ble_eq_true rfl, Nat.le_of_ble_eq_true rfl⟩ (fun r3 h4 => ?_)
    have h4 : ((((r3 = 1) ∧ ((1) ≤ dd.toInt) ∧ (dd.toInt ≤ (60))) ∨ ((r3 = 0) ∧ (dd.toInt < (1) ∨ (60) < dd.toInt)))) := h4
    rcases h4 with (⟨rfl, h4_a0, h4_a1⟩ | ⟨rfl, h4_a0⟩)
    · refine lv_if_ne (tgt := 23) hx hb dX10_answer_17 (by decide) (fun _ => ?_) (fun c9 => absurd c9 (by decide))
      refine lv_aload_n hx hb dX10_answer_23 rfl (lv_at hl 0 rfl) ?_
      refine va_get (D := (dC, dI)) (ci := 10) (v := .ref (b 35)) (C := RX10) (T := TX10) (N := 39) hx hb hts inX10 hown hK hP 0 rfl rfl 35 (by decide) lf80 (fun _ h9 => h9) rfl dX10_answer_24 ?_
      refine lv_iload_n hx hb dX10_answer_27 rfl (lv_at hl 1 rfl) ?_
      have b5 : vp_in pp 4 := inC rfl (by omega) (by omega)
      refine va_iald hx hb hK hP 22 0 rfl rfl b5 dX10_answer_28 ?_
      have g6 : 0 ≤ (mans pp.toNatClampNeg).toInt ∧ (mans pp.toNatClampNeg).toInt ≤ 12 := rg_at r_mans b5
      refine lv_bipush (v := 12) hx hb dX10_answer_29 (by decide) ?_
      refine lv_icmp_ne (tgt := 37) hx hb dX10_answer_31 (by decide) (fun c7 => ?_) (fun c7 => ?_)
      · have dc7 : (mans pp.toNatClampNeg).toInt ≤ 11 := ka_hi (by omega) (neC rfl (show (12 : Int32).toInt = 12 from rfl) c7)
        refine lv_aload_n hx hb dX10_answer_37 rfl (lv_at hl 0 rfl) ?_
        refine va_get (D := (dC, dI)) (ci := 10) (v := .ref (b 36)) (C := RX10) (T := TX10) (N := 39) hx hb hts inX10 hown hK hP 0 rfl rfl 36 (by decide) lf83 (fun _ h9 => h9) rfl dX10_answer_38 ?_
        refine lv_bipush (v := 12) hx hb dX10_answer_41 (by decide) ?_
        refine lv_iload_n hx hb dX10_answer_43 rfl (lv_at hl 1 rfl) ?_
        refine lv_imul hx hb dX10_answer_44 ?_
        have f8 : (12 * pp).toInt = (12) * (pp.toInt) := mulC (show (12 : Int32).toInt = 12 from rfl) rfl (by omega) (by omega)
        refine lv_aload_n hx hb dX10_answer_45 rfl (lv_at hl 0 rfl) ?_
        refine va_get (D := (dC, dI)) (ci := 10) (v := .ref (b 35)) (C := RX10) (T := TX10) (N := 39) hx hb hts inX10 hown hK hP 0 rfl rfl 35 (by decide) lf80 (fun _ h9 => h9) rfl dX10_answer_46 ?_
        refine lv_iload_n hx hb dX10_answer_49 rfl (lv_at hl 1 rfl) ?_
        have b9 : vp_in pp 4 := inC rfl (by omega) (by omega)
        refine va_iald hx hb hK hP 22 0 rfl rfl b9 dX10_answer_50 ?_
        have g10 : 0 ≤ (mans pp.toNatClampNeg).toInt ∧ (mans pp.toNatClampNeg).toInt ≤ 12 := rg_at r_mans b9
        refine lv_iadd hx hb dX10_answer_51 ?_
        have f11 : ((12 * pp) + (mans pp.toNatClampNeg)).toInt = ((12) * (pp.toInt)) + ((mans pp.toNatClampNeg).toInt) := addC f8 rfl (by omega) (by omega)
        refine lv_iload_n hx hb dX10_answer_52 rfl (lv_at hl 2 rfl) ?_
        have b12 : vp_in ((12 * pp) + (mans pp.toNatClampNeg)) 48 := inC f11 (by omega) (by omega)
        refine va_iast hx hb hK hP hD hS 23 0 rfl rfl b12 dX10_answer_53 (fun H locs hP hD hS => ?_)
        obtain ⟨mand_u13, emand_u13⟩ : ∃ f : Nat → Int32, f = upd mand ((12 * pp) + (mans pp.toNatClampNeg)).toNatClampNeg dd := ⟨_, rfl⟩
        have hP : va_P (dC, dI) vwCl (wMod cI cZ cQ b mday mdoo mdA mdB mfar mmar mtel mgai mfal mtop mstr mgho mfai mpto mwal mahd mahf mcho mbes mbyt mtxt mpos mtka mtok mdig mnum mfau mrdm mrea mlin mlne mthg mord mbor mbsm mans mand_u13 manr mali) H := by rw [emand_u13]; exact hP
        have hD : va_D A (wMod cI cZ cQ b mday mdoo mdA mdB mfar mmar mtel mgai mfal mtop mstr mgho mfai mpto mwal mahd mahf mcho mbes mbyt mtxt mpos mtka mtok mdig mnum mfau mrdm mrea mlin mlne mthg mord mbor mbsm mans mand_u13 manr mali) := by rw [emand_u13]; exact hD
        refine lv_aload_n hx hb dX10_answer_54 rfl (lv_at hl 0 rfl) ?_
        refine va_get (D := (dC, dI)) (ci := 10) (v := .ref (b 37)) (C := RX10) (T := TX10) (N := 39) hx hb hts inX10 hown hK hP 0 rfl rfl 37 (by decide) lf86 (fun _ h9 => h9) rfl dX10_answer_55 ?_
        refine lv_bipush (v := 12) hx hb dX10_answer_58 (by decide) ?_
        refine lv_iload_n hx hb dX10_answer_60 rfl (lv_at hl 1 rfl) ?_
        refine lv_imul hx hb dX10_answer_61 ?_
        have f14 : (12 * pp).toInt = (12) * (pp.toInt) := mulC (show (12 : Int32).toInt = 12 from rfl) rfl (by omega) (by omega)
        refine lv_aload_n hx hb dX10_answer_62 rfl (lv_at hl 0 rfl) ?_
        refine va_get (D := (dC, dI)) (ci := 10) (v := .ref (b 35)) (C := RX10) (T := TX10) (N := 39) hx hb hts inX10 hown hK hP 0 rfl rfl 35 (by decide) lf80 (fun _ h9 => h9) rfl dX10_answer_63 ?_
        refine lv_iload_n hx hb dX10_answer_66 rfl (lv_at hl 1 rfl) ?_
        have b15 : vp_in pp 4 := inC rfl (by omega) (by omega)
        refine va_iald hx hb hK hP 22 0 rfl rfl b15 dX10_answer_67 ?_
        have g16 : 0 ≤ (mans pp.toNatClampNeg).toInt ∧ (mans pp.toNatClampNeg).toInt ≤ 12 := rg_at r_mans b15
        refine lv_iadd hx hb dX10_answer_68 ?_
        have f17 : ((12 * pp) + (mans pp.toNatClampNeg)).toInt = ((12) * (pp.toInt)) + ((mans pp.toNatClampNeg).toInt) := addC f14 rfl (by omega) (by omega)
        refine lv_iload_n hx hb dX10_answer_69 rfl (lv_at hl 3 rfl) ?_
        have b18 : vp_in ((12 * pp) + (mans pp.toNatClampNeg)) 48 := inC f17 (by omega) (by omega)
        refine va_zast hx hb hK hP hD hS 24 1 rfl rfl b18 dX10_answer_70 (fun H locs hP hD hS => ?_)
        obtain ⟨manr_u19, emanr_u19⟩ : ∃ f : Nat → Int32, f = upd manr ((12 * pp) + (mans pp.toNatClampNeg)).toNatClampNeg (vp_nar .boolean ri) := ⟨_, rfl⟩
        have hP : va_P (dC, dI) vwCl (wMod cI cZ cQ b mday mdoo mdA mdB mfar mmar mtel mgai mfal mtop mstr mgho mfai mpto mwal mahd mahf mcho mbes mbyt mtxt mpos mtka mtok mdig mnum mfau mrdm mrea mlin mlne mthg mord mbor mbsm mans mand_u13 manr_u19 mali) H := by rw [emanr_u19]; exact hP
        have hD : va_D A (wMod cI cZ cQ b mday mdoo mdA mdB mfar mmar mtel mgai mfal mtop mstr mgho mfai mpto mwal mahd mahf mcho mbes mbyt mtxt mpos mtka mtok mdig mnum mfau mrdm mrea mlin mlne mthg mord mbor mbsm mans mand_u13 manr_u19 mali) := by rw [emanr_u19]; exact hD
        refine lv_aload_n hx hb dX10_answer_71 rfl (lv_at hl 0 rfl) ?_
        refine va_get (D := (dC, dI)) (ci := 10) (v := .ref (b 35)) (C := RX10) (T := TX10) (N := 39) hx hb hts inX10 hown hK hP 0 rfl rfl 35 (by decide) lf80 (fun _ h9 => h9) rfl dX10_answer_72 ?_
        refine lv_iload_n hx hb dX10_answer_75 rfl (lv_at hl 1 rfl) ?_
        refine lv_dup2_11 hx hb dX10_answer_76 rfl rfl ?_
        have b20 : vp_in pp 4 := inC rfl (by omega) (by omega)
        refine va_iald hx hb hK hP 22 0 rfl rfl b20 dX10_answer_77 ?_
        have g21 : 0 ≤ (mans pp.toNatClampNeg).toInt ∧ (mans pp.toNatClampNeg).toInt ≤ 12 := rg_at r_mans b20
        refine lv_iconst (v := 1) hx hb dX10_answer_78 (by decide) ?_
        refine lv_iadd hx hb dX10_answer_79 ?_
        have f22 : ((mans pp.toNatClampNeg) + 1).toInt = ((mans pp.toNatClampNeg).toInt) + (1) := addC rfl (show (1 : Int32).toInt = 1 from rfl) (by omega) (by omega)
        refine lv_topi (fun x23 ex23 => ?_)
        have ix23 : x23.toInt = ((mans pp.toNatClampNeg).toInt) + (1) := by rw [ex23]; exact f22
        have b24 : vp_in pp 4 := inC rfl (by omega) (by omega)
        have g25 : rg 4 (0) (12) (upd mans pp.toNatClampNeg x23) := rg_upd r_mans rfl (by omega) (by omega)
        refine va_iast hx hb hK hP hD hS 22 0 rfl rfl b24 dX10_answer_80 (fun H locs hP hD hS => ?_)
        obtain ⟨mans_u26, emans_u26⟩ : ∃ f : Nat → Int32, f = upd mans pp.toNatClampNeg x23 := ⟨_, rfl⟩
        have rmans_u26 : rg 4 (0) (12) mans_u26 := by rw [emans_u26]; exact g25
        have hP : va_P (dC, dI) vwCl (wMod cI cZ cQ b mday mdoo mdA mdB mfar mmar mtel mgai mfal mtop mstr mgho mfai mpto mwal mahd mahf mcho mbes mbyt mtxt mpos mtka mtok mdig mnum mfau mrdm mrea mlin mlne mthg mord mbor mbsm mans_u26 mand_u13 manr_u19 mali) H := by rw [emans_u26]; exact hP
        have hD : va_D A (wMod cI cZ cQ b mday mdoo mdA mdB mfar mmar mtel mgai mfal mtop mstr mgho mfai mpto mwal mahd mahf mcho mbes mbyt mtxt mpos mtka mtok mdig mnum mfau mrdm mrea mlin mlne mthg mord mbor mbsm mans_u26 mand_u13 manr_u19 mali) := by rw [emans_u26]; exact hD
        refine lv_aload_n hx hb dX10_answer_81 rfl (lv_at hl 0 rfl) ?_
        refine va_get (D := (dC, dI)) (ci := 10) (v := .ref (b 35)) (C := RX10) (T := TX10) (N := 39) hx hb hts inX10 hown hK hP 0 rfl rfl 35 (by decide) lf80 (fun _ h9 => h9) rfl dX10_answer_82 ?_
        refine lv_iload_n hx hb dX10_answer_85 rfl (lv_at hl 1 rfl) ?_
        have b27 : vp_in pp 4 := inC rfl (by omega) (by omega)
        refine va_iald hx hb hK hP 22 0 rfl rfl b27 dX10_answer_86 ?_
        have g28 : 0 ≤ (mans_u26 pp.toNatClampNeg).toInt ∧ (mans_u26 pp.toNatClampNeg).toInt ≤ 12 := rg_at rmans_u26 b27
        have o29 : (mans_u26 pp.toNatClampNeg).toInt = x23.toInt := by rw [emans_u26, pk_us]
        exact W.iret (v := mans_u26 pp.toNatClampNeg) hx hb hr (fun tq ht hW => ⟨⟨mans_u26 pp.toNatClampNeg, (uS [mans_u26, mand_u13, manr_u19] 0 (fun _ => 0)), rfl, ⟨(show spAnM mans mand manr pp dd ri (mans_u26 pp.toNatClampNeg) mans_u26 mand_u13 manr_u19 from by exact ⟨by (unfold spAns; subst_vars; first | exact Or.inl ⟨by omega, rfl, rfl⟩ | exact Or.inr (Or.inl ⟨by omega, by omega, rfl, rfl⟩) | exact Or.inr (Or.inr (Or.inl ⟨by omega, by omega, by omega, rfl, rfl⟩)) | exact Or.inr (Or.inr (Or.inr ⟨by omega, by omega, by omega, by (first | rfl | exact pk_us), rfl⟩))), by (first | exact Or.inl ⟨by decide, rfl, rfl⟩ | exact Or.inr ⟨by omega, by (first | exact an_ix (by assumption) (by assumption) | assumption), by (first | exact an_ix (by assumption) (by assumption) | assumption)⟩)⟩), rmans_u26⟩, by rw [ht]; exact hP, hD⟩, hS.F ht⟩) hS.2.2 dX10_answer_87
      · have dc7 : (mans pp.toNatClampNeg).toInt = 12 := eqC rfl (show (12 : Int32).toInt = 12 from rfl) c7
        refine lv_bipush (v := (-5)) hx hb dX10_answer_34 (by decide) ?_
        exact W.iret (v := (-5)) hx hb hr (fun tq ht hW => ⟨⟨(-5), (uS [mans, mand, manr] 0 (fun _ => 0)), rfl, ⟨(show spAnM mans mand manr pp dd ri ((-5) : Int32) mans mand manr from by (try rw [show ((-5) : Int32).toInt = (-5) from (show ((-5) : Int32).toInt = (-5) from rfl)]); exact ⟨by (unfold spAns; subst_vars; first | exact Or.inl ⟨by omega, rfl, rfl⟩ | exact Or.inr (Or.inl ⟨by omega, by omega, rfl, rfl⟩) | exact Or.inr (Or.inr (Or.inl ⟨by omega, by omega, by omega, rfl, rfl⟩)) | exact Or.inr (Or.inr (Or.inr ⟨by omega, by omega, by omega, by (first | rfl | exact pk_us), rfl⟩))), by (first | exact Or.inl ⟨by decide, rfl, rfl⟩ | exact Or.inr ⟨by omega, by (first | exact an_ix (by assumption) (by assumption) | assumption), by (first | exact an_ix (by assumption) (by assumption) | assumption)⟩)⟩), r_mans⟩, by rw [ht]; exact hP, hD⟩, hS.F ht⟩) hS.2.2 dX10_answer_36
    · refine lv_if_ne (tgt := 23) hx hb dX10_answer_17 (by decide) (fun c9 => absurd (by decide) c9) (fun _ => ?_)
      refine lv_bipush (v := (-3)) hx hb dX10_answer_20 (by decide) ?_
      exact W.iret (v := (-3)) hx hb hr (fun tq ht hW => ⟨⟨(-3), (uS [mans, mand, manr] 0 (fun _ => 0)), rfl, ⟨(show spAnM mans mand manr pp dd ri ((-3) : Int32) mans mand manr from by (try rw [show ((-3) : Int32).toInt = (-3) from (show ((-3) : Int32).toInt = (-3) from rfl)]); exact ⟨by (unfold spAns; subst_vars; first | exact Or.inl ⟨by omega, rfl, rfl⟩ | exact Or.inr (Or.inl ⟨by omega, by omega, rfl, rfl⟩) | exact Or.inr (Or.inr (Or.inl ⟨by omega, by omega, by omega, rfl, rfl⟩)) | exact Or.inr (Or.inr (Or.inr ⟨by omega, by omega, by omega, by (first | rfl | exact pk_us), rfl⟩))), by (first | exact Or.inl ⟨by decide, rfl, rfl⟩ | exact Or.inr ⟨by omega, by (first | exact an_ix (by assumption) (by assumption) | assumption), by (first | exact an_ix (by assumption) (by assumption) | assumption)⟩)⟩), r_mans⟩, by rw [ht]; exact hP, hD⟩, hS.F ht⟩) hS.2.2 dX10_answer_22
  · refine lv_if_ne (tgt := 10) hx hb dX10_answer_4 (by decide) (fun c9 => absurd (by decide) c9) (fun _ => ?_)
    refine lv_bipush (v := (-2)) hx hb dX10_answer_7 (by decide) ?_
    exact W.iret (v := (-2)) hx hb hr (fun tq ht hW => ⟨⟨(-2), (uS [mans, mand, manr] 0 (fun _ => 0)), rfl, ⟨(show spAnM mans mand manr pp dd ri ((-2) : Int32) mans mand manr from by (try rw [show ((-2) : Int32).toInt = (-2) from (show ((-2) : Int32).toInt = (-2) from rfl)]); exact ⟨by (unfold spAns; subst_vars; first | exact Or.inl ⟨by omega, rfl, rfl⟩ | exact Or.inr (Or.inl ⟨by omega, by omega, rfl, rfl⟩) | exact Or.inr (Or.inr (Or.inl ⟨by omega, by omega, by omega, rfl, rfl⟩)) | exact Or.inr (Or.inr (Or.inr ⟨by omega, by omega, by omega, by (first | rfl | exact pk_us), rfl⟩))), by (first | exact Or.inl ⟨by decide, rfl, rfl⟩ | exact Or.inr ⟨by omega, by (first | exact an_ix (by assumption) (by assumption) | assumption), by (first | exact an_ix (by assumption) (by assumption) | assumption)⟩)⟩), r_mans⟩, by rw [ht]; exact hP, hD⟩, hS.F ht⟩) hS.2.2 dX10_answer_9
end
section
set_option maxHeartbeats 4000000 in
set_option maxRecDepth 100000 in
theorem k_X10_partsMost2 (l : Launch) (dC : Nat → ClassId) (dI : Nat → Nat → Nat) (cI cZ cQ : ClassId) (b : Nat → Nat) (mday : Int32) (mdoo : Int32) (mdA : Nat → Int32) (mdB : Nat → Int32) (mfar : Nat → Int32) (mmar : Nat → Int32) (mtel : Int32) (mgai : Int32) (mfal : Nat → Int32) (mtop : Nat → Int32) (mstr : Nat → Int32) (mgho : Nat → Int32) (mfai : Nat → Int32) (mpto : Nat → Int32) (mwal : Nat → Int32) (mahd : Nat → Int32) (mahf : Nat → Int32) (mcho : Nat → Int32) (mbes : Nat → Int32) (mbyt : Int32) (mtxt : Nat → Int32) (mpos : Int32) (mtka : Int32) (mtok : Int64) (mdig : Int32) (mnum : Int32) (mfau : Int32) (mrdm : Int32) (mrea : Nat → Int32) (mlin : Int32) (mlne : Nat → Int32) (mthg : Nat → Int32) (mord : Nat → Int32) (mbor : Nat → Int32) (mbsm : Int32) (mans : Nat → Int32) (mand : Nat → Int32) (manr : Nat → Int32) (mali : Nat → Int32) (pp : Int32) (r_mday : 0 ≤ mday.toInt ∧ mday.toInt ≤ 400) (r_mdoo : 0 ≤ mdoo.toInt ∧ mdoo.toInt ≤ 14) (r_mdA : rg 14 (0) (7) mdA) (r_mdB : rg 14 (0) (7) mdB) (r_mmar : rg 24 (0) (255) mmar) (r_mgai : 0 ≤ mgai.toInt ∧ mgai.toInt ≤ 100) (r_mfal : rg 11 (0) (30) mfal) (r_mtop : rg 48 (-1) (23) mtop) (r_mstr : rg 48 (0) (100) mstr) (r_mgho : rg 48 (-1) (23) mgho) (r_mfai : rg 48 (0) (100) mfai) (r_mahd : rg 240 (0) (100) mahd) (r_mahf : rg 240 (0) (100) mahf) (r_mcho : rg 5 (-1) (9) mcho) (r_mbyt : 0 ≤ mbyt.toInt ∧ mbyt.toInt ≤ 160) (r_mpos : 0 ≤ mpos.toInt ∧ mpos.toInt ≤ 160) (r_mrdm : 0 ≤ mrdm.toInt ∧ mrdm.toInt ≤ 10) (r_mlin : 0 ≤ mlin.toInt ∧ mlin.toInt ≤ 10) (r_mthg : rg 8 (0) (31) mthg) (r_mord : rg 8 (-1) (8) mord) (r_mans : rg 4 (0) (12) mans) (q0 : 0 ≤ pp.toInt) (q1 : pp.toInt ≤ 3) : KR l yX10_partsMost wsX10_partsMost { frames := 2, cells := 0, slots := 0, locals := 45 } (dC, dI) (TY cI cZ cQ) (wMod cI cZ cQ b mday mdoo mdA mdB mfar mmar mtel mgai mfal mtop mstr mgho mfai mpto mwal mahd mahf mcho mbes mbyt mtxt mpos mtka mtok mdig mnum mfau mrdm mrea mlin mlne mthg mord mbor mbsm mans mand manr mali) [.ref (b 39), .int pp] (fun r : Int32 => (r.toInt = dpF (fun t => agW mand manr (nI t) (12 * pp.toInt).toNat (mans pp.toNatClampNeg).toInt.toNat) (mans pp.toNatClampNeg) 1000)) := by
  refine Met.ofW (cc := cX10_partsMost) (maxL := 9) (ret := (some .int)) (by decide) rfl ?_
  intro p e s m args below meth c s₁ B hml hv
  obtain ⟨rfl, hP, hK, hN⟩ := hv
  have hx := B.exec
  have hb := B.bytes
  have hr := B.returns
  have hts := atoms_spec (ws := wsX10_partsMost) B.pre
  have hown : s.vm.findClass RX10 = some m.cls := findClass_of_methodNamed B.named
  have hlocks := B.notSynchronized
  have lf80 := hts (.fieldLink RX10 80 "PalaceOfRoomsModel" "answers" "[I") (List.mem_cons_of_mem _ (List.mem_append_left _ (List.mem_of_getElem? (i := 0) rfl)))
  have inX10 : ∀ w ∈ wsX100, w ∈ wsX10_partsMost := fun w h => List.mem_cons_of_mem _ (List.mem_append_right _ h)
  have hl := lv_entry ([.ref (b 39), .int pp]) (n := 9) (Nat.le_of_ble_eq_true rfl)
  rw [lg_entry_eq]
  generalize (lg_sl ([.ref (b 39), .int pp]) ++ List.replicate (9 - (lg_sl ([.ref (b 39), .int pp])).length) Slot.unset).toArray = ls at hl ⊢
  have hl : lv_has ls 9 [(0, .ref (b 39)), (1, .int pp)] := hl
  refine lv_iconst (v := (-1)) hx hb dX10_partsMost_0 (by decide) ?_
  refine lv_istore_n (lv' := [(2, .int (-1)), (0, .ref (b 39)), (1, .int pp)]) hx hb dX10_partsMost_1 rfl hl (by decide) rfl (fun ls hl => ?_)
  refine lv_sipush (v := 1000) hx hb dX10_partsMost_2 (by decide) ?_
  refine lv_istore_n (lv' := [(3, .int 1000), (2, .int (-1)), (0, .ref (b 39)), (1, .int pp)]) hx hb dX10_partsMost_5 rfl hl (by decide) rfl (fun ls hl => ?_)
  refine lv_iconst (v := 0) hx hb dX10_partsMost_6 (by decide) ?_
  refine lv_istore (lv' := [(4, .int 0), (3, .int 1000), (2, .int (-1)), (0, .ref (b 39)), (1, .int pp)]) hx hb dX10_partsMost_7 hl (by decide) rfl (fun ls hl => ?_)
  refine lv_iconst (v := 1) hx hb dX10_partsMost_9 (by decide) ?_
  refine lv_istore (lv' := [(5, .int 1), (4, .int 0), (3, .int 1000), (2, .int (-1)), (0, .ref (b 39)), (1, .int pp)]) hx hb dX10_partsMost_10 hl (by decide) rfl (fun ls hl => ?_)
  have L12 : ∀ (nn : Nat) (y12_2 : Int32) (y12_3 : Int32) (y12_4 : Int32) (y12_5 : Int32) (ls : Array Slot), (1 ≤ (y12_5.toInt)) → ((y12_5.toInt) ≤ 61) → (-1 ≤ (y12_2.toInt)) → ((y12_2.toInt) ≤ 60) → (0 ≤ (y12_3.toInt)) → ((y12_3.toInt) ≤ 1000) → (0 ≤ (y12_4.toInt)) → ((y12_4.toInt) ≤ 4860) → (((y12_2.toInt), (y12_3.toInt)) = fdP (fun t => agW mand manr (nI t) (12 * pp.toInt).toNat (mans pp.toNatClampNeg).toInt.toNat) (mans pp.toNatClampNeg) 1000 ((y12_5.toInt) - 1).toNat) → (anI (y12_4.toInt) (y12_5.toInt) (mayF (fun t => agW mand manr (nI t) (12 * pp.toInt).toNat (mans pp.toNatClampNeg).toInt.toNat) (mans pp.toNatClampNeg) 81)) → ((y12_4.toInt) ≤ 81 * (y12_5.toInt) - 81) → (61 - (y12_5.toInt)).toNat < nn → lv_has ls 9 [(0, .ref (b 39)), (1, .int pp), (2, .int y12_2), (3, .int y12_3), (4, .int y12_4), (5, .int y12_5)] → W p l e (headSpec wsX10_partsMost { frames := 2, cells := 0, slots := 0, locals := 45 }).room s m ([.ref (b 39), .int pp] : List Value).toArray below meth c s.heap [] 0 0 (MQ below (QR (fun r : Int32 => (r.toInt = dpF (fun t => agW mand manr (nI t) (12 * pp.toInt).toNat (mans pp.toNatClampNeg).toInt.toNat) (mans pp.toNatClampNeg) 1000))) ([.ref (b 39), .int pp] : List Value).toArray s 0 0 (fun _ => False)) (F0 m 12 ls []) := by
    intro nn
    induction nn with
    | zero =>
      intro y12_2 y12_3 y12_4 y12_5 ls i12_0 i12_1 i12_2 i12_3 i12_4 i12_5 i12_6 i12_7 i12_8 i12_9 i12_10 hm12
      exact absurd hm12 (Nat.not_lt_zero _)
    | succ nn ih12 =>
      intro y12_2 y12_3 y12_4 y12_5 ls i12_0 i12_1 i12_2 i12_3 i12_4 i12_5 i12_6 i12_7 i12_8 i12_9 i12_10 hm12 hl
      refine lv_iload hx hb dX10_partsMost_12 (lv_at hl 5 rfl) ?_
      refine lv_bipush (v := 61) hx hb dX10_partsMost_14 (by decide) ?_
      refine lv_icmp_ge (tgt := 152) hx hb dX10_partsMost_16 (by decide) (fun c1 => ?_) (fun c1 => ?_)
      · have dc1 : 61 ≤ y12_5.toInt := leC (show (61 : Int32).toInt = 61 from rfl) rfl c1
        refine lv_iload hx hb dX10_partsMost_152 (lv_at hl 4 rfl) ?_
        refine lv_if_ne (tgt := 161) hx hb dX10_partsMost_154 (by decide) (fun c2 => ?_) (fun c2 => ?_)
        · have dc2 : 1 ≤ y12_4.toInt := ka_lo (by omega) (neC rfl (show (0 : Int32).toInt = 0 from rfl) c2)
          refine lv_iload_n hx hb dX10_partsMost_161 rfl (lv_at hl 2 rfl) ?_
          exact W.iret (v := y12_2) hx hb hr (fun tq ht hW => ⟨y12_2, rfl, (show y12_2.toInt = dpF (fun t => agW mand manr (nI t) (12 * pp.toInt).toNat (mans pp.toNatClampNeg).toInt.toNat) (mans pp.toNatClampNeg) 1000 from by (first | exact dp_0 rfl ((ay_e i12_9 (by omega)).mp (by omega)) rfl | exact dp_1 rfl (fun q => absurd ((ay_e i12_9 (by omega)).mpr q) (by omega)) i12_8 (by omega))), ht⟩) (fun q h => by cases h) dX10_partsMost_162
        · have dc2 : y12_4.toInt = 0 := eqC rfl (show (0 : Int32).toInt = 0 from rfl) c2
          refine lv_iconst (v := (-1)) hx hb dX10_partsMost_157 (by decide) ?_
          refine lv_goto (tgt := 162) hx hb dX10_partsMost_158 (by decide) ?_
          exact W.iret (v := (-1)) hx hb hr (fun tq ht hW => ⟨(-1), rfl, (show ((-1) : Int32).toInt = dpF (fun t => agW mand manr (nI t) (12 * pp.toInt).toNat (mans pp.toNatClampNeg).toInt.toNat) (mans pp.toNatClampNeg) 1000 from by (try rw [show ((-1) : Int32).toInt = (-1) from (show ((-1) : Int32).toInt = (-1) from rfl)]); (first | exact dp_0 rfl ((ay_e i12_9 (by omega)).mp (by omega)) rfl | exact dp_1 rfl (fun q => absurd ((ay_e i12_9 (by omega)).mpr q) (by omega)) i12_8 (by omega))), ht⟩) (fun q h => by cases h) dX10_partsMost_162
      · have dc1 : y12_5.toInt < 61 := nleC (show (61 : Int32).toInt = 61 from rfl) rfl c1
        refine lv_iconst (v := 0) hx hb dX10_partsMost_19 (by decide) ?_
        refine lv_istore (lv' := [(6, .int 0), (0, .ref (b 39)), (1, .int pp), (2, .int y12_2), (3, .int y12_3), (4, .int y12_4), (5, .int y12_5)]) hx hb dX10_partsMost_20 hl (by decide) rfl (fun ls hl => ?_)
        refine lv_iconst (v := 0) hx hb dX10_partsMost_22 (by decide) ?_
        refine lv_istore (lv' := [(7, .int 0), (6, .int 0), (0, .ref (b 39)), (1, .int pp), (2, .int y12_2), (3, .int y12_3), (4, .int y12_4), (5, .int y12_5)]) hx hb dX10_partsMost_23 hl (by decide) rfl (fun ls hl => ?_)
        have L25 : ∀ (nn : Nat) (y25_4 : Int32) (y25_6 : Int32) (y25_7 : Int32) (ls : Array Slot), (0 ≤ (y25_7.toInt)) → ((y25_7.toInt) ≤ 81) → (0 ≤ (y25_4.toInt)) → ((y25_4.toInt) ≤ 4950) → (-81 ≤ (y25_6.toInt)) → ((y25_6.toInt) ≤ 81) → (0 - (y25_7.toInt) ≤ (y25_6.toInt)) → ((y25_6.toInt) ≤ (y25_7.toInt)) → ((y25_4.toInt) ≤ y12_4.toInt + (y25_7.toInt)) → ((y25_4.toInt) = y12_4.toInt + mayF (fun t => agW mand manr (nI t) (12 * pp.toInt).toNat (mans pp.toNatClampNeg).toInt.toNat) (mans pp.toNatClampNeg) ((y25_7.toInt)).toNat) → ((y25_6.toInt) = unF (fun t => agW mand manr (nI t) (12 * pp.toInt).toNat (mans pp.toNatClampNeg).toInt.toNat) (mans pp.toNatClampNeg) y12_5 ((y25_7.toInt)).toNat) → (81 - (y25_7.toInt)).toNat < nn → lv_has ls 9 [(0, .ref (b 39)), (1, .int pp), (2, .int y12_2), (3, .int y12_3), (4, .int y25_4), (5, .int y12_5), (6, .int y25_6), (7, .int y25_7)] → W p l e (headSpec wsX10_partsMost { frames := 2, cells := 0, slots := 0, locals := 45 }).room s m ([.ref (b 39), .int pp] : List Value).toArray below meth c s.heap [] 0 0 (MQ below (QR (fun r : Int32 => (r.toInt = dpF (fun t => agW mand manr (nI t) (12 * pp.toInt).toNat (mans pp.toNatClampNeg).toInt.toNat) (mans pp.toNatClampNeg) 1000))) ([.ref (b 39), .int pp] : List Value).toArray s 0 0 (fun _ => False)) (F0 m 25 ls []) := by
          intro nn
          induction nn with
          | zero =>
            intro y25_4 y25_6 y25_7 ls i25_0 i25_1 i25_2 i25_3 i25_4 i25_5 i25_6 i25_7 i25_8 i25_9 i25_10 hm25
            exact absurd hm25 (Nat.not_lt_zero _)
          | succ nn ih25 =>
            intro y25_4 y25_6 y25_7 ls i25_0 i25_1 i25_2 i25_3 i25_4 i25_5 i25_6 i25_7 i25_8 i25_9 i25_10 hm25 hl
            refine lv_iload hx hb dX10_partsMost_25 (lv_at hl 7 rfl) ?_
            refine lv_bipush (v := 81) hx hb dX10_partsMost_27 (by decide) ?_
            refine lv_icmp_ge (tgt := 105) hx hb dX10_partsMost_29 (by decide) (fun c3 => ?_) (fun c3 => ?_)
            · have dc3 : 81 ≤ y25_7.toInt := leC (show (81 : Int32).toInt = 81 from rfl) rfl c3
              have L120 : ∀ (y120_6 : Int32) (ls : Array Slot), ((y120_6.toInt) = ofF (fun t => agW mand manr (nI t) (12 * pp.toInt).toNat (mans pp.toNatClampNeg).toInt.toNat) (mans pp.toNatClampNeg) y12_5) → (0 ≤ (y120_6.toInt)) → ((y120_6.toInt) ≤ 81) → lv_has ls 9 [(0, .ref (b 39)), (1, .int pp), (2, .int y12_2), (3, .int y12_3), (4, .int y25_4), (5, .int y12_5), (6, .int y120_6)] → W p l e (headSpec wsX10_partsMost { frames := 2, cells := 0, slots := 0, locals := 45 }).room s m ([.ref (b 39), .int pp] : List Value).toArray below meth c s.heap [] 0 0 (MQ below (QR (fun r : Int32 => (r.toInt = dpF (fun t => agW mand manr (nI t) (12 * pp.toInt).toNat (mans pp.toNatClampNeg).toInt.toNat) (mans pp.toNatClampNeg) 1000))) ([.ref (b 39), .int pp] : List Value).toArray s 0 0 (fun _ => False)) (F0 m 120 ls []) := by
                intro y120_6 ls i120_0 i120_1 i120_2 hl
                refine lv_iload hx hb dX10_partsMost_120 (lv_at hl 6 rfl) ?_
                refine lv_iload_n hx hb dX10_partsMost_122 rfl (lv_at hl 3 rfl) ?_
                refine lv_icmp_ge (tgt := 131) hx hb dX10_partsMost_123 (by decide) (fun c4 => ?_) (fun c4 => ?_)
                · have dc4 : y12_3.toInt ≤ y120_6.toInt := leC rfl rfl c4
                  refine lv_iload_n hx hb dX10_partsMost_131 rfl (lv_at hl 2 rfl) ?_
                  refine lv_istore_n (lv' := [(2, .int y12_2), (0, .ref (b 39)), (1, .int pp), (3, .int y12_3), (4, .int y25_4), (5, .int y12_5), (6, .int y120_6)]) hx hb dX10_partsMost_132 rfl hl (by decide) rfl (fun ls hl => ?_)
                  refine lv_iload hx hb dX10_partsMost_133 (lv_at hl 6 rfl) ?_
                  refine lv_iload_n hx hb dX10_partsMost_135 rfl (lv_at hl 3 rfl) ?_
                  refine lv_icmp_ge (tgt := 144) hx hb dX10_partsMost_136 (by decide) (fun c5 => ?_) (fun c5 => ?_)
                  · have dc5 : y12_3.toInt ≤ y120_6.toInt := leC rfl rfl c5
                    refine lv_iload_n hx hb dX10_partsMost_144 rfl (lv_at hl 3 rfl) ?_
                    refine lv_istore_n (lv' := [(3, .int y12_3), (2, .int y12_2), (0, .ref (b 39)), (1, .int pp), (4, .int y25_4), (5, .int y12_5), (6, .int y120_6)]) hx hb dX10_partsMost_145 rfl hl (by decide) rfl (fun ls hl => ?_)
                    obtain ⟨z6, ez6⟩ : ∃ y : Int32, y = y12_5 + 1 := ⟨_, rfl⟩
                    have iz6 : z6.toInt = y12_5.toInt + 1 := by rw [ez6]; exact addC rfl rfl (by omega) (by omega)
                    refine lv_iinc (v := z6) (lv' := [(5, .int z6), (3, .int y12_3), (2, .int y12_2), (0, .ref (b 39)), (1, .int pp), (4, .int y25_4), (6, .int y120_6)]) hx hb dX10_partsMost_146 hl (k := 5) rfl (by rw [ez6]; rfl) (by decide) rfl (fun ls hl => ?_)
                    refine lv_goto (tgt := 12) hx hb dX10_partsMost_149 (by decide) ?_
                    exact ih12 y12_2 y12_3 y25_4 z6 _ (by omega) (by omega) (by omega) (by omega) (by omega) (by omega) (by omega) (by omega) (by (first | exact fd_y (d := y12_5) i12_8 (by omega) rfl i120_0 (by omega) (by omega) | exact fd_n (d := y12_5) i12_8 (by omega) i120_0 (by omega) (by omega) | (exfalso; omega) | exact fd_0 (by first | rfl | omega) (by first | rfl | omega) (by first | rfl | omega))) (by (first | exact ay_s i12_9 i25_9 (by omega) (by omega) (by omega) | exact ay_0 (by first | rfl | omega) (by first | rfl | omega))) (by omega) (by omega) (lv_sub hl [3, 4, 2, 1, 5, 0] rfl)
                  · have dc5 : y120_6.toInt < y12_3.toInt := nleC rfl rfl c5
                    refine lv_iload hx hb dX10_partsMost_139 (lv_at hl 6 rfl) ?_
                    refine lv_goto (tgt := 145) hx hb dX10_partsMost_141 (by decide) ?_
                    refine lv_istore_n (lv' := [(3, .int y120_6), (2, .int y12_2), (0, .ref (b 39)), (1, .int pp), (4, .int y25_4), (5, .int y12_5), (6, .int y120_6)]) hx hb dX10_partsMost_145 rfl hl (by decide) rfl (fun ls hl => ?_)
                    obtain ⟨z7, ez7⟩ : ∃ y : Int32, y = y12_5 + 1 := ⟨_, rfl⟩
                    have iz7 : z7.toInt = y12_5.toInt + 1 := by rw [ez7]; exact addC rfl rfl (by omega) (by omega)
                    refine lv_iinc (v := z7) (lv' := [(5, .int z7), (3, .int y120_6), (2, .int y12_2), (0, .ref (b 39)), (1, .int pp), (4, .int y25_4), (6, .int y120_6)]) hx hb dX10_partsMost_146 hl (k := 5) rfl (by rw [ez7]; rfl) (by decide) rfl (fun ls hl => ?_)
                    refine lv_goto (tgt := 12) hx hb dX10_partsMost_149 (by decide) ?_
                    exact ih12 y12_2 y120_6 y25_4 z7 _ (by omega) (by omega) (by omega) (by omega) (by omega) (by omega) (by omega) (by omega) (by (first | exact fd_y (d := y12_5) i12_8 (by omega) rfl i120_0 (by omega) (by omega) | exact fd_n (d := y12_5) i12_8 (by omega) i120_0 (by omega) (by omega) | (exfalso; omega) | exact fd_0 (by first | rfl | omega) (by first | rfl | omega) (by first | rfl | omega))) (by (first | exact ay_s i12_9 i25_9 (by omega) (by omega) (by omega) | exact ay_0 (by first | rfl | omega) (by first | rfl | omega))) (by omega) (by omega) (lv_sub hl [3, 4, 2, 1, 5, 0] rfl)
                · have dc4 : y120_6.toInt < y12_3.toInt := nleC rfl rfl c4
                  refine lv_iload hx hb dX10_partsMost_126 (lv_at hl 5 rfl) ?_
                  refine lv_goto (tgt := 132) hx hb dX10_partsMost_128 (by decide) ?_
                  refine lv_istore_n (lv' := [(2, .int y12_5), (0, .ref (b 39)), (1, .int pp), (3, .int y12_3), (4, .int y25_4), (5, .int y12_5), (6, .int y120_6)]) hx hb dX10_partsMost_132 rfl hl (by decide) rfl (fun ls hl => ?_)
                  refine lv_iload hx hb dX10_partsMost_133 (lv_at hl 6 rfl) ?_
                  refine lv_iload_n hx hb dX10_partsMost_135 rfl (lv_at hl 3 rfl) ?_
                  refine lv_icmp_ge (tgt := 144) hx hb dX10_partsMost_136 (by decide) (fun c8 => ?_) (fun c8 => ?_)
                  · have dc8 : y12_3.toInt ≤ y120_6.toInt := leC rfl rfl c8
                    refine lv_iload_n hx hb dX10_partsMost_144 rfl (lv_at hl 3 rfl) ?_
                    refine lv_istore_n (lv' := [(3, .int y12_3), (2, .int y12_5), (0, .ref (b 39)), (1, .int pp), (4, .int y25_4), (5, .int y12_5), (6, .int y120_6)]) hx hb dX10_partsMost_145 rfl hl (by decide) rfl (fun ls hl => ?_)
                    obtain ⟨z9, ez9⟩ : ∃ y : Int32, y = y12_5 + 1 := ⟨_, rfl⟩
                    have iz9 : z9.toInt = y12_5.toInt + 1 := by rw [ez9]; exact addC rfl rfl (by omega) (by omega)
                    refine lv_iinc (v := z9) (lv' := [(5, .int z9), (3, .int y12_3), (2, .int y12_5), (0, .ref (b 39)), (1, .int pp), (4, .int y25_4), (6, .int y120_6)]) hx hb dX10_partsMost_146 hl (k := 5) rfl (by rw [ez9]; rfl) (by decide) rfl (fun ls hl => ?_)
                    refine lv_goto (tgt := 12) hx hb dX10_partsMost_149 (by decide) ?_
                    exact ih12 y12_5 y12_3 y25_4 z9 _ (by omega) (by omega) (by omega) (by omega) (by omega) (by omega) (by omega) (by omega) (by (first | exact fd_y (d := y12_5) i12_8 (by omega) rfl i120_0 (by omega) (by omega) | exact fd_n (d := y12_5) i12_8 (by omega) i120_0 (by omega) (by omega) | (exfalso; omega) | exact fd_0 (by first | rfl | omega) (by first | rfl | omega) (by first | rfl | omega))) (by (first | exact ay_s i12_9 i25_9 (by omega) (by omega) (by omega) | exact ay_0 (by first | rfl | omega) (by first | rfl | omega))) (by omega) (by omega) (lv_sub hl [3, 4, 2, 1, 5, 0] rfl)
                  · have dc8 : y120_6.toInt < y12_3.toInt := nleC rfl rfl c8
                    refine lv_iload hx hb dX10_partsMost_139 (lv_at hl 6 rfl) ?_
                    refine lv_goto (tgt := 145) hx hb dX10_partsMost_141 (by decide) ?_
                    refine lv_istore_n (lv' := [(3, .int y120_6), (2, .int y12_5), (0, .ref (b 39)), (1, .int pp), (4, .int y25_4), (5, .int y12_5), (6, .int y120_6)]) hx hb dX10_partsMost_145 rfl hl (by decide) rfl (fun ls hl => ?_)
                    obtain ⟨z10, ez10⟩ : ∃ y : Int32, y = y12_5 + 1 := ⟨_, rfl⟩
                    have iz10 : z10.toInt = y12_5.toInt + 1 := by rw [ez10]; exact addC rfl rfl (by omega) (by omega)
                    refine lv_iinc (v := z10) (lv' := [(5, .int z10), (3, .int y120_6), (2, .int y12_5), (0, .ref (b 39)), (1, .int pp), (4, .int y25_4), (6, .int y120_6)]) hx hb dX10_partsMost_146 hl (k := 5) rfl (by rw [ez10]; rfl) (by decide) rfl (fun ls hl => ?_)
                    refine lv_goto (tgt := 12) hx hb dX10_partsMost_149 (by decide) ?_
                    exact ih12 y12_5 y120_6 y25_4 z10 _ (by omega) (by omega) (by omega) (by omega) (by omega) (by omega) (by omega) (by omega) (by (first | exact fd_y (d := y12_5) i12_8 (by omega) rfl i120_0 (by omega) (by omega) | exact fd_n (d := y12_5) i12_8 (by omega) i120_0 (by omega) (by omega) | (exfalso; omega) | exact fd_0 (by first | rfl | omega) (by first | rfl | omega) (by first | rfl | omega))) (by (first | exact ay_s i12_9 i25_9 (by omega) (by omega) (by omega) | exact ay_0 (by first | rfl | omega) (by first | rfl | omega))) (by omega) (by omega) (lv_sub hl [3, 4, 2, 1, 5, 0] rfl)
              refine lv_iload hx hb dX10_partsMost_105 (lv_at hl 6 rfl) ?_
              refine lv_if_ge (tgt := 116) hx hb dX10_partsMost_107 (by decide) (fun c11 => ?_) (fun c11 => ?_)
              · have dc11 : 0 ≤ y25_6.toInt := leC (show (0 : Int32).toInt = 0 from rfl) rfl c11
                refine lv_iload hx hb dX10_partsMost_116 (lv_at hl 6 rfl) ?_
                refine lv_istore (lv' := [(6, .int y25_6), (0, .ref (b 39)), (1, .int pp), (2, .int y12_2), (3, .int y12_3), (4, .int y25_4), (5, .int y12_5), (7, .int y25_7)]) hx hb dX10_partsMost_118 hl (by decide) rfl (fun ls hl => ?_)
                exact L120 y25_6 _ (by (exact of_e i25_10 (by omega) (by omega))) (by omega) (by omega) (lv_sub hl [1, 2, 3, 4, 5, 6, 0] rfl)
              · have dc11 : y25_6.toInt < 0 := nleC (show (0 : Int32).toInt = 0 from rfl) rfl c11
                refine lv_iload hx hb dX10_partsMost_110 (lv_at hl 6 rfl) ?_
                refine lv_ineg hx hb dX10_partsMost_112 ?_
                have f12 : (-y25_6).toInt = -(y25_6.toInt) := negC rfl (by omega) (by omega)
                refine lv_goto (tgt := 118) hx hb dX10_partsMost_113 (by decide) ?_
                refine lv_topi (fun x13 ex13 => ?_)
                have ix13 : x13.toInt = -(y25_6.toInt) := by rw [ex13]; exact f12
                refine lv_istore (lv' := [(6, .int x13), (0, .ref (b 39)), (1, .int pp), (2, .int y12_2), (3, .int y12_3), (4, .int y25_4), (5, .int y12_5), (7, .int y25_7)]) hx hb dX10_partsMost_118 hl (by decide) rfl (fun ls hl => ?_)
                exact L120 x13 _ (by (exact of_e i25_10 (by omega) (by omega))) (by omega) (by omega) (lv_sub hl [1, 2, 3, 4, 5, 6, 0] rfl)
            · have dc3 : y25_7.toInt < 81 := nleC (show (81 : Int32).toInt = 81 from rfl) rfl c3
              refine lv_aload_n hx hb dX10_partsMost_32 rfl (lv_at hl 0 rfl) ?_
              refine lv_iload_n hx hb dX10_partsMost_33 rfl (lv_at hl 1 rfl) ?_
              refine lv_iload hx hb dX10_partsMost_34 (lv_at hl 7 rfl) ?_
              refine rdV (As := [.int pp, .int y25_7]) (rest := []) ⟨hx, hb, hml, hown, hts⟩ (k_X10_agrees2 l dC dI cI cZ cQ b mday mdoo mdA mdB mfar mmar mtel mgai mfal mtop mstr mgho mfai mpto mwal mahd mahf mcho mbes mbyt mtxt mpos mtka mtok mdig mnum mfau mrdm mrea mlin mlne mthg mord mbor mbsm mans mand manr mali pp y25_7 r_mday r_mdoo r_mdA r_mdB r_mmar r_mgai r_mfal r_mtop r_mstr r_mgho r_mfai r_mahd r_mahf r_mcho r_mbyt r_mpos r_mrdm r_mlin r_mthg r_mord r_mans (by omega) (by omega) (by omega) (by omega)) (cwV 2 hts gX10_partsMost_X10_agrees rfl rfl rfl (by decide +kernel) ⟨Nat.le_of_ble_eq_true rfl, Nat.le_of_ble_eq_true rfl⟩) hP hK hN [0, 1, 2, 3, 4, 5, 6, 7, 8, 9, 10, 11, 12, 13, 14, 15, 16, 17, 18, 19, 20, 21, 22, 23, 24, 25] rfl 0 10 rfl rfl rfl hl.1 rfl (Nat.le_of_ble_eq_true rfl) dX10_partsMost_36 ⟨Nat.le_of_ble_eq_true rfl, Nat.le_of_ble_eq_true rfl⟩ (fun r14 h15 => ?_)
              have h15 : (r14 = agW mand manr y25_7 (12 * pp.toInt).toNat (mans pp.toNatClampNeg).toInt.toNat) := h15
              have h15_0 := h15
              have L53 : ∀ (t53_0 : Int32) (ls : Array Slot), ((t53_0 = 1 ∧ (fun t => agW mand manr (nI t) (12 * pp.toInt).toNat (mans pp.toNatClampNeg).toInt.toNat) y25_7.toNatClampNeg = (mans pp.toNatClampNeg)) ∨ (t53_0 = 0 ∧ ¬ (fun t => agW mand manr (nI t) (12 * pp.toInt).toNat (mans pp.toNatClampNeg).toInt.toNat) y25_7.toNatClampNeg = (mans pp.toNatClampNeg))) → lv_has ls 9 [(0, .ref (b 39)), (1, .int pp), (2, .int y12_2), (3, .int y12_3), (4, .int y25_4), (5, .int y12_5), (6, .int y25_6), (7, .int y25_7)] → W p l e (headSpec wsX10_partsMost { frames := 2, cells := 0, slots := 0, locals := 45 }).room s m ([.ref (b 39), .int pp] : List Value).toArray below meth c s.heap [] 0 0 (MQ below (QR (fun r : Int32 => (r.toInt = dpF (fun t => agW mand manr (nI t) (12 * pp.toInt).toNat (mans pp.toNatClampNeg).toInt.toNat) (mans pp.toNatClampNeg) 1000))) ([.ref (b 39), .int pp] : List Value).toArray s 0 0 (fun _ => False)) (F0 m 53 ls [.int t53_0]) := by
                intro t53_0 ls i53_0 hl
                refine lv_istore (lv' := [(8, .int t53_0), (0, .ref (b 39)), (1, .int pp), (2, .int y12_2), (3, .int y12_3), (4, .int y25_4), (5, .int y12_5), (6, .int y25_6), (7, .int y25_7)]) hx hb dX10_partsMost_53 hl (by decide) rfl (fun ls hl => ?_)
                have L70 : ∀ (y70_4 : Int32) (ls : Array Slot), (0 ≤ (y70_4.toInt)) → ((y70_4.toInt) ≤ 4950) → ((y70_4.toInt) ≤ y12_4.toInt + (y25_7.toInt) + 1) → ((y70_4.toInt) = y12_4.toInt + mayF (fun t => agW mand manr (nI t) (12 * pp.toInt).toNat (mans pp.toNatClampNeg).toInt.toNat) (mans pp.toNatClampNeg) ((y25_7.toInt) + 1).toNat) → lv_has ls 9 [(0, .ref (b 39)), (1, .int pp), (2, .int y12_2), (3, .int y12_3), (4, .int y70_4), (5, .int y12_5), (6, .int y25_6), (7, .int y25_7), (8, .int t53_0)] → W p l e (headSpec wsX10_partsMost { frames := 2, cells := 0, slots := 0, locals := 45 }).room s m ([.ref (b 39), .int pp] : List Value).toArray below meth c s.heap [] 0 0 (MQ below (QR (fun r : Int32 => (r.toInt = dpF (fun t => agW mand manr (nI t) (12 * pp.toInt).toNat (mans pp.toNatClampNeg).toInt.toNat) (mans pp.toNatClampNeg) 1000))) ([.ref (b 39), .int pp] : List Value).toArray s 0 0 (fun _ => False)) (F0 m 70 ls []) := by
                  intro y70_4 ls i70_0 i70_1 i70_2 i70_3 hl
                  have L99 : ∀ (y99_6 : Int32) (ls : Array Slot), (-81 ≤ (y99_6.toInt)) → ((y99_6.toInt) ≤ 81) → (0 - (y25_7.toInt) - 1 ≤ (y99_6.toInt)) → ((y99_6.toInt) ≤ (y25_7.toInt) + 1) → ((y99_6.toInt) = unF (fun t => agW mand manr (nI t) (12 * pp.toInt).toNat (mans pp.toNatClampNeg).toInt.toNat) (mans pp.toNatClampNeg) y12_5 ((y25_7.toInt) + 1).toNat) → lv_has ls 9 [(0, .ref (b 39)), (1, .int pp), (2, .int y12_2), (3, .int y12_3), (4, .int y70_4), (5, .int y12_5), (6, .int y99_6), (7, .int y25_7)] → W p l e (headSpec wsX10_partsMost { frames := 2, cells := 0, slots := 0, locals := 45 }).room s m ([.ref (b 39), .int pp] : List Value).toArray below meth c s.heap [] 0 0 (MQ below (QR (fun r : Int32 => (r.toInt = dpF (fun t => agW mand manr (nI t) (12 * pp.toInt).toNat (mans pp.toNatClampNeg).toInt.toNat) (mans pp.toNatClampNeg) 1000))) ([.ref (b 39), .int pp] : List Value).toArray s 0 0 (fun _ => False)) (F0 m 99 ls []) := by
                    intro y99_6 ls i99_0 i99_1 i99_2 i99_3 i99_4 hl
                    obtain ⟨z16, ez16⟩ : ∃ y : Int32, y = y25_7 + 1 := ⟨_, rfl⟩
                    have iz16 : z16.toInt = y25_7.toInt + 1 := by rw [ez16]; exact addC rfl rfl (by omega) (by omega)
                    refine lv_iinc (v := z16) (lv' := [(7, .int z16), (0, .ref (b 39)), (1, .int pp), (2, .int y12_2), (3, .int y12_3), (4, .int y70_4), (5, .int y12_5), (6, .int y99_6)]) hx hb dX10_partsMost_99 hl (k := 7) rfl (by rw [ez16]; rfl) (by decide) rfl (fun ls hl => ?_)
                    refine lv_goto (tgt := 25) hx hb dX10_partsMost_102 (by decide) ?_
                    exact ih25 y70_4 y99_6 z16 _ (by omega) (by omega) (by omega) (by omega) (by omega) (by omega) (by omega) (by omega) (by omega) (by (first | exact i70_3 | (rw [show (0 : Int32).toInt.toNat = 0 from rfl]; show _ = _ + 0; omega) | exact cast70 i70_3 (by omega))) (by (first | exact cast99 i99_4 (by omega) | exact un_0 (by first | rfl | omega) (by first | rfl | omega))) (by omega) (lv_sub hl [1, 2, 3, 4, 5, 6, 7, 0] rfl)
                  refine lv_iload hx hb dX10_partsMost_70 (lv_at hl 6 rfl) ?_
                  refine lv_iload hx hb dX10_partsMost_72 (lv_at hl 8 rfl) ?_
                  refine lv_if_eq (tgt := 95) hx hb dX10_partsMost_74 (by decide) (fun c17 => ?_) (fun c17 => ?_)
                  · have dc17 : t53_0.toInt = 0 := eqC rfl (show (0 : Int32).toInt = 0 from rfl) c17
                    refine lv_iconst (v := 0) hx hb dX10_partsMost_95 (by decide) ?_
                    refine lv_iadd hx hb dX10_partsMost_96 ?_
                    have f18 : (y25_6 + 0).toInt = (y25_6.toInt) + (0) := addC rfl (show (0 : Int32).toInt = 0 from rfl) (by omega) (by omega)
                    refine lv_topi (fun x19 ex19 => ?_)
                    have ix19 : x19.toInt = (y25_6.toInt) + (0) := by rw [ex19]; exact f18
                    refine lv_istore (lv' := [(6, .int x19), (0, .ref (b 39)), (1, .int pp), (2, .int y12_2), (3, .int y12_3), (4, .int y70_4), (5, .int y12_5), (7, .int y25_7), (8, .int t53_0)]) hx hb dX10_partsMost_97 hl (by decide) rfl (fun ls hl => ?_)
                    exact L99 x19 _ (by omega) (by omega) (by omega) (by omega) (by (exact un_sG (o := y25_7) i25_10 i53_0 (by omega) (by first | exact Or.inl ⟨by assumption, Or.inl ⟨by assumption, by omega⟩⟩ | exact Or.inl ⟨by assumption, Or.inr ⟨by assumption, by omega⟩⟩ | exact Or.inr ⟨by assumption, by omega⟩) (by omega))) (lv_sub hl [1, 2, 3, 4, 5, 6, 0, 7] rfl)
                  · have dc17 : t53_0.toInt ≠ 0 := neC rfl (show (0 : Int32).toInt = 0 from rfl) c17
                    refine lv_iload hx hb dX10_partsMost_77 (lv_at hl 7 rfl) ?_
                    refine lv_iload hx hb dX10_partsMost_79 (lv_at hl 5 rfl) ?_
                    refine rdS (As := [.int y25_7, .int y12_5]) (rest := [.int y25_6]) ⟨hx, hb, hml, hown, hts⟩ (k_X10_isRight2 l dC dI cI cZ cQ y25_7 y12_5 (by omega) (by omega)) (va_cwS 2 hts gX10_partsMost_X10_isRight rfl rfl rfl (by decide +kernel) ⟨Nat.le_of_ble_eq_true rfl, Nat.le_of_ble_eq_true rfl⟩) hP hK hN [] rfl rfl hl.1 rfl (Nat.le_of_ble_eq_true rfl) dX10_partsMost_81 ⟨Nat.le_of_ble_eq_true rfl, Nat.le_of_ble_eq_true rfl⟩ (fun r20 h21 => ?_)
                    have h21 : ((((r20 = 1) ∧ (sayW y25_7 y12_5 = true)) ∨ ((r20 = 0) ∧ (sayW y25_7 y12_5 = false)))) := h21
                    rcases h21 with (⟨rfl, h21_a0⟩ | ⟨rfl, h21_a0⟩)
                    · refine lv_if_eq (tgt := 91) hx hb dX10_partsMost_84 (by decide) (fun c9 => absurd c9 (by decide)) (fun _ => ?_)
                      refine lv_iconst (v := 1) hx hb dX10_partsMost_87 (by decide) ?_
                      refine lv_goto (tgt := 96) hx hb dX10_partsMost_88 (by decide) ?_
                      refine lv_iadd hx hb dX10_partsMost_96 ?_
                      have f22 : (y25_6 + 1).toInt = (y25_6.toInt) + (1) := addC rfl (show (1 : Int32).toInt = 1 from rfl) (by omega) (by omega)
                      refine lv_topi (fun x23 ex23 => ?_)
                      have ix23 : x23.toInt = (y25_6.toInt) + (1) := by rw [ex23]; exact f22
                      refine lv_istore (lv' := [(6, .int x23), (0, .ref (b 39)), (1, .int pp), (2, .int y12_2), (3, .int y12_3), (4, .int y70_4), (5, .int y12_5), (7, .int y25_7), (8, .int t53_0)]) hx hb dX10_partsMost_97 hl (by decide) rfl (fun ls hl => ?_)
                      exact L99 x23 _ (by omega) (by omega) (by omega) (by omega) (by (exact un_sG (o := y25_7) i25_10 i53_0 (by omega) (by first | exact Or.inl ⟨by assumption, Or.inl ⟨by assumption, by omega⟩⟩ | exact Or.inl ⟨by assumption, Or.inr ⟨by assumption, by omega⟩⟩ | exact Or.inr ⟨by assumption, by omega⟩) (by omega))) (lv_sub hl [1, 2, 3, 4, 5, 6, 0, 7] rfl)
                    · refine lv_if_eq (tgt := 91) hx hb dX10_partsMost_84 (by decide) (fun _ => ?_) (fun c9 => absurd (by decide) c9)
                      refine lv_iconst (v := (-1)) hx hb dX10_partsMost_91 (by decide) ?_
                      refine lv_goto (tgt := 96) hx hb dX10_partsMost_92 (by decide) ?_
                      refine lv_iadd hx hb dX10_partsMost_96 ?_
                      refine lv_topi (fun x24 ex24 => ?_)
                      have ix24 : x24.toInt = (y25_6.toInt) + ((-1)) := by rw [ex24]; exact addC rfl (show ((-1) : Int32).toInt = (-1) from rfl) (by omega) (by omega)
                      refine lv_istore (lv' := [(6, .int x24), (0, .ref (b 39)), (1, .int pp), (2, .int y12_2), (3, .int y12_3), (4, .int y70_4), (5, .int y12_5), (7, .int y25_7), (8, .int t53_0)]) hx hb dX10_partsMost_97 hl (by decide) rfl (fun ls hl => ?_)
                      exact L99 x24 _ (by omega) (by omega) (by omega) (by omega) (by (exact un_sG (o := y25_7) i25_10 i53_0 (by omega) (by first | exact Or.inl ⟨by assumption, Or.inl ⟨by assumption, by omega⟩⟩ | exact Or.inl ⟨by assumption, Or.inr ⟨by assumption, by omega⟩⟩ | exact Or.inr ⟨by assumption, by omega⟩) (by omega))) (lv_sub hl [1, 2, 3, 4, 5, 6, 0, 7] rfl)
                refine lv_iload hx hb dX10_partsMost_55 (lv_at hl 5 rfl) ?_
                refine lv_iload hx hb dX10_partsMost_57 (lv_at hl 0 rfl) ?_
                refine lv_if_eq (tgt := 66) hx hb dX10_partsMost_59 (by decide) (fun c25 => ?_) (fun c25 => ?_)
                · have dc25 : t53_0.toInt = 0 := eqC rfl (show (0 : Int32).toInt = 0 from rfl) c25
                  refine lv_iconst (v := 0) hx hb dX10_partsMost_66 (by decide) ?_
                  refine lv_iadd hx hb dX10_partsMost_67 ?_
                  have f26 : (y25_4 + 0).toInt = (y25_4.toInt) + (0) := addC rfl (show (0 : Int32).toInt = 0 from rfl) (by omega) (by omega)
                  refine lv_topi (fun x27 ex27 => ?_)
                  have ix27 : x27.toInt = (y25_4.toInt) + (0) := by rw [ex27]; exact f26
                  refine lv_istore (lv' := [(4, .int x27), (8, .int t53_0), (0, .ref (b 39)), (1, .int pp), (2, .int y12_2), (3, .int y12_3), (5, .int y12_5), (6, .int y25_6), (7, .int y25_7)]) hx hb dX10_partsMost_68 hl (by decide) rfl (fun ls hl => ?_)
                  exact L70 x27 _ (by omega) (by omega) (by omega) (by (exact my_sF (o := y25_7) i25_9 i53_0 (by first | exact clC (x := y25_7) rfl | (rw [clC (x := y25_7) rfl]; omega)) (by first | exact Or.inl ⟨by assumption, by omega⟩ | exact Or.inr ⟨by assumption, by omega⟩) (by omega))) (lv_sub hl [2, 3, 4, 5, 0, 6, 7, 8, 1] rfl)
                · have dc25 : t53_0.toInt ≠ 0 := neC rfl (show (0 : Int32).toInt = 0 from rfl) c25
                  refine lv_iconst (v := 1) hx hb dX10_partsMost_62 (by decide) ?_
                  refine lv_goto (tgt := 67) hx hb dX10_partsMost_63 (by decide) ?_
                  refine lv_iadd hx hb dX10_partsMost_67 ?_
                  have f28 : (y25_4 + 1).toInt = (y25_4.toInt) + (1) := addC rfl (show (1 : Int32).toInt = 1 from rfl) (by omega) (by omega)
                  refine lv_topi (fun x29 ex29 => ?_)
                  have ix29 : x29.toInt = (y25_4.toInt) + (1) := by rw [ex29]; exact f28
                  refine lv_istore (lv' := [(4, .int x29), (8, .int t53_0), (0, .ref (b 39)), (1, .int pp), (2, .int y12_2), (3, .int y12_3), (5, .int y12_5), (6, .int y25_6), (7, .int y25_7)]) hx hb dX10_partsMost_68 hl (by decide) rfl (fun ls hl => ?_)
                  exact L70 x29 _ (by omega) (by omega) (by omega) (by (exact my_sF (o := y25_7) i25_9 i53_0 (by first | exact clC (x := y25_7) rfl | (rw [clC (x := y25_7) rfl]; omega)) (by first | exact Or.inl ⟨by assumption, by omega⟩ | exact Or.inr ⟨by assumption, by omega⟩) (by omega))) (lv_sub hl [2, 3, 4, 5, 0, 6, 7, 8, 1] rfl)
              refine lv_aload_n hx hb dX10_partsMost_39 rfl (lv_at hl 0 rfl) ?_
              refine va_get (D := (dC, dI)) (ci := 10) (v := .ref (b 35)) (C := RX10) (T := TX10) (N := 39) hx hb hts inX10 hown hK hP 0 rfl rfl 35 (by decide) lf80 (fun _ h9 => h9) rfl dX10_partsMost_40 ?_
              refine lv_iload_n hx hb dX10_partsMost_43 rfl (lv_at hl 1 rfl) ?_
              have b30 : vp_in pp 4 := inC rfl (by omega) (by omega)
              refine va_iald hx hb hK hP 22 0 rfl rfl b30 dX10_partsMost_44 ?_
              have g31 : 0 ≤ (mans pp.toNatClampNeg).toInt ∧ (mans pp.toNatClampNeg).toInt ≤ 12 := rg_at r_mans b30
              refine lv_icmp_ne (tgt := 52) hx hb dX10_partsMost_45 (by decide) (fun c32 => ?_) (fun c32 => ?_)
              · have dc32 : r14.toInt ≠ (mans pp.toNatClampNeg).toInt := neC rfl rfl c32
                refine lv_iconst (v := 0) hx hb dX10_partsMost_52 (by decide) ?_
                have kc33 : (0 : Int32).toInt = 0 := rfl
                exact L53 0 _ (by (first | exact Or.inl ⟨rfl, (gg_at (by assumption) (by omega)).trans (by assumption)⟩ | exact Or.inr ⟨rfl, fun q => absurd ((gg_at (by assumption) (by omega)).symm.trans q) (by assumption)⟩)) (lv_sub hl [0, 1, 2, 3, 4, 5, 6, 7] rfl)
              · have dc32 : r14.toInt = (mans pp.toNatClampNeg).toInt := eqC rfl rfl c32
                refine lv_iconst (v := 1) hx hb dX10_partsMost_48 (by decide) ?_
                refine lv_goto (tgt := 53) hx hb dX10_partsMost_49 (by decide) ?_
                have kc34 : (1 : Int32).toInt = 1 := rfl
                exact L53 1 _ (by (first | exact Or.inl ⟨rfl, (gg_at (by assumption) (by omega)).trans (by assumption)⟩ | exact Or.inr ⟨rfl, fun q => absurd ((gg_at (by assumption) (by omega)).symm.trans q) (by assumption)⟩)) (lv_sub hl [0, 1, 2, 3, 4, 5, 6, 7] rfl)
        have kc35 : (0 : Int32).toInt = 0 := rfl
        exact L25 _ y12_4 0 0 _ (by omega) (by omega) (by omega) (by omega) (by omega) (by omega) (by omega) (by omega) (by omega) (by (first | exact i70_3 | (rw [show (0 : Int32).toInt.toNat = 0 from rfl]; show _ = _ + 0; omega) | exact cast70 i70_3 (by omega))) (by (first | exact cast99 i99_4 (by omega) | exact un_0 (by first | rfl | omega) (by first | rfl | omega))) (Nat.lt_succ_self _) (lv_sub hl [2, 3, 4, 5, 6, 7, 1, 0] rfl)
  have kc36 : ((-1) : Int32).toInt = -1 := rfl
  have kc37 : (1000 : Int32).toInt = 1000 := rfl
  have kc38 : (0 : Int32).toInt = 0 := rfl
  have kc39 : (1 : Int32).toInt = 1 := rfl
  exact L12 _ (-1) 1000 0 1 _ (by omega) (by omega) (by omega) (by omega) (by omega) (by omega) (by omega) (by omega) (by (first | exact fd_y (d := y12_5) i12_8 (by omega) rfl i120_0 (by omega) (by omega) | exact fd_n (d := y12_5) i12_8 (by omega) i120_0 (by omega) (by omega) | (exfalso; omega) | exact fd_0 (by first | rfl | omega) (by first | rfl | omega) (by first | rfl | omega))) (by (first | exact ay_s i12_9 i25_9 (by omega) (by omega) (by omega) | exact ay_0 (by first | rfl | omega) (by first | rfl | omega))) (by omega) (Nat.lt_succ_self _) (lv_sub hl [4, 5, 3, 2, 1, 0] rfl)
set_option maxHeartbeats 4000000 in
set_option maxRecDepth 100000 in
theorem k_X10_pupil2 (l : Launch) (dC : Nat → ClassId) (dI : Nat → Nat → Nat) (cI cZ cQ : ClassId) (b : Nat → Nat) (mday : Int32) (mdoo : Int32) (mdA : Nat → Int32) (mdB : Nat → Int32) (mfar : Nat → Int32) (mmar : Nat → Int32) (mtel : Int32) (mgai : Int32) (mfal : Nat → Int32) (mtop : Nat → Int32) (mstr : Nat → Int32) (mgho : Nat → Int32) (mfai : Nat → Int32) (mpto : Nat → Int32) (mwal : Nat → Int32) (mahd : Nat → Int32) (mahf : Nat → Int32) (mcho : Nat → Int32) (mbes : Nat → Int32) (mbyt : Int32) (mtxt : Nat → Int32) (mpos : Int32) (mtka : Int32) (mtok : Int64) (mdig : Int32) (mnum : Int32) (mfau : Int32) (mrdm : Int32) (mrea : Nat → Int32) (mlin : Int32) (mlne : Nat → Int32) (mthg : Nat → Int32) (mord : Nat → Int32) (mbor : Nat → Int32) (mbsm : Int32) (mans : Nat → Int32) (mand : Nat → Int32) (manr : Nat → Int32) (mali : Nat → Int32) (pp : Int32) (wh : Int32) (r_mday : 0 ≤ mday.toInt ∧ mday.toInt ≤ 400) (r_mdoo : 0 ≤ mdoo.toInt ∧ mdoo.toInt ≤ 14) (r_mdA : rg 14 (0) (7) mdA) (r_mdB : rg 14 (0) (7) mdB) (r_mmar : rg 24 (0) (255) mmar) (r_mgai : 0 ≤ mgai.toInt ∧ mgai.toInt ≤ 100) (r_mfal : rg 11 (0) (30) mfal) (r_mtop : rg 48 (-1) (23) mtop) (r_mstr : rg 48 (0) (100) mstr) (r_mgho : rg 48 (-1) (23) mgho) (r_mfai : rg 48 (0) (100) mfai) (r_mahd : rg 240 (0) (100) mahd) (r_mahf : rg 240 (0) (100) mahf) (r_mcho : rg 5 (-1) (9) mcho) (r_mbyt : 0 ≤ mbyt.toInt ∧ mbyt.toInt ≤ 160) (r_mpos : 0 ≤ mpos.toInt ∧ mpos.toInt ≤ 160) (r_mrdm : 0 ≤ mrdm.toInt ∧ mrdm.toInt ≤ 10) (r_mlin : 0 ≤ mlin.toInt ∧ mlin.toInt ≤ 10) (r_mthg : rg 8 (0) (31) mthg) (r_mord : rg 8 (-1) (8) mord) (r_mans : rg 4 (0) (12) mans) : KR l yX10_pupil wsX10_pupil { frames := 3, cells := 0, slots := 0, locals := 73 } (dC, dI) (TY cI cZ cQ) (wMod cI cZ cQ b mday mdoo mdA mdB mfar mmar mtel mgai mfal mtop mstr mgho mfai mpto mwal mahd mahf mcho mbes mbyt mtxt mpos mtka mtok mdig mnum mfau mrdm mrea mlin mlne mthg mord mbor mbsm mans mand manr mali) [.ref (b 39), .int pp, .int wh] (fun r : Int32 => (spPup (fun t => agW mand manr (nI t) (12 * pp.toInt).toNat (mans pp.toNatClampNeg).toInt.toNat) (mans pp.toNatClampNeg) 1000 pp wh r)) := by
  refine Met.ofW (cc := cX10_pupil) (maxL := 8) (ret := (some .int)) (by decide) rfl ?_
  intro p e s m args below meth c s₁ B hml hv
  obtain ⟨rfl, hP, hK, hN⟩ := hv
  have hx := B.exec
  have hb := B.bytes
  have hr := B.returns
  have hts := atoms_spec (ws := wsX10_pupil) B.pre
  have hown : s.vm.findClass RX10 = some m.cls := findClass_of_methodNamed B.named
  have hlocks := B.notSynchronized
  have lf80 := hts (.fieldLink RX10 80 "PalaceOfRoomsModel" "answers" "[I") (List.mem_cons_of_mem _ (List.mem_append_left _ (List.mem_of_getElem? (i := 0) rfl)))
  have inX10 : ∀ w ∈ wsX100, w ∈ wsX10_pupil := fun w h => List.mem_cons_of_mem _ (List.mem_append_right _ h)
  have hl := lv_entry ([.ref (b 39), .int pp, .int wh]) (n := 8) (Nat.le_of_ble_eq_true rfl)
  rw [lg_entry_eq]
  generalize (lg_sl ([.ref (b 39), .int pp, .int wh]) ++ List.replicate (8 - (lg_sl ([.ref (b 39), .int pp, .int wh])).length) Slot.unset).toArray = ls at hl ⊢
  have hl : lv_has ls 8 [(0, .ref (b 39)), (1, .int pp), (2, .int wh)] := hl
  refine lv_iload_n hx hb dX10_pupil_0 rfl (lv_at hl 1 rfl) ?_
  refine rdS (As := [.int pp]) (rest := []) ⟨hx, hb, hml, hown, hts⟩ (k_X10_isPupil l dC dI cI cZ cQ pp) (va_cwS 1 hts gX10_pupil_X10_isPupil rfl rfl rfl (by decide +kernel) ⟨Nat.le_of_ble_eq_true rfl, Nat.le_of_ble_eq_true rfl⟩) hP hK hN [] rfl rfl hl.1 rfl (Nat.le_of_ble_eq_true rfl) dX10_pupil_1 ⟨Nat.le_of_ble_eq_true rfl, Nat.le_of_ble_eq_true rfl⟩ (fun r1 h2 => ?_)
  have h2 : ((((r1 = 1) ∧ (0 ≤ pp.toInt) ∧ (pp.toInt ≤ 3)) ∨ ((r1 = 0) ∧ (pp.toInt < 0 ∨ 3 < pp.toInt)))) := h2
  rcases h2 with (⟨rfl, h2_a0, h2_a1⟩ | ⟨rfl, h2_a0⟩)
  · refine lv_if_ne (tgt := 10) hx hb dX10_pupil_4 (by decide) (fun _ => ?_) (fun c9 => absurd c9 (by decide))
    refine lv_iload_n hx hb dX10_pupil_10 rfl (lv_at hl 2 rfl) ?_
    refine lv_iconst (v := 0) hx hb dX10_pupil_11 (by decide) ?_
    refine lv_iconst (v := 3) hx hb dX10_pupil_12 (by decide) ?_
    refine rdS (As := [.int wh, .int 0, .int 3]) (rest := []) ⟨hx, hb, hml, hown, hts⟩ (k_X10_in l dC dI cI cZ cQ wh (0 : Int32) (3 : Int32)) (va_cwS 3 hts gX10_pupil_X10_in rfl rfl rfl (by decide +kernel) ⟨Nat.le_of_ble_eq_true rfl, Nat.le_of_ble_eq_true rfl⟩) hP hK hN [] rfl rfl hl.1 rfl (Nat.le_of_ble_eq_true rfl) dX10_pupil_13 ⟨Nat.le_of_ble_eq_true rfl, Nat.le_of_ble_eq_true rfl⟩ (fun r3 h4 => ?_)
    have h4 : ((((r3 = 1) ∧ ((0) ≤ wh.toInt) ∧ (wh.toInt ≤ (3))) ∨ ((r3 = 0) ∧ (wh.toInt < (0) ∨ (3) < wh.toInt)))) := h4
    rcases h4 with (⟨rfl, h4_a0, h4_a1⟩ | ⟨rfl, h4_a0⟩)
    · refine lv_if_ne (tgt := 22) hx hb dX10_pupil_16 (by decide) (fun _ => ?_) (fun c9 => absurd c9 (by decide))
      refine lv_iconst (v := 0) hx hb dX10_pupil_22 (by decide) ?_
      refine lv_istore_n (lv' := [(3, .int 0), (0, .ref (b 39)), (1, .int pp), (2, .int wh)]) hx hb dX10_pupil_23 rfl hl (by decide) rfl (fun ls hl => ?_)
      refine lv_iconst (v := 0) hx hb dX10_pupil_24 (by decide) ?_
      refine lv_istore (lv' := [(4, .int 0), (3, .int 0), (0, .ref (b 39)), (1, .int pp), (2, .int wh)]) hx hb dX10_pupil_25 hl (by decide) rfl (fun ls hl => ?_)
      refine lv_iconst (v := (-1)) hx hb dX10_pupil_27 (by decide) ?_
      refine lv_istore (lv' := [(5, .int (-1)), (4, .int 0), (3, .int 0), (0, .ref (b 39)), (1, .int pp), (2, .int wh)]) hx hb dX10_pupil_28 hl (by decide) rfl (fun ls hl => ?_)
      refine lv_iconst (v := 0) hx hb dX10_pupil_30 (by decide) ?_
      refine lv_istore (lv' := [(6, .int 0), (5, .int (-1)), (4, .int 0), (3, .int 0), (0, .ref (b 39)), (1, .int pp), (2, .int wh)]) hx hb dX10_pupil_31 hl (by decide) rfl (fun ls hl => ?_)
      have L33 : ∀ (nn : Nat) (y33_3 : Int32) (y33_4 : Int32) (y33_5 : Int32) (y33_6 : Int32) (ls : Array Slot), (0 ≤ (y33_6.toInt)) → ((y33_6.toInt) ≤ 81) → (0 ≤ (y33_3.toInt)) → ((y33_3.toInt) ≤ 81) → ((y33_3.toInt) ≤ (y33_6.toInt)) → (0 ≤ (y33_4.toInt)) → ((y33_4.toInt) ≤ 80) → ((y33_3.toInt) = mayF (fun t => agW mand manr (nI t) (12 * pp.toInt).toNat (mans pp.toNatClampNeg).toInt.toNat) (mans pp.toNatClampNeg) ((y33_6.toInt)).toNat) → (ppI (fun t => agW mand manr (nI t) (12 * pp.toInt).toNat (mans pp.toNatClampNeg).toInt.toNat) (y33_6.toInt) (y33_4.toInt) y33_5) → (81 - (y33_6.toInt)).toNat < nn → lv_has ls 8 [(0, .ref (b 39)), (1, .int pp), (2, .int wh), (3, .int y33_3), (4, .int y33_4), (5, .int y33_5), (6, .int y33_6)] → W p l e (headSpec wsX10_pupil { frames := 3, cells := 0, slots := 0, locals := 73 }).room s m ([.ref (b 39), .int pp, .int wh] : List Value).toArray below meth c s.heap [] 0 0 (MQ below (QR (fun r : Int32 => (spPup (fun t => agW mand manr (nI t) (12 * pp.toInt).toNat (mans pp.toNatClampNeg).toInt.toNat) (mans pp.toNatClampNeg) 1000 pp wh r))) ([.ref (b 39), .int pp, .int wh] : List Value).toArray s 0 0 (fun _ => False)) (F0 m 33 ls []) := by
        intro nn
        induction nn with
        | zero =>
          intro y33_3 y33_4 y33_5 y33_6 ls i33_0 i33_1 i33_2 i33_3 i33_4 i33_5 i33_6 i33_7 i33_8 hm33
          exact absurd hm33 (Nat.not_lt_zero _)
        | succ nn ih33 =>
          intro y33_3 y33_4 y33_5 y33_6 ls i33_0 i33_1 i33_2 i33_3 i33_4 i33_5 i33_6 i33_7 i33_8 hm33 hl
          have wma := r_mans pp.toNatClampNeg (by rw [clC (x := pp) rfl]; omega)
          refine lv_iload hx hb dX10_pupil_33 (lv_at hl 6 rfl) ?_
          refine lv_bipush (v := 81) hx hb dX10_pupil_35 (by decide) ?_
          refine lv_icmp_ge (tgt := 106) hx hb dX10_pupil_37 (by decide) (fun c5 => ?_) (fun c5 => ?_)
          · have dc5 : 81 ≤ y33_6.toInt := leC (show (81 : Int32).toInt = 81 from rfl) rfl c5
            have hp := pp_e i33_8 (by omega)
            refine lv_iload_n hx hb dX10_pupil_106 rfl (lv_at hl 2 rfl) ?_
            refine lv_if_ne (tgt := 114) hx hb dX10_pupil_107 (by decide) (fun c6 => ?_) (fun c6 => ?_)
            · have dc6 : 1 ≤ wh.toInt := ka_lo (by omega) (neC rfl (show (0 : Int32).toInt = 0 from rfl) c6)
              refine lv_iload_n hx hb dX10_pupil_114 rfl (lv_at hl 2 rfl) ?_
              refine lv_iconst (v := 1) hx hb dX10_pupil_115 (by decide) ?_
              refine lv_icmp_ne (tgt := 143) hx hb dX10_pupil_116 (by decide) (fun c7 => ?_) (fun c7 => ?_)
              · have dc7 : 2 ≤ wh.toInt := ka_lo (by omega) (neC rfl (show (1 : Int32).toInt = 1 from rfl) c7)
                refine lv_iload_n hx hb dX10_pupil_143 rfl (lv_at hl 2 rfl) ?_
                refine lv_iconst (v := 2) hx hb dX10_pupil_144 (by decide) ?_
                refine lv_icmp_ne (tgt := 153) hx hb dX10_pupil_145 (by decide) (fun c8 => ?_) (fun c8 => ?_)
                · have dc8 : 3 ≤ wh.toInt := ka_lo (by omega) (neC rfl (show (2 : Int32).toInt = 2 from rfl) c8)
                  refine lv_aload_n hx hb dX10_pupil_153 rfl (lv_at hl 0 rfl) ?_
                  refine lv_iload_n hx hb dX10_pupil_154 rfl (lv_at hl 1 rfl) ?_
                  refine rdV (As := [.int pp]) (rest := []) ⟨hx, hb, hml, hown, hts⟩ (k_X10_partsMost2 l dC dI cI cZ cQ b mday mdoo mdA mdB mfar mmar mtel mgai mfal mtop mstr mgho mfai mpto mwal mahd mahf mcho mbes mbyt mtxt mpos mtka mtok mdig mnum mfau mrdm mrea mlin mlne mthg mord mbor mbsm mans mand manr mali pp r_mday r_mdoo r_mdA r_mdB r_mmar r_mgai r_mfal r_mtop r_mstr r_mgho r_mfai r_mahd r_mahf r_mcho r_mbyt r_mpos r_mrdm r_mlin r_mthg r_mord r_mans (by omega) (by omega)) (cwV 1 hts gX10_pupil_X10_partsMost rfl rfl rfl (by decide +kernel) ⟨Nat.le_of_ble_eq_true rfl, Nat.le_of_ble_eq_true rfl⟩) hP hK hN [0, 1, 2, 3, 4, 5, 6, 7, 8, 9, 10, 11, 12, 13, 14, 15, 16, 17, 18, 19, 20, 21, 22, 23, 24, 25] rfl 0 10 rfl rfl rfl hl.1 rfl (Nat.le_of_ble_eq_true rfl) dX10_pupil_155 ⟨Nat.le_of_ble_eq_true rfl, Nat.le_of_ble_eq_true rfl⟩ (fun r9 h10 => ?_)
                  have h10 : (r9.toInt = dpF (fun t => agW mand manr (nI t) (12 * pp.toInt).toNat (mans pp.toNatClampNeg).toInt.toNat) (mans pp.toNatClampNeg) 1000) := h10
                  have h10_0 := h10
                  exact W.iret (v := r9) hx hb hr (fun tq ht hW => ⟨r9, rfl, (show spPup (fun t => agW mand manr (nI t) (12 * pp.toInt).toNat (mans pp.toNatClampNeg).toInt.toNat) (mans pp.toNatClampNeg) 1000 pp wh r9 from by (first | exact Or.inl ⟨by omega, rfl⟩ | (refine Or.inr ⟨by omega, ?_⟩; first | exact Or.inl ⟨by omega, my_e i33_7 (by omega)⟩ | exact Or.inr (Or.inl ⟨by omega, by (unfold nmL; have := hp.1; omega)⟩) | exact Or.inr (Or.inr (Or.inl ⟨by omega, hp.2⟩)) | exact Or.inr (Or.inr (Or.inr (Or.inl ⟨by omega, by assumption⟩))) | exact Or.inr (Or.inr (Or.inr (Or.inr ⟨by omega, rfl⟩)))))), ht⟩) (fun q h => by cases h) dX10_pupil_158
                · have dc8 : wh.toInt = 2 := eqC rfl (show (2 : Int32).toInt = 2 from rfl) c8
                  refine lv_iload hx hb dX10_pupil_148 (lv_at hl 5 rfl) ?_
                  refine lv_goto (tgt := 158) hx hb dX10_pupil_150 (by decide) ?_
                  exact W.iret (v := y33_5) hx hb hr (fun tq ht hW => ⟨y33_5, rfl, (show spPup (fun t => agW mand manr (nI t) (12 * pp.toInt).toNat (mans pp.toNatClampNeg).toInt.toNat) (mans pp.toNatClampNeg) 1000 pp wh y33_5 from by (first | exact Or.inl ⟨by omega, rfl⟩ | (refine Or.inr ⟨by omega, ?_⟩; first | exact Or.inl ⟨by omega, my_e i33_7 (by omega)⟩ | exact Or.inr (Or.inl ⟨by omega, by (unfold nmL; have := hp.1; omega)⟩) | exact Or.inr (Or.inr (Or.inl ⟨by omega, hp.2⟩)) | exact Or.inr (Or.inr (Or.inr (Or.inl ⟨by omega, by assumption⟩))) | exact Or.inr (Or.inr (Or.inr (Or.inr ⟨by omega, rfl⟩)))))), ht⟩) (fun q h => by cases h) dX10_pupil_158
              · have dc7 : wh.toInt = 1 := eqC rfl (show (1 : Int32).toInt = 1 from rfl) c7
                refine lv_bipush (v := 100) hx hb dX10_pupil_119 (by decide) ?_
                refine lv_iload hx hb dX10_pupil_121 (lv_at hl 4 rfl) ?_
                refine lv_bipush (v := 9) hx hb dX10_pupil_123 (by decide) ?_
                refine lv_idiv hx hb dX10_pupil_125 (by decide) ?_
                have f11 : (y33_4 / 9).toInt = (y33_4.toInt) / (9) := divC rfl (show (9 : Int32).toInt = 9 from rfl) (by omega) (by omega)
                refine lv_iconst (v := 1) hx hb dX10_pupil_126 (by decide) ?_
                refine lv_iadd hx hb dX10_pupil_127 ?_
                have f12 : ((y33_4 / 9) + 1).toInt = ((y33_4.toInt) / (9)) + (1) := addC f11 (show (1 : Int32).toInt = 1 from rfl) (by omega) (by omega)
                refine lv_imul hx hb dX10_pupil_128 ?_
                have f13 : (100 * ((y33_4 / 9) + 1)).toInt = (100) * (((y33_4.toInt) / (9)) + (1)) := mulC (show (100 : Int32).toInt = 100 from rfl) f12 (by omega) (by omega)
                refine lv_bipush (v := 10) hx hb dX10_pupil_129 (by decide) ?_
                refine lv_iload hx hb dX10_pupil_131 (lv_at hl 4 rfl) ?_
                refine lv_bipush (v := 9) hx hb dX10_pupil_133 (by decide) ?_
                refine lv_irem hx hb dX10_pupil_135 (by decide) ?_
                have f14 : (y33_4 - y33_4 / 9 * 9).toInt = (y33_4.toInt) % (9) := remC rfl (show (9 : Int32).toInt = 9 from rfl) (by omega) (by omega)
                refine lv_iconst (v := 1) hx hb dX10_pupil_136 (by decide) ?_
                refine lv_iadd hx hb dX10_pupil_137 ?_
                have f15 : ((y33_4 - y33_4 / 9 * 9) + 1).toInt = ((y33_4.toInt) % (9)) + (1) := addC f14 (show (1 : Int32).toInt = 1 from rfl) (by omega) (by omega)
                refine lv_imul hx hb dX10_pupil_138 ?_
                have f16 : (10 * ((y33_4 - y33_4 / 9 * 9) + 1)).toInt = (10) * (((y33_4.toInt) % (9)) + (1)) := mulC (show (10 : Int32).toInt = 10 from rfl) f15 (by omega) (by omega)
                refine lv_iadd hx hb dX10_pupil_139 ?_
                have f17 : ((100 * ((y33_4 / 9) + 1)) + (10 * ((y33_4 - y33_4 / 9 * 9) + 1))).toInt = ((100) * (((y33_4.toInt) / (9)) + (1))) + ((10) * (((y33_4.toInt) % (9)) + (1))) := addC f13 f16 (by omega) (by omega)
                refine lv_goto (tgt := 158) hx hb dX10_pupil_140 (by decide) ?_
                exact W.iret (v := (100 * ((y33_4 / 9) + 1)) + (10 * ((y33_4 - y33_4 / 9 * 9) + 1))) hx hb hr (fun tq ht hW => ⟨(100 * ((y33_4 / 9) + 1)) + (10 * ((y33_4 - y33_4 / 9 * 9) + 1)), rfl, (show spPup (fun t => agW mand manr (nI t) (12 * pp.toInt).toNat (mans pp.toNatClampNeg).toInt.toNat) (mans pp.toNatClampNeg) 1000 pp wh ((100 * ((y33_4 / 9) + 1)) + (10 * ((y33_4 - y33_4 / 9 * 9) + 1))) from by (try rw [show ((100 * ((y33_4 / 9) + 1)) + (10 * ((y33_4 - y33_4 / 9 * 9) + 1))).toInt = ((100) * (((y33_4.toInt) / (9)) + (1))) + ((10) * (((y33_4.toInt) % (9)) + (1))) from f17]); (first | exact Or.inl ⟨by omega, rfl⟩ | (refine Or.inr ⟨by omega, ?_⟩; first | exact Or.inl ⟨by omega, my_e i33_7 (by omega)⟩ | exact Or.inr (Or.inl ⟨by omega, by (unfold nmL; have := hp.1; omega)⟩) | exact Or.inr (Or.inr (Or.inl ⟨by omega, hp.2⟩)) | exact Or.inr (Or.inr (Or.inr (Or.inl ⟨by omega, by assumption⟩))) | exact Or.inr (Or.inr (Or.inr (Or.inr ⟨by omega, rfl⟩)))))), ht⟩) (fun q h => by cases h) dX10_pupil_158
            · have dc6 : wh.toInt = 0 := eqC rfl (show (0 : Int32).toInt = 0 from rfl) c6
              refine lv_iload_n hx hb dX10_pupil_110 rfl (lv_at hl 3 rfl) ?_
              refine lv_goto (tgt := 158) hx hb dX10_pupil_111 (by decide) ?_
              exact W.iret (v := y33_3) hx hb hr (fun tq ht hW => ⟨y33_3, rfl, (show spPup (fun t => agW mand manr (nI t) (12 * pp.toInt).toNat (mans pp.toNatClampNeg).toInt.toNat) (mans pp.toNatClampNeg) 1000 pp wh y33_3 from by (first | exact Or.inl ⟨by omega, rfl⟩ | (refine Or.inr ⟨by omega, ?_⟩; first | exact Or.inl ⟨by omega, my_e i33_7 (by omega)⟩ | exact Or.inr (Or.inl ⟨by omega, by (unfold nmL; have := hp.1; omega)⟩) | exact Or.inr (Or.inr (Or.inl ⟨by omega, hp.2⟩)) | exact Or.inr (Or.inr (Or.inr (Or.inl ⟨by omega, by assumption⟩))) | exact Or.inr (Or.inr (Or.inr (Or.inr ⟨by omega, rfl⟩)))))), ht⟩) (fun q h => by cases h) dX10_pupil_158
          · have dc5 : y33_6.toInt < 81 := nleC (show (81 : Int32).toInt = 81 from rfl) rfl c5
            refine lv_aload_n hx hb dX10_pupil_40 rfl (lv_at hl 0 rfl) ?_
            refine lv_iload_n hx hb dX10_pupil_41 rfl (lv_at hl 1 rfl) ?_
            refine lv_iload hx hb dX10_pupil_42 (lv_at hl 6 rfl) ?_
            refine rdV (As := [.int pp, .int y33_6]) (rest := []) ⟨hx, hb, hml, hown, hts⟩ (k_X10_agrees2 l dC dI cI cZ cQ b mday mdoo mdA mdB mfar mmar mtel mgai mfal mtop mstr mgho mfai mpto mwal mahd mahf mcho mbes mbyt mtxt mpos mtka mtok mdig mnum mfau mrdm mrea mlin mlne mthg mord mbor mbsm mans mand manr mali pp y33_6 r_mday r_mdoo r_mdA r_mdB r_mmar r_mgai r_mfal r_mtop r_mstr r_mgho r_mfai r_mahd r_mahf r_mcho r_mbyt r_mpos r_mrdm r_mlin r_mthg r_mord r_mans (by omega) (by omega) (by omega) (by omega)) (cwV 2 hts gX10_pupil_X10_agrees rfl rfl rfl (by decide +kernel) ⟨Nat.le_of_ble_eq_true rfl, Nat.le_of_ble_eq_true rfl⟩) hP hK hN [0, 1, 2, 3, 4, 5, 6, 7, 8, 9, 10, 11, 12, 13, 14, 15, 16, 17, 18, 19, 20, 21, 22, 23, 24, 25] rfl 0 10 rfl rfl rfl hl.1 rfl (Nat.le_of_ble_eq_true rfl) dX10_pupil_44 ⟨Nat.le_of_ble_eq_true rfl, Nat.le_of_ble_eq_true rfl⟩ (fun r18 h19 => ?_)
            have h19 : (r18 = agW mand manr y33_6 (12 * pp.toInt).toNat (mans pp.toNatClampNeg).toInt.toNat) := h19
            have h19_0 := h19
            refine lv_istore (lv' := [(7, .int r18), (0, .ref (b 39)), (1, .int pp), (2, .int wh), (3, .int y33_3), (4, .int y33_4), (5, .int y33_5), (6, .int y33_6)]) hx hb dX10_pupil_47 hl (by decide) rfl (fun ls hl => ?_)
            have L68 : ∀ (y68_3 : Int32) (ls : Array Slot), (0 ≤ (y68_3.toInt)) → ((y68_3.toInt) ≤ 81) → ((y68_3.toInt) ≤ (y33_6.toInt) + 1) → ((y68_3.toInt) = mayF (fun t => agW mand manr (nI t) (12 * pp.toInt).toNat (mans pp.toNatClampNeg).toInt.toNat) (mans pp.toNatClampNeg) ((y33_6.toInt) + 1).toNat) → lv_has ls 8 [(0, .ref (b 39)), (1, .int pp), (2, .int wh), (3, .int y68_3), (4, .int y33_4), (5, .int y33_5), (6, .int y33_6), (7, .int r18)] → W p l e (headSpec wsX10_pupil { frames := 3, cells := 0, slots := 0, locals := 73 }).room s m ([.ref (b 39), .int pp, .int wh] : List Value).toArray below meth c s.heap [] 0 0 (MQ below (QR (fun r : Int32 => (spPup (fun t => agW mand manr (nI t) (12 * pp.toInt).toNat (mans pp.toNatClampNeg).toInt.toNat) (mans pp.toNatClampNeg) 1000 pp wh r))) ([.ref (b 39), .int pp, .int wh] : List Value).toArray s 0 0 (fun _ => False)) (F0 m 68 ls []) := by
              intro y68_3 ls i68_0 i68_1 i68_2 i68_3 hl
              refine lv_iload hx hb dX10_pupil_68 (lv_at hl 7 rfl) ?_
              refine lv_iload hx hb dX10_pupil_70 (lv_at hl 5 rfl) ?_
              refine lv_icmp_le (tgt := 80) hx hb dX10_pupil_72 (by decide) (fun c20 => ?_) (fun c20 => ?_)
              · have dc20 : r18.toInt ≤ y33_5.toInt := leC rfl rfl c20
                refine lv_iload hx hb dX10_pupil_80 (lv_at hl 4 rfl) ?_
                refine lv_istore (lv' := [(4, .int y33_4), (0, .ref (b 39)), (1, .int pp), (2, .int wh), (3, .int y68_3), (5, .int y33_5), (6, .int y33_6), (7, .int r18)]) hx hb dX10_pupil_82 hl (by decide) rfl (fun ls hl => ?_)
                refine lv_iload hx hb dX10_pupil_84 (lv_at hl 7 rfl) ?_
                refine lv_iload hx hb dX10_pupil_86 (lv_at hl 5 rfl) ?_
                refine lv_icmp_le (tgt := 96) hx hb dX10_pupil_88 (by decide) (fun c21 => ?_) (fun c21 => ?_)
                · have dc21 : r18.toInt ≤ y33_5.toInt := leC rfl rfl c21
                  refine lv_iload hx hb dX10_pupil_96 (lv_at hl 5 rfl) ?_
                  refine lv_istore (lv' := [(5, .int y33_5), (4, .int y33_4), (0, .ref (b 39)), (1, .int pp), (2, .int wh), (3, .int y68_3), (6, .int y33_6), (7, .int r18)]) hx hb dX10_pupil_98 hl (by decide) rfl (fun ls hl => ?_)
                  obtain ⟨z22, ez22⟩ : ∃ y : Int32, y = y33_6 + 1 := ⟨_, rfl⟩
                  have iz22 : z22.toInt = y33_6.toInt + 1 := by rw [ez22]; exact addC rfl rfl (by omega) (by omega)
                  refine lv_iinc (v := z22) (lv' := [(6, .int z22), (5, .int y33_5), (4, .int y33_4), (0, .ref (b 39)), (1, .int pp), (2, .int wh), (3, .int y68_3), (7, .int r18)]) hx hb dX10_pupil_100 hl (k := 6) rfl (by rw [ez22]; rfl) (by decide) rfl (fun ls hl => ?_)
                  refine lv_goto (tgt := 33) hx hb dX10_pupil_103 (by decide) ?_
                  exact ih33 y68_3 y33_4 y33_5 z22 _ (by omega) (by omega) (by omega) (by omega) (by omega) (by omega) (by omega) (by (first | exact cast0 i68_3 (by omega) | exact my_0 (by first | rfl | omega) (by first | rfl | omega))) (by (first | exact pp_y i33_8 (gg_at (by assumption) (by omega)) (by omega) (by omega) (by omega) | exact pp_n (y := y33_6) i33_8 (gg_at (by assumption) (by omega)) (by omega) (rn_of (by assumption) (by omega)) (by omega) (by omega) | (exfalso; omega) | exact pp_0 (by first | rfl | omega) (by first | rfl | omega) rfl)) (by omega) (lv_sub hl [3, 4, 5, 6, 2, 1, 0] rfl)
                · have dc21 : y33_5.toInt < r18.toInt := nleC rfl rfl c21
                  refine lv_iload hx hb dX10_pupil_91 (lv_at hl 7 rfl) ?_
                  refine lv_goto (tgt := 98) hx hb dX10_pupil_93 (by decide) ?_
                  refine lv_istore (lv' := [(5, .int r18), (4, .int y33_4), (0, .ref (b 39)), (1, .int pp), (2, .int wh), (3, .int y68_3), (6, .int y33_6), (7, .int r18)]) hx hb dX10_pupil_98 hl (by decide) rfl (fun ls hl => ?_)
                  obtain ⟨z23, ez23⟩ : ∃ y : Int32, y = y33_6 + 1 := ⟨_, rfl⟩
                  have iz23 : z23.toInt = y33_6.toInt + 1 := by rw [ez23]; exact addC rfl rfl (by omega) (by omega)
                  refine lv_iinc (v := z23) (lv' := [(6, .int z23), (5, .int r18), (4, .int y33_4), (0, .ref (b 39)), (1, .int pp), (2, .int wh), (3, .int y68_3), (7, .int r18)]) hx hb dX10_pupil_100 hl (k := 6) rfl (by rw [ez23]; rfl) (by decide) rfl (fun ls hl => ?_)
                  refine lv_goto (tgt := 33) hx hb dX10_pupil_103 (by decide) ?_
                  exact ih33 y68_3 y33_4 r18 z23 _ (by omega) (by omega) (by omega) (by omega) (by omega) (by omega) (by omega) (by (first | exact cast0 i68_3 (by omega) | exact my_0 (by first | rfl | omega) (by first | rfl | omega))) (by (first | exact pp_y i33_8 (gg_at (by assumption) (by omega)) (by omega) (by omega) (by omega) | exact pp_n (y := y33_6) i33_8 (gg_at (by assumption) (by omega)) (by omega) (rn_of (by assumption) (by omega)) (by omega) (by omega) | (exfalso; omega) | exact pp_0 (by first | rfl | omega) (by first | rfl | omega) rfl)) (by omega) (lv_sub hl [3, 4, 5, 6, 2, 1, 0] rfl)
              · have dc20 : y33_5.toInt < r18.toInt := nleC rfl rfl c20
                refine lv_iload hx hb dX10_pupil_75 (lv_at hl 6 rfl) ?_
                refine lv_goto (tgt := 82) hx hb dX10_pupil_77 (by decide) ?_
                refine lv_istore (lv' := [(4, .int y33_6), (0, .ref (b 39)), (1, .int pp), (2, .int wh), (3, .int y68_3), (5, .int y33_5), (6, .int y33_6), (7, .int r18)]) hx hb dX10_pupil_82 hl (by decide) rfl (fun ls hl => ?_)
                refine lv_iload hx hb dX10_pupil_84 (lv_at hl 7 rfl) ?_
                refine lv_iload hx hb dX10_pupil_86 (lv_at hl 5 rfl) ?_
                refine lv_icmp_le (tgt := 96) hx hb dX10_pupil_88 (by decide) (fun c24 => ?_) (fun c24 => ?_)
                · have dc24 : r18.toInt ≤ y33_5.toInt := leC rfl rfl c24
                  refine lv_iload hx hb dX10_pupil_96 (lv_at hl 5 rfl) ?_
                  refine lv_istore (lv' := [(5, .int y33_5), (4, .int y33_6), (0, .ref (b 39)), (1, .int pp), (2, .int wh), (3, .int y68_3), (6, .int y33_6), (7, .int r18)]) hx hb dX10_pupil_98 hl (by decide) rfl (fun ls hl => ?_)
                  obtain ⟨z25, ez25⟩ : ∃ y : Int32, y = y33_6 + 1 := ⟨_, rfl⟩
                  have iz25 : z25.toInt = y33_6.toInt + 1 := by rw [ez25]; exact addC rfl rfl (by omega) (by omega)
                  refine lv_iinc (v := z25) (lv' := [(6, .int z25), (5, .int y33_5), (4, .int y33_6), (0, .ref (b 39)), (1, .int pp), (2, .int wh), (3, .int y68_3), (7, .int r18)]) hx hb dX10_pupil_100 hl (k := 6) rfl (by rw [ez25]; rfl) (by decide) rfl (fun ls hl => ?_)
                  refine lv_goto (tgt := 33) hx hb dX10_pupil_103 (by decide) ?_
                  exact ih33 y68_3 y33_6 y33_5 z25 _ (by omega) (by omega) (by omega) (by omega) (by omega) (by omega) (by omega) (by (first | exact cast0 i68_3 (by omega) | exact my_0 (by first | rfl | omega) (by first | rfl | omega))) (by (first | exact pp_y i33_8 (gg_at (by assumption) (by omega)) (by omega) (by omega) (by omega) | exact pp_n (y := y33_6) i33_8 (gg_at (by assumption) (by omega)) (by omega) (rn_of (by assumption) (by omega)) (by omega) (by omega) | (exfalso; omega) | exact pp_0 (by first | rfl | omega) (by first | rfl | omega) rfl)) (by omega) (lv_sub hl [3, 4, 5, 6, 2, 1, 0] rfl)
                · have dc24 : y33_5.toInt < r18.toInt := nleC rfl rfl c24
                  refine lv_iload hx hb dX10_pupil_91 (lv_at hl 7 rfl) ?_
                  refine lv_goto (tgt := 98) hx hb dX10_pupil_93 (by decide) ?_
                  refine lv_istore (lv' := [(5, .int r18), (4, .int y33_6), (0, .ref (b 39)), (1, .int pp), (2, .int wh), (3, .int y68_3), (6, .int y33_6), (7, .int r18)]) hx hb dX10_pupil_98 hl (by decide) rfl (fun ls hl => ?_)
                  obtain ⟨z26, ez26⟩ : ∃ y : Int32, y = y33_6 + 1 := ⟨_, rfl⟩
                  have iz26 : z26.toInt = y33_6.toInt + 1 := by rw [ez26]; exact addC rfl rfl (by omega) (by omega)
                  refine lv_iinc (v := z26) (lv' := [(6, .int z26), (5, .int r18), (4, .int y33_6), (0, .ref (b 39)), (1, .int pp), (2, .int wh), (3, .int y68_3), (7, .int r18)]) hx hb dX10_pupil_100 hl (k := 6) rfl (by rw [ez26]; rfl) (by decide) rfl (fun ls hl => ?_)
                  refine lv_goto (tgt := 33) hx hb dX10_pupil_103 (by decide) ?_
                  exact ih33 y68_3 y33_6 r18 z26 _ (by omega) (by omega) (by omega) (by omega) (by omega) (by omega) (by omega) (by (first | exact cast0 i68_3 (by omega) | exact my_0 (by first | rfl | omega) (by first | rfl | omega))) (by (first | exact pp_y i33_8 (gg_at (by assumption) (by omega)) (by omega) (by omega) (by omega) | exact pp_n (y := y33_6) i33_8 (gg_at (by assumption) (by omega)) (by omega) (rn_of (by assumption) (by omega)) (by omega) (by omega) | (exfalso; omega) | exact pp_0 (by first | rfl | omega) (by first | rfl | omega) rfl)) (by omega) (lv_sub hl [3, 4, 5, 6, 2, 1, 0] rfl)
            refine lv_iload_n hx hb dX10_pupil_49 rfl (lv_at hl 4 rfl) ?_
            refine lv_iload hx hb dX10_pupil_50 (lv_at hl 0 rfl) ?_
            refine lv_aload_n hx hb dX10_pupil_52 rfl (lv_at hl 1 rfl) ?_
            refine va_get (D := (dC, dI)) (ci := 10) (v := .ref (b 35)) (C := RX10) (T := TX10) (N := 39) hx hb hts inX10 hown hK hP 0 rfl rfl 35 (by decide) lf80 (fun _ h9 => h9) rfl dX10_pupil_53 ?_
            refine lv_iload_n hx hb dX10_pupil_56 rfl (lv_at hl 2 rfl) ?_
            have b27 : vp_in pp 4 := inC rfl (by omega) (by omega)
            refine va_iald hx hb hK hP 22 0 rfl rfl b27 dX10_pupil_57 ?_
            have g28 : 0 ≤ (mans pp.toNatClampNeg).toInt ∧ (mans pp.toNatClampNeg).toInt ≤ 12 := rg_at r_mans b27
            refine lv_icmp_ne (tgt := 65) hx hb dX10_pupil_58 (by decide) (fun c29 => ?_) (fun c29 => ?_)
            · have dc29 : r18.toInt ≠ (mans pp.toNatClampNeg).toInt := neC rfl rfl c29
              refine lv_iconst (v := 0) hx hb dX10_pupil_65 (by decide) ?_
              refine lv_iadd hx hb dX10_pupil_66 ?_
              have f30 : (y33_3 + 0).toInt = (y33_3.toInt) + (0) := addC rfl (show (0 : Int32).toInt = 0 from rfl) (by omega) (by omega)
              refine lv_topi (fun x31 ex31 => ?_)
              have ix31 : x31.toInt = (y33_3.toInt) + (0) := by rw [ex31]; exact f30
              refine lv_istore_n (lv' := [(3, .int x31), (7, .int r18), (0, .ref (b 39)), (1, .int pp), (2, .int wh), (4, .int y33_4), (5, .int y33_5), (6, .int y33_6)]) hx hb dX10_pupil_67 rfl hl (by decide) rfl (fun ls hl => ?_)
              exact L68 x31 _ (by omega) (by omega) (by omega) (by (exact my_sG (o := y33_6) i33_7 (gg_at (by assumption) (by omega)) (by first | exact clC (x := y33_6) rfl | (rw [clC (x := y33_6) rfl]; omega)) (by first | exact Or.inl ⟨by assumption, by omega⟩ | exact Or.inr ⟨by assumption, by omega⟩) (by omega))) (lv_sub hl [2, 3, 4, 0, 5, 6, 7, 1] rfl)
            · have dc29 : r18.toInt = (mans pp.toNatClampNeg).toInt := eqC rfl rfl c29
              refine lv_iconst (v := 1) hx hb dX10_pupil_61 (by decide) ?_
              refine lv_goto (tgt := 66) hx hb dX10_pupil_62 (by decide) ?_
              refine lv_iadd hx hb dX10_pupil_66 ?_
              have f32 : (y33_3 + 1).toInt = (y33_3.toInt) + (1) := addC rfl (show (1 : Int32).toInt = 1 from rfl) (by omega) (by omega)
              refine lv_topi (fun x33 ex33 => ?_)
              have ix33 : x33.toInt = (y33_3.toInt) + (1) := by rw [ex33]; exact f32
              refine lv_istore_n (lv' := [(3, .int x33), (7, .int r18), (0, .ref (b 39)), (1, .int pp), (2, .int wh), (4, .int y33_4), (5, .int y33_5), (6, .int y33_6)]) hx hb dX10_pupil_67 rfl hl (by decide) rfl (fun ls hl => ?_)
              exact L68 x33 _ (by omega) (by omega) (by omega) (by (exact my_sG (o := y33_6) i33_7 (gg_at (by assumption) (by omega)) (by first | exact clC (x := y33_6) rfl | (rw [clC (x := y33_6) rfl]; omega)) (by first | exact Or.inl ⟨by assumption, by omega⟩ | exact Or.inr ⟨by assumption, by omega⟩) (by omega))) (lv_sub hl [2, 3, 4, 0, 5, 6, 7, 1] rfl)
      have kc34 : (0 : Int32).toInt = 0 := rfl
      have kc35 : ((-1) : Int32).toInt = -1 := rfl
      exact L33 _ 0 0 (-1) 0 _ (by omega) (by omega) (by omega) (by omega) (by omega) (by omega) (by omega) (by (first | exact cast0 i68_3 (by omega) | exact my_0 (by first | rfl | omega) (by first | rfl | omega))) (by (first | exact pp_y i33_8 (gg_at (by assumption) (by omega)) (by omega) (by omega) (by omega) | exact pp_n (y := y33_6) i33_8 (gg_at (by assumption) (by omega)) (by omega) (rn_of (by assumption) (by omega)) (by omega) (by omega) | (exfalso; omega) | exact pp_0 (by first | rfl | omega) (by first | rfl | omega) rfl)) (Nat.lt_succ_self _) (lv_sub hl [4, 5, 6, 3, 2, 1, 0] rfl)
    · refine lv_if_ne (tgt := 22) hx hb dX10_pupil_16 (by decide) (fun c9 => absurd (by decide) c9) (fun _ => ?_)
      refine lv_bipush (v := (-3)) hx hb dX10_pupil_19 (by decide) ?_
      exact W.iret (v := (-3)) hx hb hr (fun tq ht hW => ⟨(-3), rfl, (show spPup (fun t => agW mand manr (nI t) (12 * pp.toInt).toNat (mans pp.toNatClampNeg).toInt.toNat) (mans pp.toNatClampNeg) 1000 pp wh ((-3) : Int32) from by (try rw [show ((-3) : Int32).toInt = (-3) from (show ((-3) : Int32).toInt = (-3) from rfl)]); (first | exact Or.inl ⟨by omega, rfl⟩ | (refine Or.inr ⟨by omega, ?_⟩; first | exact Or.inl ⟨by omega, my_e i33_7 (by omega)⟩ | exact Or.inr (Or.inl ⟨by omega, by (unfold nmL; have := hp.1; omega)⟩) | exact Or.inr (Or.inr (Or.inl ⟨by omega, hp.2⟩)) | exact Or.inr (Or.inr (Or.inr (Or.inl ⟨by omega, by assumption⟩))) | exact Or.inr (Or.inr (Or.inr (Or.inr ⟨by omega, rfl⟩)))))), ht⟩) (fun q h => by cases h) dX10_pupil_21
  · refine lv_if_ne (tgt := 10) hx hb dX10_pupil_4 (by decide) (fun c9 => absurd (by decide) c9) (fun _ => ?_)
    refine lv_bipush (v := (-2)) hx hb dX10_pupil_7 (by decide) ?_
    exact W.iret (v := (-2)) hx hb hr (fun tq ht hW => ⟨(-2), rfl, (show spPup (fun t => agW mand manr (nI t) (12 * pp.toInt).toNat (mans pp.toNatClampNeg).toInt.toNat) (mans pp.toNatClampNeg) 1000 pp wh ((-2) : Int32) from by (try rw [show ((-2) : Int32).toInt = (-2) from (show ((-2) : Int32).toInt = (-2) from rfl)]); (first | exact Or.inl ⟨by omega, rfl⟩ | (refine Or.inr ⟨by omega, ?_⟩; first | exact Or.inl ⟨by omega, my_e i33_7 (by omega)⟩ | exact Or.inr (Or.inl ⟨by omega, by (unfold nmL; have := hp.1; omega)⟩) | exact Or.inr (Or.inr (Or.inl ⟨by omega, hp.2⟩)) | exact Or.inr (Or.inr (Or.inr (Or.inl ⟨by omega, by assumption⟩))) | exact Or.inr (Or.inr (Or.inr (Or.inr ⟨by omega, rfl⟩)))))), ht⟩) (fun q h => by cases h) dX10_pupil_9
end
section
-- ===== ENOUGH =====
def cuW (m : Int32) : Int32 := if m = -1 then 6 else (if 6 < m then 6 else m)
def enS (D : Nat → Int) (Mm : Nat → Int32) (C : Int) : Nat → Int32 × Int32
  | 0 => (0, 0)
  | s + 1 => if (enS D Mm C s).1.toInt < C ∧ D (s % 8) = ((s / 8 : Nat) : Int) then ((enS D Mm C s).1 + Mm (s % 8), (enS D Mm C s).2 + 1) else enS D Mm C s
theorem en_0 {D : Nat → Int} {Mm : Nat → Int32} {C : Int} {h r : Int32} {s : Nat} (h0 : h = 0) (r0 : r = 0) (hs : s = 0) : (h, r) = enS D Mm C s := by subst hs; subst h0; subst r0; rfl
theorem en_y {D : Nat → Int} {Mm : Nat → Int32} {C : Int} {h r h' r' f y : Int32} {s s' : Nat} (q : (h, r) = enS D Mm C s) (hs : (s : Int) = 8 * f.toInt + y.toInt) (hf : 0 ≤ f.toInt) (hy : 0 ≤ y.toInt) (hy7 : y.toInt ≤ 7) (c : h.toInt < C) (d : D y.toInt.toNat = f.toInt) (eh : h' = h + Mm y.toInt.toNat) (er : r' = r + 1) (e : s' = s + 1) : (h', r') = enS D Mm C s' := by
  subst e
  show _ = if (enS D Mm C s).1.toInt < C ∧ D (s % 8) = ((s / 8 : Nat) : Int) then ((enS D Mm C s).1 + Mm (s % 8), (enS D Mm C s).2 + 1) else enS D Mm C s
  rw [← q, show s % 8 = y.toInt.toNat by omega, if_pos ⟨c, by rw [d]; omega⟩, eh, er]
theorem en_n {D : Nat → Int} {Mm : Nat → Int32} {C : Int} {h r f y : Int32} {s s' : Nat} (q : (h, r) = enS D Mm C s) (hs : (s : Int) = 8 * f.toInt + y.toInt) (hf : 0 ≤ f.toInt) (hy : 0 ≤ y.toInt) (hy7 : y.toInt ≤ 7) (c : C ≤ h.toInt ∨ D y.toInt.toNat ≠ f.toInt) (e : s' = s + 1) : (h, r) = enS D Mm C s' := by
  subst e
  show _ = if (enS D Mm C s).1.toInt < C ∧ D (s % 8) = ((s / 8 : Nat) : Int) then ((enS D Mm C s).1 + Mm (s % 8), (enS D Mm C s).2 + 1) else enS D Mm C s
  rw [← q, show s % 8 = y.toInt.toNat by omega, if_neg ?_]
  intro z
  rcases c with c | c
  · have := z.1; have : h.toInt < C := this; omega
  · exact c (z.2.trans (by omega))
theorem en_c {D : Nat → Int} {Mm : Nat → Int32} {C : Int} {h r : Int32} {s s' : Nat} (q : (h, r) = enS D Mm C s) (e : s' = s) : (h, r) = enS D Mm C s' := by subst e; exact q
theorem en_stay {D : Nat → Int} {Mm : Nat → Int32} {C : Int} {h r : Int32} {s : Nat} (q : (h, r) = enS D Mm C s) (c : C ≤ h.toInt) : ∀ k : Nat, (h, r) = enS D Mm C (s + k)
  | 0 => q
  | k + 1 => by
    have i := en_stay q c k
    show _ = if (enS D Mm C (s + k)).1.toInt < C ∧ D ((s + k) % 8) = (((s + k) / 8 : Nat) : Int) then ((enS D Mm C (s + k)).1 + Mm ((s + k) % 8), (enS D Mm C (s + k)).2 + 1) else enS D Mm C (s + k)
    rw [← i, if_neg (fun z => by have : h.toInt < C := z.1; omega)]
theorem en_eq {D D2 : Nat → Int} {Mm M2 : Nat → Int32} {C : Int} (h1 : ∀ j, j < 8 → D j = D2 j) (h2 : ∀ j, j < 8 → Mm j = M2 j) : ∀ s, enS D Mm C s = enS D2 M2 C s
  | 0 => rfl
  | s + 1 => by
    show (if (enS D Mm C s).1.toInt < C ∧ D (s % 8) = ((s / 8 : Nat) : Int) then ((enS D Mm C s).1 + Mm (s % 8), (enS D Mm C s).2 + 1) else enS D Mm C s) = (if (enS D2 M2 C s).1.toInt < C ∧ D2 (s % 8) = ((s / 8 : Nat) : Int) then ((enS D2 M2 C s).1 + M2 (s % 8), (enS D2 M2 C s).2 + 1) else enS D2 M2 C s)
    rw [en_eq h1 h2 s, h1 (s % 8) (by omega), h2 (s % 8) (by omega)]
def enR (p : Int32 × Int32) (C : Int) (r : Int32) : Prop := (p.1.toInt < C ∧ r = -1) ∨ (C ≤ p.1.toInt ∧ r = p.2)
theorem er_n {p : Int32 × Int32} {C : Int} {h r : Int32} (q : (h, r) = p) (c : h.toInt < C) : enR p C (-1) := by subst q; exact .inl ⟨c, rfl⟩
theorem er_y {p : Int32 × Int32} {C : Int} {h r : Int32} (q : (h, r) = p) (c : C ≤ h.toInt) : enR p C r := by subst q; exact .inr ⟨c, rfl⟩
def dw0 (few : Nat → Int32) : Nat → Int := fun j => (few j).toInt
def spEnoC (few mo : Nat → Int32) (co r : Int32) : Prop := ((co.toInt < 0 ∨ 48 < co.toInt) ∧ r = -3) ∨ ((0 ≤ co.toInt ∧ co.toInt ≤ 48) ∧ enR (enS (dw0 few) (fun j => cuW (mo j)) co.toInt 64) co.toInt r)
def mcW (L : Nat → Int32) (n : Nat) : Nat → Int32 := fun j => if 6 < laF L 0 (nI j) 6 n then 6 else laF L 0 (nI j) 6 n
def spEnoM (A B L : Nat → Int32) (n ls co r : Int32) : Prop := ((co.toInt < 0 ∨ 48 < co.toInt) ∧ r = -3) ∨ ((0 ≤ co.toInt ∧ co.toInt ≤ 48) ∧ ∀ few : Nat → Int32, mtOK few → edR few A B n.toInt → enR (enS (dw0 few) (mcW L ls.toInt.toNat) co.toInt 64) co.toInt r)
theorem spEno_rel {few A B mo we L : Nat → Int32} {doo n ag ap li ls co r r2 : Int32} (hm : mtOK few) (R : doR few doo A B n) (Rb : bkR mo we ag ap li L ls) (h1 : spEnoC few mo co r) (h2 : spEnoM A B L n ls co r2) : r = r2 := by
  have Bk := bk_i Rb
  rcases h1 with ⟨a, b⟩ | ⟨a, b⟩
  · rcases h2 with ⟨_, d⟩ | ⟨c, _⟩
    · rw [b, d]
    · exfalso; omega
  · rcases h2 with ⟨c, _⟩ | ⟨_, d⟩
    · exfalso; omega
    · have d2 := d few hm R.2
      have e : enS (dw0 few) (fun j => cuW (mo j)) co.toInt 64 = enS (dw0 few) (mcW L ls.toInt.toNat) co.toInt 64 := by
        refine en_eq (fun _ _ => rfl) (fun j hj => ?_) 64
        show cuW (mo j) = (if 6 < laF L 0 (nI j) 6 ls.toInt.toNat then 6 else laF L 0 (nI j) 6 ls.toInt.toNat)
        rw [Bk.1 j hj]
        unfold cuW
        rcases la_wi (r := L) (so := 0) (ro := nI j) (wi := 6) _ Bk.2.2.2.2 with ⟨x, y⟩ | ⟨x, y⟩
        · rw [x, y, if_pos rfl, if_neg (by decide)]
        · rw [x, if_neg (nn_m1 y.1.1)]
      rw [e] at b
      rcases b with ⟨x, b⟩ | ⟨x, b⟩ <;> rcases d2 with ⟨y, d2⟩ | ⟨y, d2⟩
      · rw [b, d2]
      · exfalso; omega
      · exfalso; omega
      · rw [b, d2]
/-- the model's, for every metric that keeps its doors -/
def emI (A B L : Nat → Int32) (n ls : Int) (C : Int) (h r : Int32) (s : Nat) : Prop := ∀ few : Nat → Int32, mtOK few → edR few A B n → (h, r) = enS (dw0 few) (mcW L ls.toNat) C s
theorem em_0 {A B L : Nat → Int32} {n ls C : Int} {h r : Int32} {s : Nat} (h0 : h = 0) (r0 : r = 0) (hs : s = 0) : emI A B L n ls C h r s := fun _ _ _ => en_0 h0 r0 hs
theorem em_c {A B L : Nat → Int32} {n ls C : Int} {h r : Int32} {s s' : Nat} (q : emI A B L n ls C h r s) (e : s' = s) : emI A B L n ls C h r s' := fun w a b => en_c (q w a b) e
theorem em_d {few A B : Nat → Int32} {n : Int} {y v : Int32} (d : dsR A B n 0 y v) (a : mtOK few) (b : edR few A B n) : dw0 few y.toInt.toNat = v.toInt := by
  have := d few a b
  rw [show (((0 : Int32)).toInt * 8 + y.toInt).toNat = y.toInt.toNat from by rw [Int32.toInt_zero]; omega] at this
  show (few y.toInt.toNat).toInt = v.toInt
  rw [this]
theorem em_y {A B L : Nat → Int32} {n ls C : Int} {h r h' r' f y v so m : Int32} {s s' : Nat} (q : emI A B L n ls C h r s) (d : dsR A B n 0 y v) (l : so = laF L 0 y 6 ls.toNat) (hm : m = if 6 < so then 6 else so) (hs : (s : Int) = 8 * f.toInt + y.toInt) (hf : 0 ≤ f.toInt) (hy : 0 ≤ y.toInt) (hy7 : y.toInt ≤ 7) (c : h.toInt < C) (dv : v.toInt = f.toInt) (eh : h' = h + m) (er : r' = r + 1) (e : s' = s + 1) : emI A B L n ls C h' r' s' := by
  intro w a b
  refine en_y (q w a b) hs hf hy hy7 c ((em_d d a b).trans dv) ?_ er e
  rw [eh, hm, l]
  show _ = h + (if 6 < laF L 0 (nI y.toInt.toNat) 6 ls.toNat then 6 else laF L 0 (nI y.toInt.toNat) 6 ls.toNat)
  rw [nI_toNat hy]
theorem em_n {A B L : Nat → Int32} {n ls C : Int} {h r f y v : Int32} {s s' : Nat} (q : emI A B L n ls C h r s) (d : dsR A B n 0 y v) (hs : (s : Int) = 8 * f.toInt + y.toInt) (hf : 0 ≤ f.toInt) (hy : 0 ≤ y.toInt) (hy7 : y.toInt ≤ 7) (dv : v.toInt ≠ f.toInt) (e : s' = s + 1) : emI A B L n ls C h r s' := fun w a b => en_n (q w a b) hs hf hy hy7 (.inr (by rw [em_d d a b]; exact dv)) e
theorem em_s {A B L : Nat → Int32} {n ls C : Int} {h r : Int32} {s s' : Nat} (q : emI A B L n ls C h r s) (c : s' = s ∨ (C ≤ h.toInt ∧ s ≤ s')) : emI A B L n ls C h r s' := by
  rcases c with c | ⟨c, e⟩
  · exact em_c q c
  · intro w a b
    have := en_stay (q w a b) c (s' - s)
    rwa [show s + (s' - s) = s' by omega] at this
theorem mi_1 {so : Int32} (h : 6 < so) : (6 : Int32) = if 6 < so then 6 else so := by rw [if_pos h]
theorem mi_2 {so : Int32} (h : so ≤ 6) : so = if 6 < so then 6 else so := by rw [if_neg (Int32.not_lt.mpr h)]
theorem mi_3 {so : Int32} (h : ¬ so ≤ 6) : (6 : Int32) = if 6 < so then 6 else so := mi_1 (Int32.not_le.mp h)
theorem cu_1 {m : Int32} (h : m = -1) : (6 : Int32) = cuW m := by unfold cuW; rw [if_pos h]
theorem cu_2 {m x : Int32} (h : ¬ m = -1) (e : x = if (6 : Int32) < m then 6 else m) : x = cuW m := by unfold cuW; rw [if_neg h]; exact e
theorem dw_of {few : Nat → Int32} {y r : Int32} {z : Int} (e : r.toInt = (few (z * 8 + y.toInt).toNat).toInt) (hz : z = 0) : dw0 few y.toInt.toNat = r.toInt := by
  subst hz; rw [show ((0 : Int) * 8 + y.toInt) = y.toInt by omega] at e; exact e.symm
theorem en_yC {few mo : Nat → Int32} {C z : Int} {h r h' r' f y v m : Int32} {s s' : Nat} (q : (h, r) = enS (dw0 few) (fun j => cuW (mo j)) C s) (e1 : v.toInt = (few (z * 8 + y.toInt).toNat).toInt) (hz : z = 0) (l : m = cuW (mo y.toNatClampNeg)) (hs : (s : Int) = 8 * f.toInt + y.toInt) (hf : 0 ≤ f.toInt) (hy : 0 ≤ y.toInt) (hy7 : y.toInt ≤ 7) (c : h.toInt < C) (dv : v.toInt = f.toInt) (eh : h' = h + m) (er : r' = r + 1) (e : s' = s + 1) : (h', r') = enS (dw0 few) (fun j => cuW (mo j)) C s' :=
  en_y q hs hf hy hy7 c ((dw_of e1 hz).trans dv) (by rw [eh, l, clC (x := y) rfl]) er e
theorem en_nC {few : Nat → Int32} {Mm : Nat → Int32} {C z : Int} {h r f y v : Int32} {s s' : Nat} (q : (h, r) = enS (dw0 few) Mm C s) (e1 : v.toInt = (few (z * 8 + y.toInt).toNat).toInt) (hz : z = 0) (hs : (s : Int) = 8 * f.toInt + y.toInt) (hf : 0 ≤ f.toInt) (hy : 0 ≤ y.toInt) (hy7 : y.toInt ≤ 7) (dv : v.toInt ≠ f.toInt) (e : s' = s + 1) : (h, r) = enS (dw0 few) Mm C s' :=
  en_n q hs hf hy hy7 (.inr (by rw [dw_of e1 hz]; exact dv)) e
set_option maxHeartbeats 4000000 in
set_option maxRecDepth 100000 in
theorem k_X5_cornersToUse2 (l : Launch) (dC : Nat → ClassId) (dI : Nat → Nat → Nat) (cI cZ cQ : ClassId) (rb0 : Nat) (rb1 : Nat) (rb2 : Nat) (mos : Nat → Int32) (wev : Nat → Int32) (aga : Int32) (apa : Int32) (lin : Int32) (ro : Int32) (q0 : 0 ≤ ro.toInt) (q1 : ro.toInt ≤ 7) : KR l yX5_cornersToUse wsX5_cornersToUse { frames := 1, cells := 0, slots := 0, locals := 24 } (dC, dI) (TY cI cZ cQ) (wRul cI cZ cQ rb0 rb1 rb2 mos wev aga apa lin) [.ref rb0, .int ro] (fun r : Int32 => (r = cuW (mos ro.toNatClampNeg))) := by
  refine Met.ofW (cc := cX5_cornersToUse) (maxL := 2) (ret := (some .int)) (by decide) rfl ?_
  intro p e s m args below meth c s₁ B hml hv
  obtain ⟨rfl, hP, hK, hN⟩ := hv
  have hx := B.exec
  have hb := B.bytes
  have hr := B.returns
  have hts := atoms_spec (ws := wsX5_cornersToUse) B.pre
  have hown : s.vm.findClass RX5 = some m.cls := findClass_of_methodNamed B.named
  have hlocks := B.notSynchronized
  have lf9 := hts (.fieldLink RX5 9 "PalaceOfRooms$RuleBook" "mostIn" "[I") (List.mem_cons_of_mem _ (List.mem_append_left _ (List.mem_of_getElem? (i := 0) rfl)))
  have inX5 : ∀ w ∈ wsX50, w ∈ wsX5_cornersToUse := fun w h => List.mem_cons_of_mem _ (List.mem_append_right _ h)
  have hl := lv_entry ([.ref rb0, .int ro]) (n := 2) (Nat.le_of_ble_eq_true rfl)
  rw [lg_entry_eq]
  generalize (lg_sl ([.ref rb0, .int ro]) ++ List.replicate (2 - (lg_sl ([.ref rb0, .int ro])).length) Slot.unset).toArray = ls at hl ⊢
  have hl : lv_has ls 2 [(0, .ref rb0), (1, .int ro)] := hl
  refine lv_aload_n hx hb dX5_cornersToUse_0 rfl (lv_at hl 0 rfl) ?_
  refine va_get (D := (dC, dI)) (ci := 5) (v := .ref rb1) (C := RX5) (T := TX5) (N := 5) hx hb hts inX5 hown hK hP 0 rfl rfl 0 (by decide) lf9 (fun _ h9 => h9) rfl dX5_cornersToUse_1 ?_
  refine lv_iload_n hx hb dX5_cornersToUse_4 rfl (lv_at hl 1 rfl) ?_
  have b1 : vp_in ro 8 := inC rfl (by omega) (by omega)
  refine va_iald hx hb hK hP 1 0 rfl rfl b1 dX5_cornersToUse_5 ?_
  refine lv_iconst (v := (-1)) hx hb dX5_cornersToUse_6 (by decide) ?_
  refine lv_icmp_ne (tgt := 15) hx hb dX5_cornersToUse_7 (by decide) (fun c2 => ?_) (fun c2 => ?_)
  · have dc2 : (mos ro.toNatClampNeg).toInt ≠ (-1) := neC rfl (show ((-1) : Int32).toInt = (-1) from rfl) c2
    refine lv_aload_n hx hb dX5_cornersToUse_15 rfl (lv_at hl 0 rfl) ?_
    refine va_get (D := (dC, dI)) (ci := 5) (v := .ref rb1) (C := RX5) (T := TX5) (N := 5) hx hb hts inX5 hown hK hP 0 rfl rfl 0 (by decide) lf9 (fun _ h9 => h9) rfl dX5_cornersToUse_16 ?_
    refine lv_iload_n hx hb dX5_cornersToUse_19 rfl (lv_at hl 1 rfl) ?_
    have b3 : vp_in ro 8 := inC rfl (by omega) (by omega)
    refine va_iald hx hb hK hP 1 0 rfl rfl b3 dX5_cornersToUse_20 ?_
    refine lv_bipush (v := 6) hx hb dX5_cornersToUse_21 (by decide) ?_
    refine va_mmin hx hb (by rw [hml]; exact hl.1.symm) hown (hts (.methodLink RX5 37 Lib.Math.min.name) (List.mem_cons_of_mem _ (List.mem_append_left _ (List.mem_of_getElem? (i := 1) rfl)))) (hts (.static Lib.Math.min.name) (List.mem_cons_of_mem _ (List.mem_append_left _ (List.mem_of_getElem? (i := 2) rfl)))) (hts (.initialized "java/lang/Math") (List.mem_cons_of_mem _ (List.mem_append_left _ (List.mem_of_getElem? (i := 3) rfl)))) (hts (.code Lib.Math.min.name Lib.Math.min.code 2 (some .int)) (List.mem_cons_of_mem _ (List.mem_append_left _ (List.mem_of_getElem? (i := 4) rfl)))) (Nat.le_of_ble_eq_true rfl) (Nat.le_of_ble_eq_true rfl) (Nat.le_of_ble_eq_true rfl) (Nat.le_of_ble_eq_true rfl) dX5_cornersToUse_23 ?_
    have f4 : (if (6 : Int32) < mos ro.toNatClampNeg then 6 else mos ro.toNatClampNeg : Int32).toInt = min ((mos ro.toNatClampNeg).toInt) (6) := minC rfl (show (6 : Int32).toInt = 6 from rfl)
    refine lv_topi (fun x5 ex5 => ?_)
    have ix5 : x5.toInt = min ((mos ro.toNatClampNeg).toInt) (6) := by rw [ex5]; exact f4
    exact W.iret (v := x5) hx hb hr (fun tq ht hW => ⟨x5, rfl, (show x5 = cuW (mos ro.toNatClampNeg) from by (first | exact cu_1 (by assumption) | exact cu_2 (by assumption) (by assumption))), ht⟩) (fun q h => by cases h) dX5_cornersToUse_26
  · have dc2 : (mos ro.toNatClampNeg).toInt = (-1) := eqC rfl (show ((-1) : Int32).toInt = (-1) from rfl) c2
    refine lv_bipush (v := 6) hx hb dX5_cornersToUse_10 (by decide) ?_
    refine lv_goto (tgt := 26) hx hb dX5_cornersToUse_12 (by decide) ?_
    exact W.iret (v := 6) hx hb hr (fun tq ht hW => ⟨6, rfl, (show (6 : Int32) = cuW (mos ro.toNatClampNeg) from by (try rw [show (6 : Int32).toInt = 6 from (show (6 : Int32).toInt = 6 from rfl)]); (first | exact cu_1 (by assumption) | exact cu_2 (by assumption) (by assumption))), ht⟩) (fun q h => by cases h) dX5_cornersToUse_26
set_option maxHeartbeats 4000000 in
set_option maxRecDepth 100000 in
theorem k_X9_enough2 (l : Launch) (dC : Nat → ClassId) (dI : Nat → Nat → Nat) (cI cZ cQ : ClassId) (a : Nat → Nat) (rb0 : Nat) (rb1 : Nat) (rb2 : Nat) (db0 : Nat) (db1 : Nat) (db2 : Nat) (few : Nat → Int32) (doo : Int32) (mos : Nat → Int32) (wev : Nat → Int32) (aga : Int32) (apa : Int32) (lin : Int32) (co : Int32)  : KR l yX9_enough wsX9_enough { frames := 2, cells := 0, slots := 0, locals := 45 } (dC, dI) (TY cI cZ cQ) (wsWR cI cZ cQ a rb0 rb1 rb2 db0 db1 db2 few doo mos wev aga apa lin) [.ref (a 43), .int co] (fun r : Int32 => (spEnoC few mos co r)) := by
  refine Met.ofW (cc := cX9_enough) (maxL := 6) (ret := (some .int)) (by decide) rfl ?_
  intro p e s m args below meth c s₁ B hml hv
  obtain ⟨rfl, hP, hK, hN⟩ := hv
  have hx := B.exec
  have hb := B.bytes
  have hr := B.returns
  have hts := atoms_spec (ws := wsX9_enough) B.pre
  have hown : s.vm.findClass RX9 = some m.cls := findClass_of_methodNamed B.named
  have hlocks := B.notSynchronized
  have lf12 := hts (.fieldLink RX9 12 "PalaceOfRooms" "ways" "LPalaceOfRooms$Ways;") (List.mem_cons_of_mem _ (List.mem_append_left _ (List.mem_append_left _ (List.mem_append_left _ (List.mem_of_getElem? (i := 0) rfl)))))
  have inX9 : ∀ w ∈ wsX90, w ∈ wsX9_enough := fun w h => List.mem_cons_of_mem _ (List.mem_append_left _ (List.mem_append_left _ (List.mem_append_right _ h)))
  have lf76 := hts (.fieldLink RX9 76 "PalaceOfRooms" "rules" "LPalaceOfRooms$RuleBook;") (List.mem_cons_of_mem _ (List.mem_append_left _ (List.mem_append_left _ (List.mem_append_left _ (List.mem_of_getElem? (i := 1) rfl)))))
  have hl := lv_entry ([.ref (a 43), .int co]) (n := 6) (Nat.le_of_ble_eq_true rfl)
  rw [lg_entry_eq]
  generalize (lg_sl ([.ref (a 43), .int co]) ++ List.replicate (6 - (lg_sl ([.ref (a 43), .int co])).length) Slot.unset).toArray = ls at hl ⊢
  have hl : lv_has ls 6 [(0, .ref (a 43)), (1, .int co)] := hl
  refine lv_iload_n hx hb dX9_enough_0 rfl (lv_at hl 1 rfl) ?_
  refine lv_iconst (v := 0) hx hb dX9_enough_1 (by decide) ?_
  refine lv_bipush (v := 48) hx hb dX9_enough_2 (by decide) ?_
  refine rdS (As := [.int co, .int 0, .int 48]) (rest := []) ⟨hx, hb, hml, hown, hts⟩ (k_X9_within l dC dI cI cZ cQ co (0 : Int32) (48 : Int32)) (va_cwS 3 hts gX9_enough_X9_within rfl rfl rfl (by decide +kernel) ⟨Nat.le_of_ble_eq_true rfl, Nat.le_of_ble_eq_true rfl⟩) hP hK hN [] rfl rfl hl.1 rfl (Nat.le_of_ble_eq_true rfl) dX9_enough_4 ⟨Nat.le_of_ble_eq_true rfl, Nat.le_of_ble_eq_true rfl⟩ (fun r1 h2 => ?_)
  have h2 : ((((r1 = 1) ∧ ((0) ≤ co.toInt) ∧ (co.toInt ≤ (48))) ∨ ((r1 = 0) ∧ (co.toInt < (0) ∨ (48) < co.toInt)))) := h2
  rcases h2 with (⟨rfl, h2_a0, h2_a1⟩ | ⟨rfl, h2_a0⟩)
  · refine lv_if_ne (tgt := 13) hx hb dX9_enough_7 (by decide) (fun _ => ?_) (fun c9 => absurd c9 (by decide))
    refine lv_iconst (v := 0) hx hb dX9_enough_13 (by decide) ?_
    refine lv_istore_n (lv' := [(2, .int 0), (0, .ref (a 43)), (1, .int co)]) hx hb dX9_enough_14 rfl hl (by decide) rfl (fun ls hl => ?_)
    refine lv_iconst (v := 0) hx hb dX9_enough_15 (by decide) ?_
    refine lv_istore_n (lv' := [(3, .int 0), (2, .int 0), (0, .ref (a 43)), (1, .int co)]) hx hb dX9_enough_16 rfl hl (by decide) rfl (fun ls hl => ?_)
    refine lv_iconst (v := 0) hx hb dX9_enough_17 (by decide) ?_
    refine lv_istore (lv' := [(4, .int 0), (3, .int 0), (2, .int 0), (0, .ref (a 43)), (1, .int co)]) hx hb dX9_enough_18 hl (by decide) rfl (fun ls hl => ?_)
    have L20 : ∀ (nn : Nat) (y20_2 : Int32) (y20_3 : Int32) (y20_4 : Int32) (ls : Array Slot), (0 ≤ (y20_4.toInt)) → ((y20_4.toInt) ≤ 8) → ((y20_2, y20_3) = enS (dw0 few) (fun j => cuW (mos j)) co.toInt (8 * (y20_4.toInt)).toNat) → (8 - (y20_4.toInt)).toNat < nn → lv_has ls 6 [(0, .ref (a 43)), (1, .int co), (2, .int y20_2), (3, .int y20_3), (4, .int y20_4)] → W p l e (headSpec wsX9_enough { frames := 2, cells := 0, slots := 0, locals := 45 }).room s m ([.ref (a 43), .int co] : List Value).toArray below meth c s.heap [] 0 0 (MQ below (QR (fun r : Int32 => (spEnoC few mos co r))) ([.ref (a 43), .int co] : List Value).toArray s 0 0 (fun _ => False)) (F0 m 20 ls []) := by
      intro nn
      induction nn with
      | zero =>
        intro y20_2 y20_3 y20_4 ls i20_0 i20_1 i20_2 hm20
        exact absurd hm20 (Nat.not_lt_zero _)
      | succ nn ih20 =>
        intro y20_2 y20_3 y20_4 ls i20_0 i20_1 i20_2 hm20 hl
        refine lv_iload hx hb dX9_enough_20 (lv_at hl 4 rfl) ?_
        refine lv_bipush (v := 8) hx hb dX9_enough_22 (by decide) ?_
        refine lv_icmp_ge (tgt := 84) hx hb dX9_enough_24 (by decide) (fun c3 => ?_) (fun c3 => ?_)
        · have dc3 : 8 ≤ y20_4.toInt := leC (show (8 : Int32).toInt = 8 from rfl) rfl c3
          refine lv_iload_n hx hb dX9_enough_84 rfl (lv_at hl 2 rfl) ?_
          refine lv_iload_n hx hb dX9_enough_85 rfl (lv_at hl 1 rfl) ?_
          refine lv_icmp_ge (tgt := 93) hx hb dX9_enough_86 (by decide) (fun c4 => ?_) (fun c4 => ?_)
          · have dc4 : co.toInt ≤ y20_2.toInt := leC rfl rfl c4
            refine lv_iload_n hx hb dX9_enough_93 rfl (lv_at hl 3 rfl) ?_
            exact W.iret (v := y20_3) hx hb hr (fun tq ht hW => ⟨y20_3, rfl, (show spEnoC few mos co y20_3 from by (first | exact Or.inl ⟨by omega, rfl⟩ | exact Or.inr ⟨by omega, er_n (en_c i20_2 (by omega)) (by omega)⟩ | exact Or.inr ⟨by omega, er_y (en_c i20_2 (by omega)) (by omega)⟩)), ht⟩) (fun q h => by cases h) dX9_enough_94
          · have dc4 : y20_2.toInt < co.toInt := nleC rfl rfl c4
            refine lv_iconst (v := (-1)) hx hb dX9_enough_89 (by decide) ?_
            refine lv_goto (tgt := 94) hx hb dX9_enough_90 (by decide) ?_
            exact W.iret (v := (-1)) hx hb hr (fun tq ht hW => ⟨(-1), rfl, (show spEnoC few mos co ((-1) : Int32) from by (try rw [show ((-1) : Int32).toInt = (-1) from (show ((-1) : Int32).toInt = (-1) from rfl)]); (first | exact Or.inl ⟨by omega, rfl⟩ | exact Or.inr ⟨by omega, er_n (en_c i20_2 (by omega)) (by omega)⟩ | exact Or.inr ⟨by omega, er_y (en_c i20_2 (by omega)) (by omega)⟩)), ht⟩) (fun q h => by cases h) dX9_enough_94
        · have dc3 : y20_4.toInt < 8 := nleC (show (8 : Int32).toInt = 8 from rfl) rfl c3
          refine lv_iconst (v := 0) hx hb dX9_enough_27 (by decide) ?_
          refine lv_istore (lv' := [(5, .int 0), (0, .ref (a 43)), (1, .int co), (2, .int y20_2), (3, .int y20_3), (4, .int y20_4)]) hx hb dX9_enough_28 hl (by decide) rfl (fun ls hl => ?_)
          have L30 : ∀ (nn : Nat) (y30_2 : Int32) (y30_3 : Int32) (y30_5 : Int32) (ls : Array Slot), (0 ≤ (y30_5.toInt)) → ((y30_5.toInt) ≤ 8) → ((y30_2, y30_3) = enS (dw0 few) (fun j => cuW (mos j)) co.toInt (8 * (y20_4.toInt) + (y30_5.toInt)).toNat) → (8 - (y30_5.toInt)).toNat < nn → lv_has ls 6 [(0, .ref (a 43)), (1, .int co), (2, .int y30_2), (3, .int y30_3), (4, .int y20_4), (5, .int y30_5)] → W p l e (headSpec wsX9_enough { frames := 2, cells := 0, slots := 0, locals := 45 }).room s m ([.ref (a 43), .int co] : List Value).toArray below meth c s.heap [] 0 0 (MQ below (QR (fun r : Int32 => (spEnoC few mos co r))) ([.ref (a 43), .int co] : List Value).toArray s 0 0 (fun _ => False)) (F0 m 30 ls []) := by
            intro nn
            induction nn with
            | zero =>
              intro y30_2 y30_3 y30_5 ls i30_0 i30_1 i30_2 hm30
              exact absurd hm30 (Nat.not_lt_zero _)
            | succ nn ih30 =>
              intro y30_2 y30_3 y30_5 ls i30_0 i30_1 i30_2 hm30 hl
              refine lv_iload hx hb dX9_enough_30 (lv_at hl 5 rfl) ?_
              refine lv_bipush (v := 8) hx hb dX9_enough_32 (by decide) ?_
              refine lv_icmp_ge (tgt := 78) hx hb dX9_enough_34 (by decide) (fun c5 => ?_) (fun c5 => ?_)
              · have dc5 : 8 ≤ y30_5.toInt := leC (show (8 : Int32).toInt = 8 from rfl) rfl c5
                obtain ⟨z6, ez6⟩ : ∃ y : Int32, y = y20_4 + 1 := ⟨_, rfl⟩
                have iz6 : z6.toInt = y20_4.toInt + 1 := by rw [ez6]; exact addC rfl rfl (by omega) (by omega)
                refine lv_iinc (v := z6) (lv' := [(4, .int z6), (0, .ref (a 43)), (1, .int co), (2, .int y30_2), (3, .int y30_3), (5, .int y30_5)]) hx hb dX9_enough_78 hl (k := 4) rfl (by rw [ez6]; rfl) (by decide) rfl (fun ls hl => ?_)
                refine lv_goto (tgt := 20) hx hb dX9_enough_81 (by decide) ?_
                exact ih20 y30_2 y30_3 z6 _ (by omega) (by omega) (by (first | exact en_c i30_2 (by omega) | exact en_0 rfl rfl (by first | rfl | omega))) (by omega) (lv_sub hl [1, 2, 3, 4, 0] rfl)
              · have dc5 : y30_5.toInt < 8 := nleC (show (8 : Int32).toInt = 8 from rfl) rfl c5
                refine lv_iload_n hx hb dX9_enough_37 rfl (lv_at hl 2 rfl) ?_
                refine lv_iload_n hx hb dX9_enough_38 rfl (lv_at hl 1 rfl) ?_
                refine lv_icmp_ge (tgt := 72) hx hb dX9_enough_39 (by decide) (fun c7 => ?_) (fun c7 => ?_)
                · have dc7 : co.toInt ≤ y30_2.toInt := leC rfl rfl c7
                  obtain ⟨z8, ez8⟩ : ∃ y : Int32, y = y30_5 + 1 := ⟨_, rfl⟩
                  have iz8 : z8.toInt = y30_5.toInt + 1 := by rw [ez8]; exact addC rfl rfl (by omega) (by omega)
                  refine lv_iinc (v := z8) (lv' := [(5, .int z8), (0, .ref (a 43)), (1, .int co), (2, .int y30_2), (3, .int y30_3), (4, .int y20_4)]) hx hb dX9_enough_72 hl (k := 5) rfl (by rw [ez8]; rfl) (by decide) rfl (fun ls hl => ?_)
                  refine lv_goto (tgt := 30) hx hb dX9_enough_75 (by decide) ?_
                  exact ih30 y30_2 y30_3 z8 _ (by omega) (by omega) (by (first | exact en_yC (f := y20_4) (y := y30_5) i30_2 (by assumption) (by first | rfl | omega) (by assumption) (by omega) (by omega) (by omega) (by omega) (by omega) (by omega) (by assumption) (by assumption) (by omega) | exact en_nC (f := y20_4) (y := y30_5) i30_2 (by assumption) (by first | rfl | omega) (by omega) (by omega) (by omega) (by omega) (by omega) (by omega) | exact en_n (f := y20_4) (y := y30_5) i30_2 (by omega) (by omega) (by omega) (by omega) (Or.inl (by omega)) (by omega) | exact en_c i20_2 (by omega))) (by omega) (lv_sub hl [1, 2, 3, 4, 5, 0] rfl)
                · have dc7 : y30_2.toInt < co.toInt := nleC rfl rfl c7
                  refine lv_aload_n hx hb dX9_enough_42 rfl (lv_at hl 0 rfl) ?_
                  refine va_get (D := (dC, dI)) (ci := 9) (v := .ref (a 0)) (C := RX9) (T := TX9) (N := 11) hx hb hts inX9 hown hK hP 0 rfl rfl 0 (by decide) lf12 (fun _ h9 => h9) rfl dX9_enough_43 ?_
                  refine lv_iconst (v := 0) hx hb dX9_enough_46 (by decide) ?_
                  refine lv_iload hx hb dX9_enough_47 (lv_at hl 5 rfl) ?_
                  have kc0 : (0 : Int32).toInt = 0 := rfl
                  refine rdV (As := [.int 0, .int y30_5]) (rest := []) ⟨hx, hb, hml, hown, hts⟩ (k_X8_between2 l dC dI cI cZ cQ a few doo (0 : Int32) y30_5 (by omega) (by omega) (by omega) (by omega)) (cwV 2 hts gX9_enough_X8_between rfl rfl rfl (by decide +kernel) ⟨Nat.le_of_ble_eq_true rfl, Nat.le_of_ble_eq_true rfl⟩) hP hK hN [1, 2] rfl 1 8 rfl rfl rfl hl.1 rfl (Nat.le_of_ble_eq_true rfl) dX9_enough_49 ⟨Nat.le_of_ble_eq_true rfl, Nat.le_of_ble_eq_true rfl⟩ (fun r9 h10 => ?_)
                  have h10 : (r9 = few ((0) * 8 + y30_5.toInt).toNat) ∧ (r9.toInt = (few ((0) * 8 + y30_5.toInt).toNat).toInt) := h10
                  obtain ⟨h10_0, h10_1⟩ := h10
                  refine lv_iload hx hb dX9_enough_52 (lv_at hl 4 rfl) ?_
                  refine lv_icmp_ne (tgt := 72) hx hb dX9_enough_54 (by decide) (fun c11 => ?_) (fun c11 => ?_)
                  · have dc11 : r9.toInt ≠ y20_4.toInt := neC rfl rfl c11
                    obtain ⟨z12, ez12⟩ : ∃ y : Int32, y = y30_5 + 1 := ⟨_, rfl⟩
                    have iz12 : z12.toInt = y30_5.toInt + 1 := by rw [ez12]; exact addC rfl rfl (by omega) (by omega)
                    refine lv_iinc (v := z12) (lv' := [(5, .int z12), (0, .ref (a 43)), (1, .int co), (2, .int y30_2), (3, .int y30_3), (4, .int y20_4)]) hx hb dX9_enough_72 hl (k := 5) rfl (by rw [ez12]; rfl) (by decide) rfl (fun ls hl => ?_)
                    refine lv_goto (tgt := 30) hx hb dX9_enough_75 (by decide) ?_
                    exact ih30 y30_2 y30_3 z12 _ (by omega) (by omega) (by (first | exact en_yC (f := y20_4) (y := y30_5) i30_2 (by assumption) (by first | rfl | omega) (by assumption) (by omega) (by omega) (by omega) (by omega) (by omega) (by omega) (by assumption) (by assumption) (by omega) | exact en_nC (f := y20_4) (y := y30_5) i30_2 (by assumption) (by first | rfl | omega) (by omega) (by omega) (by omega) (by omega) (by omega) (by omega) | exact en_n (f := y20_4) (y := y30_5) i30_2 (by omega) (by omega) (by omega) (by omega) (Or.inl (by omega)) (by omega) | exact en_c i20_2 (by omega))) (by omega) (lv_sub hl [1, 2, 3, 4, 5, 0] rfl)
                  · have dc11 : r9.toInt = y20_4.toInt := eqC rfl rfl c11
                    refine lv_iload_n hx hb dX9_enough_57 rfl (lv_at hl 2 rfl) ?_
                    refine lv_aload_n hx hb dX9_enough_58 rfl (lv_at hl 0 rfl) ?_
                    refine va_get (D := (dC, dI)) (ci := 9) (v := .ref rb0) (C := RX9) (T := TX9) (N := 11) hx hb hts inX9 hown hK hP 0 rfl rfl 9 (by decide) lf76 (fun _ h9 => h9) rfl dX9_enough_59 ?_
                    refine lv_iload hx hb dX9_enough_62 (lv_at hl 5 rfl) ?_
                    refine rdV (As := [.int y30_5]) (rest := [.int y30_2]) ⟨hx, hb, hml, hown, hts⟩ (k_X5_cornersToUse2 l dC dI cI cZ cQ rb0 rb1 rb2 mos wev aga apa lin y30_5 (by omega) (by omega)) (cwV 1 hts gX9_enough_X5_cornersToUse rfl rfl rfl (by decide +kernel) ⟨Nat.le_of_ble_eq_true rfl, Nat.le_of_ble_eq_true rfl⟩) hP hK hN [3, 4, 5] rfl 3 5 rfl rfl rfl hl.1 rfl (Nat.le_of_ble_eq_true rfl) dX9_enough_64 ⟨Nat.le_of_ble_eq_true rfl, Nat.le_of_ble_eq_true rfl⟩ (fun r13 h14 => ?_)
                    have h14 : (r13 = cuW (mos y30_5.toNatClampNeg)) := h14
                    have h14_0 := h14
                    refine lv_iadd hx hb dX9_enough_67 ?_
                    refine lv_topi (fun x15 ex15 => ?_)
                    have ix15 : x15.toInt = (y30_2 + r13).toInt := by rw [ex15]
                    refine lv_istore_n (lv' := [(2, .int x15), (0, .ref (a 43)), (1, .int co), (3, .int y30_3), (4, .int y20_4), (5, .int y30_5)]) hx hb dX9_enough_68 rfl hl (by decide) rfl (fun ls hl => ?_)
                    obtain ⟨z16, ez16⟩ : ∃ y : Int32, y = y30_3 + 1 := ⟨_, rfl⟩
                    refine lv_iinc (v := z16) (lv' := [(3, .int z16), (2, .int x15), (0, .ref (a 43)), (1, .int co), (4, .int y20_4), (5, .int y30_5)]) hx hb dX9_enough_69 hl (k := 3) rfl (by rw [ez16]; rfl) (by decide) rfl (fun ls hl => ?_)
                    obtain ⟨z17, ez17⟩ : ∃ y : Int32, y = y30_5 + 1 := ⟨_, rfl⟩
                    have iz17 : z17.toInt = y30_5.toInt + 1 := by rw [ez17]; exact addC rfl rfl (by omega) (by omega)
                    refine lv_iinc (v := z17) (lv' := [(5, .int z17), (3, .int z16), (2, .int x15), (0, .ref (a 43)), (1, .int co), (4, .int y20_4)]) hx hb dX9_enough_72 hl (k := 5) rfl (by rw [ez17]; rfl) (by decide) rfl (fun ls hl => ?_)
                    refine lv_goto (tgt := 30) hx hb dX9_enough_75 (by decide) ?_
                    exact ih30 x15 z16 z17 _ (by omega) (by omega) (by (first | exact en_yC (f := y20_4) (y := y30_5) i30_2 (by assumption) (by first | rfl | omega) (by assumption) (by omega) (by omega) (by omega) (by omega) (by omega) (by omega) (by assumption) (by assumption) (by omega) | exact en_nC (f := y20_4) (y := y30_5) i30_2 (by assumption) (by first | rfl | omega) (by omega) (by omega) (by omega) (by omega) (by omega) (by omega) | exact en_n (f := y20_4) (y := y30_5) i30_2 (by omega) (by omega) (by omega) (by omega) (Or.inl (by omega)) (by omega) | exact en_c i20_2 (by omega))) (by omega) (lv_sub hl [3, 4, 2, 1, 5, 0] rfl)
          have kc18 : (0 : Int32).toInt = 0 := rfl
          exact L30 _ y20_2 y20_3 0 _ (by omega) (by omega) (by (first | exact en_yC (f := y20_4) (y := y30_5) i30_2 (by assumption) (by first | rfl | omega) (by assumption) (by omega) (by omega) (by omega) (by omega) (by omega) (by omega) (by assumption) (by assumption) (by omega) | exact en_nC (f := y20_4) (y := y30_5) i30_2 (by assumption) (by first | rfl | omega) (by omega) (by omega) (by omega) (by omega) (by omega) (by omega) | exact en_n (f := y20_4) (y := y30_5) i30_2 (by omega) (by omega) (by omega) (by omega) (Or.inl (by omega)) (by omega) | exact en_c i20_2 (by omega))) (Nat.lt_succ_self _) (lv_sub hl [1, 2, 3, 4, 5, 0] rfl)
    have kc19 : (0 : Int32).toInt = 0 := rfl
    exact L20 _ 0 0 0 _ (by omega) (by omega) (by (first | exact en_c i30_2 (by omega) | exact en_0 rfl rfl (by first | rfl | omega))) (Nat.lt_succ_self _) (lv_sub hl [3, 4, 2, 1, 0] rfl)
  · refine lv_if_ne (tgt := 13) hx hb dX9_enough_7 (by decide) (fun c9 => absurd (by decide) c9) (fun _ => ?_)
    refine lv_bipush (v := (-3)) hx hb dX9_enough_10 (by decide) ?_
    exact W.iret (v := (-3)) hx hb hr (fun tq ht hW => ⟨(-3), rfl, (show spEnoC few mos co ((-3) : Int32) from by (try rw [show ((-3) : Int32).toInt = (-3) from (show ((-3) : Int32).toInt = (-3) from rfl)]); (first | exact Or.inl ⟨by omega, rfl⟩ | exact Or.inr ⟨by omega, er_n (en_c i20_2 (by omega)) (by omega)⟩ | exact Or.inr ⟨by omega, er_y (en_c i20_2 (by omega)) (by omega)⟩)), ht⟩) (fun q h => by cases h) dX9_enough_12
set_option maxHeartbeats 4000000 in
set_option maxRecDepth 100000 in
theorem k_X10_enough2 (l : Launch) (dC : Nat → ClassId) (dI : Nat → Nat → Nat) (cI cZ cQ : ClassId) (b : Nat → Nat) (mday : Int32) (mdoo : Int32) (mdA : Nat → Int32) (mdB : Nat → Int32) (mfar : Nat → Int32) (mmar : Nat → Int32) (mtel : Int32) (mgai : Int32) (mfal : Nat → Int32) (mtop : Nat → Int32) (mstr : Nat → Int32) (mgho : Nat → Int32) (mfai : Nat → Int32) (mpto : Nat → Int32) (mwal : Nat → Int32) (mahd : Nat → Int32) (mahf : Nat → Int32) (mcho : Nat → Int32) (mbes : Nat → Int32) (mbyt : Int32) (mtxt : Nat → Int32) (mpos : Int32) (mtka : Int32) (mtok : Int64) (mdig : Int32) (mnum : Int32) (mfau : Int32) (mrdm : Int32) (mrea : Nat → Int32) (mlin : Int32) (mlne : Nat → Int32) (mthg : Nat → Int32) (mord : Nat → Int32) (mbor : Nat → Int32) (mbsm : Int32) (mans : Nat → Int32) (mand : Nat → Int32) (manr : Nat → Int32) (mali : Nat → Int32) (sz : Nat) (co : Int32) (r_mday : 0 ≤ mday.toInt ∧ mday.toInt ≤ 400) (r_mdoo : 0 ≤ mdoo.toInt ∧ mdoo.toInt ≤ 14) (r_mdA : rg 14 (0) (7) mdA) (r_mdB : rg 14 (0) (7) mdB) (r_mmar : rg 24 (0) (255) mmar) (r_mgai : 0 ≤ mgai.toInt ∧ mgai.toInt ≤ 100) (r_mfal : rg 11 (0) (30) mfal) (r_mtop : rg 48 (-1) (23) mtop) (r_mstr : rg 48 (0) (100) mstr) (r_mgho : rg 48 (-1) (23) mgho) (r_mfai : rg 48 (0) (100) mfai) (r_mahd : rg 240 (0) (100) mahd) (r_mahf : rg 240 (0) (100) mahf) (r_mcho : rg 5 (-1) (9) mcho) (r_mbyt : 0 ≤ mbyt.toInt ∧ mbyt.toInt ≤ 160) (r_mpos : 0 ≤ mpos.toInt ∧ mpos.toInt ≤ 160) (r_mrdm : 0 ≤ mrdm.toInt ∧ mrdm.toInt ≤ 10) (r_mlin : 0 ≤ mlin.toInt ∧ mlin.toInt ≤ 10) (r_mthg : rg 8 (0) (31) mthg) (r_mord : rg 8 (-1) (8) mord) (r_mans : rg 4 (0) (12) mans) : KW l yX10_enough wsX10_enough { frames := 1, cells := 0, slots := 0, locals := 26 } (dC, dI) (TY cI cZ cQ) (wMod cI cZ cQ b mday mdoo mdA mdB mfar mmar mtel mgai mfal mtop mstr mgho mfai mpto mwal mahd mahf mcho mbes mbyt mtxt mpos mtka mtok mdig mnum mfau mrdm mrea mlin mlne mthg mord mbor mbsm mans mand manr mali) [.ref (b 39), .int co] sz 0 0 (fun (r : Int32) (u : US) => (spEnoM mdA mdB mlne mdoo mlin co r)) (fun u : US => (wMod cI cZ cQ b mday mdoo mdA mdB (u.1 0) mmar mtel mgai mfal mtop mstr mgho mfai mpto mwal mahd mahf mcho mbes mbyt mtxt mpos mtka mtok mdig mnum mfau mrdm mrea mlin mlne mthg mord mbor mbsm mans mand manr mali)) := by
  refine Met.ofW (cc := cX10_enough) (maxL := 7) (ret := (some .int)) (by decide) rfl ?_
  intro p e s m args below meth c s₁ B hml hv
  obtain ⟨rfl, hsz, hP, hK, hD0, hN⟩ := hv
  have hx := B.exec
  have hb := B.bytes
  have hr := B.returns
  have hts := atoms_spec (ws := wsX10_enough) B.pre
  have hown : s.vm.findClass RX10 = some m.cls := findClass_of_methodNamed B.named
  have hlocks := B.notSynchronized
  subst hsz
  have hD := hD0.self (sz := s.heap.size)
  generalize hAe : va_A (wMod cI cZ cQ b mday mdoo mdA mdB mfar mmar mtel mgai mfal mtop mstr mgho mfai mpto mwal mahd mahf mcho mbes mbyt mtxt mpos mtka mtok mdig mnum mfau mrdm mrea mlin mlne mthg mord mbor mbsm mans mand manr mali) s.heap.size = A at hD ⊢
  have hA : ∀ q : Nat, s.heap.size ≤ q → A q := fun q h => by rw [← hAe]; exact Or.inr h
  have hS : va_S A s.heap s.heap [] := va_S.rf
  have hl := lv_entry ([.ref (b 39), .int co]) (n := 7) (Nat.le_of_ble_eq_true rfl)
  rw [lg_entry_eq]
  generalize (lg_sl ([.ref (b 39), .int co]) ++ List.replicate (7 - (lg_sl ([.ref (b 39), .int co])).length) Slot.unset).toArray = ls at hl ⊢
  have hl : lv_has ls 7 [(0, .ref (b 39)), (1, .int co)] := hl
  refine lv_iload_n hx hb dX10_enough_0 rfl (lv_at hl 1 rfl) ?_
  refine lv_iconst (v := 0) hx hb dX10_enough_1 (by decide) ?_
  refine lv_bipush (v := 48) hx hb dX10_enough_2 (by decide) ?_
  refine rdS (As := [.int co, .int 0, .int 48]) (rest := []) ⟨hx, hb, hml, hown, hts⟩ (k_X10_in l dC dI cI cZ cQ co (0 : Int32) (48 : Int32)) (va_cwS 3 hts gX10_enough_X10_in rfl rfl rfl (by decide +kernel) ⟨Nat.le_of_ble_eq_true rfl, Nat.le_of_ble_eq_true rfl⟩) hP hK hN [] rfl rfl hl.1 rfl (Nat.le_of_ble_eq_true rfl) dX10_enough_4 ⟨Nat.le_of_ble_eq_true rfl, Nat.le_of_ble_eq_true rfl⟩ (fun r1 h2 => ?_)
  have h2 : ((((r1 = 1) ∧ ((0) ≤ co.toInt) ∧ (co.toInt ≤ (48))) ∨ ((r1 = 0) ∧ (co.toInt < (0) ∨ (48) < co.toInt)))) := h2
  rcases h2 with (⟨rfl, h2_a0, h2_a1⟩ | ⟨rfl, h2_a0⟩)
  · refine lv_if_ne (tgt := 13) hx hb dX10_enough_7 (by decide) (fun _ => ?_) (fun c9 => absurd c9 (by decide))
    refine lv_iconst (v := 0) hx hb dX10_enough_13 (by decide) ?_
    refine lv_istore_n (lv' := [(2, .int 0), (0, .ref (b 39)), (1, .int co)]) hx hb dX10_enough_14 rfl hl (by decide) rfl (fun ls hl => ?_)
    refine lv_iconst (v := 0) hx hb dX10_enough_15 (by decide) ?_
    refine lv_istore_n (lv' := [(3, .int 0), (2, .int 0), (0, .ref (b 39)), (1, .int co)]) hx hb dX10_enough_16 rfl hl (by decide) rfl (fun ls hl => ?_)
    refine lv_iconst (v := 0) hx hb dX10_enough_17 (by decide) ?_
    refine lv_istore (lv' := [(4, .int 0), (3, .int 0), (2, .int 0), (0, .ref (b 39)), (1, .int co)]) hx hb dX10_enough_18 hl (by decide) rfl (fun ls hl => ?_)
    have L20 : ∀ (nn : Nat) (y20_2 : Int32) (y20_3 : Int32) (y20_4 : Int32) (mfar_20 : Nat → Int32) (H : Heap) (locs : List Loc) (ls : Array Slot), (0 ≤ (y20_4.toInt)) → ((y20_4.toInt) ≤ 8) → (emI mdA mdB mlne mdoo.toInt mlin.toInt co.toInt y20_2 y20_3 (8 * (y20_4.toInt)).toNat) → (8 - (y20_4.toInt)).toNat < nn → va_P (dC, dI) vwCl (wMod cI cZ cQ b mday mdoo mdA mdB mfar_20 mmar mtel mgai mfal mtop mstr mgho mfai mpto mwal mahd mahf mcho mbes mbyt mtxt mpos mtka mtok mdig mnum mfau mrdm mrea mlin mlne mthg mord mbor mbsm mans mand manr mali) H → va_D A (wMod cI cZ cQ b mday mdoo mdA mdB mfar_20 mmar mtel mgai mfal mtop mstr mgho mfai mpto mwal mahd mahf mcho mbes mbyt mtxt mpos mtka mtok mdig mnum mfau mrdm mrea mlin mlne mthg mord mbor mbsm mans mand manr mali) → va_S A s.heap H locs → lv_has ls 7 [(0, .ref (b 39)), (1, .int co), (2, .int y20_2), (3, .int y20_3), (4, .int y20_4)] → W p l e (headSpec wsX10_enough { frames := 1, cells := 0, slots := 0, locals := 26 }).room s m ([.ref (b 39), .int co] : List Value).toArray below meth c H locs 0 0 (MQ below (va_Qi (fun (r : Int32) (u : US) => (spEnoM mdA mdB mlne mdoo mlin co r)) (Bw (dC, dI) A (fun u : US => (wMod cI cZ cQ b mday mdoo mdA mdB (u.1 0) mmar mtel mgai mfal mtop mstr mgho mfai mpto mwal mahd mahf mcho mbes mbyt mtxt mpos mtka mtok mdig mnum mfau mrdm mrea mlin mlne mthg mord mbor mbsm mans mand manr mali))) A) ([.ref (b 39), .int co] : List Value).toArray s 0 0 A) (F0 m 20 ls []) := by
      intro nn
      induction nn with
      | zero =>
        intro y20_2 y20_3 y20_4 mfar_20 H locs ls i20_0 i20_1 i20_2 hm20
        exact absurd hm20 (Nat.not_lt_zero _)
      | succ nn ih20 =>
        intro y20_2 y20_3 y20_4 mfar_20 H locs ls i20_0 i20_1 i20_2 hm20 hP hD hS hl
        refine lv_iload hx hb dX10_enough_20 (lv_at hl 4 rfl) ?_
        refine lv_bipush (v := 8) hx hb dX10_enough_22 (by decide) ?_
        refine lv_icmp_ge (tgt := 102) hx hb dX10_enough_24 (by decide) (fun c3 => ?_) (fun c3 => ?_)
        · have dc3 : 8 ≤ y20_4.toInt := leC (show (8 : Int32).toInt = 8 from rfl) rfl c3
          refine lv_iload_n hx hb dX10_enough_102 rfl (lv_at hl 2 rfl) ?_
          refine lv_iload_n hx hb dX10_enough_103 rfl (lv_at hl 1 rfl) ?_
          refine lv_icmp_ge (tgt := 111) hx hb dX10_enough_104 (by decide) (fun c4 => ?_) (fun c4 => ?_)
          · have dc4 : co.toInt ≤ y20_2.toInt := leC rfl rfl c4
            refine lv_iload_n hx hb dX10_enough_111 rfl (lv_at hl 3 rfl) ?_
            exact W.iret (v := y20_3) hx hb hr (fun tq ht hW => ⟨⟨y20_3, (uS [mfar_20] 0 (fun _ => 0)), rfl, (show spEnoM mdA mdB mlne mdoo mlin co y20_3 from by (first | exact Or.inl ⟨by omega, rfl⟩ | exact Or.inr ⟨by omega, fun w a b => er_n (em_s i20_2 (by first | exact Or.inl (by omega) | exact Or.inr ⟨by omega, by omega⟩) w a b) (by omega)⟩ | exact Or.inr ⟨by omega, fun w a b => er_y (em_s i20_2 (by first | exact Or.inl (by omega) | exact Or.inr ⟨by omega, by omega⟩) w a b) (by omega)⟩)), by rw [ht]; exact hP, hD⟩, hS.F ht⟩) hS.2.2 dX10_enough_112
          · have dc4 : y20_2.toInt < co.toInt := nleC rfl rfl c4
            refine lv_iconst (v := (-1)) hx hb dX10_enough_107 (by decide) ?_
            refine lv_goto (tgt := 112) hx hb dX10_enough_108 (by decide) ?_
            exact W.iret (v := (-1)) hx hb hr (fun tq ht hW => ⟨⟨(-1), (uS [mfar_20] 0 (fun _ => 0)), rfl, (show spEnoM mdA mdB mlne mdoo mlin co ((-1) : Int32) from by (try rw [show ((-1) : Int32).toInt = (-1) from (show ((-1) : Int32).toInt = (-1) from rfl)]); (first | exact Or.inl ⟨by omega, rfl⟩ | exact Or.inr ⟨by omega, fun w a b => er_n (em_s i20_2 (by first | exact Or.inl (by omega) | exact Or.inr ⟨by omega, by omega⟩) w a b) (by omega)⟩ | exact Or.inr ⟨by omega, fun w a b => er_y (em_s i20_2 (by first | exact Or.inl (by omega) | exact Or.inr ⟨by omega, by omega⟩) w a b) (by omega)⟩)), by rw [ht]; exact hP, hD⟩, hS.F ht⟩) hS.2.2 dX10_enough_112
        · have dc3 : y20_4.toInt < 8 := nleC (show (8 : Int32).toInt = 8 from rfl) rfl c3
          refine lv_iload_n hx hb dX10_enough_27 rfl (lv_at hl 2 rfl) ?_
          refine lv_iload_n hx hb dX10_enough_28 rfl (lv_at hl 1 rfl) ?_
          refine lv_icmp_ge (tgt := 102) hx hb dX10_enough_29 (by decide) (fun c5 => ?_) (fun c5 => ?_)
          · have dc5 : co.toInt ≤ y20_2.toInt := leC rfl rfl c5
            refine lv_iload_n hx hb dX10_enough_102 rfl (lv_at hl 2 rfl) ?_
            refine lv_iload_n hx hb dX10_enough_103 rfl (lv_at hl 1 rfl) ?_
            refine lv_icmp_ge (tgt := 111) hx hb dX10_enough_104 (by decide) (fun c6 => ?_) (fun c6 => ?_)
            · have dc6 : co.toInt ≤ y20_2.toInt := leC rfl rfl c6
              refine lv_iload_n hx hb dX10_enough_111 rfl (lv_at hl 3 rfl) ?_
              exact W.iret (v := y20_3) hx hb hr (fun tq ht hW => ⟨⟨y20_3, (uS [mfar_20] 0 (fun _ => 0)), rfl, (show spEnoM mdA mdB mlne mdoo mlin co y20_3 from by (first | exact Or.inl ⟨by omega, rfl⟩ | exact Or.inr ⟨by omega, fun w a b => er_n (em_s i20_2 (by first | exact Or.inl (by omega) | exact Or.inr ⟨by omega, by omega⟩) w a b) (by omega)⟩ | exact Or.inr ⟨by omega, fun w a b => er_y (em_s i20_2 (by first | exact Or.inl (by omega) | exact Or.inr ⟨by omega, by omega⟩) w a b) (by omega)⟩)), by rw [ht]; exact hP, hD⟩, hS.F ht⟩) hS.2.2 dX10_enough_112
            · have dc6 : y20_2.toInt < co.toInt := nleC rfl rfl c6
              refine lv_iconst (v := (-1)) hx hb dX10_enough_107 (by decide) ?_
              refine lv_goto (tgt := 112) hx hb dX10_enough_108 (by decide) ?_
              exact W.iret (v := (-1)) hx hb hr (fun tq ht hW => ⟨⟨(-1), (uS [mfar_20] 0 (fun _ => 0)), rfl, (show spEnoM mdA mdB mlne mdoo mlin co ((-1) : Int32) from by (try rw [show ((-1) : Int32).toInt = (-1) from (show ((-1) : Int32).toInt = (-1) from rfl)]); (first | exact Or.inl ⟨by omega, rfl⟩ | exact Or.inr ⟨by omega, fun w a b => er_n (em_s i20_2 (by first | exact Or.inl (by omega) | exact Or.inr ⟨by omega, by omega⟩) w a b) (by omega)⟩ | exact Or.inr ⟨by omega, fun w a b => er_y (em_s i20_2 (by first | exact Or.inl (by omega) | exact Or.inr ⟨by omega, by omega⟩) w a b) (by omega)⟩)), by rw [ht]; exact hP, hD⟩, hS.F ht⟩) hS.2.2 dX10_enough_112
          · have dc5 : y20_2.toInt < co.toInt := nleC rfl rfl c5
            refine lv_iconst (v := 0) hx hb dX10_enough_32 (by decide) ?_
            refine lv_istore (lv' := [(5, .int 0), (0, .ref (b 39)), (1, .int co), (2, .int y20_2), (3, .int y20_3), (4, .int y20_4)]) hx hb dX10_enough_33 hl (by decide) rfl (fun ls hl => ?_)
            have L35 : ∀ (nn : Nat) (y35_2 : Int32) (y35_3 : Int32) (y35_5 : Int32) (mfar_35 : Nat → Int32) (H : Heap) (locs : List Loc) (ls : Array Slot), (0 ≤ (y35_5.toInt)) → ((y35_5.toInt) ≤ 8) → (emI mdA mdB mlne mdoo.toInt mlin.toInt co.toInt y35_2 y35_3 (8 * (y20_4.toInt) + (y35_5.toInt)).toNat) → (8 - (y35_5.toInt)).toNat < nn → va_P (dC, dI) vwCl (wMod cI cZ cQ b mday mdoo mdA mdB mfar_35 mmar mtel mgai mfal mtop mstr mgho mfai mpto mwal mahd mahf mcho mbes mbyt mtxt mpos mtka mtok mdig mnum mfau mrdm mrea mlin mlne mthg mord mbor mbsm mans mand manr mali) H → va_D A (wMod cI cZ cQ b mday mdoo mdA mdB mfar_35 mmar mtel mgai mfal mtop mstr mgho mfai mpto mwal mahd mahf mcho mbes mbyt mtxt mpos mtka mtok mdig mnum mfau mrdm mrea mlin mlne mthg mord mbor mbsm mans mand manr mali) → va_S A s.heap H locs → lv_has ls 7 [(0, .ref (b 39)), (1, .int co), (2, .int y35_2), (3, .int y35_3), (4, .int y20_4), (5, .int y35_5)] → W p l e (headSpec wsX10_enough { frames := 1, cells := 0, slots := 0, locals := 26 }).room s m ([.ref (b 39), .int co] : List Value).toArray below meth c H locs 0 0 (MQ below (va_Qi (fun (r : Int32) (u : US) => (spEnoM mdA mdB mlne mdoo mlin co r)) (Bw (dC, dI) A (fun u : US => (wMod cI cZ cQ b mday mdoo mdA mdB (u.1 0) mmar mtel mgai mfal mtop mstr mgho mfai mpto mwal mahd mahf mcho mbes mbyt mtxt mpos mtka mtok mdig mnum mfau mrdm mrea mlin mlne mthg mord mbor mbsm mans mand manr mali))) A) ([.ref (b 39), .int co] : List Value).toArray s 0 0 A) (F0 m 35 ls []) := by
              intro nn
              induction nn with
              | zero =>
                intro y35_2 y35_3 y35_5 mfar_35 H locs ls i35_0 i35_1 i35_2 hm35
                exact absurd hm35 (Nat.not_lt_zero _)
              | succ nn ih35 =>
                intro y35_2 y35_3 y35_5 mfar_35 H locs ls i35_0 i35_1 i35_2 hm35 hP hD hS hl
                refine lv_iload hx hb dX10_enough_35 (lv_at hl 5 rfl) ?_
                refine lv_bipush (v := 8) hx hb dX10_enough_37 (by decide) ?_
                refine lv_icmp_ge (tgt := 96) hx hb dX10_enough_39 (by decide) (fun c7 => ?_) (fun c7 => ?_)
                · have dc7 : 8 ≤ y35_5.toInt := leC (show (8 : Int32).toInt = 8 from rfl) rfl c7
                  obtain ⟨z8, ez8⟩ : ∃ y : Int32, y = y20_4 + 1 := ⟨_, rfl⟩
                  have iz8 : z8.toInt = y20_4.toInt + 1 := by rw [ez8]; exact addC rfl rfl (by omega) (by omega)
                  refine lv_iinc (v := z8) (lv' := [(4, .int z8), (0, .ref (b 39)), (1, .int co), (2, .int y35_2), (3, .int y35_3), (5, .int y35_5)]) hx hb dX10_enough_96 hl (k := 4) rfl (by rw [ez8]; rfl) (by decide) rfl (fun ls hl => ?_)
                  refine lv_goto (tgt := 20) hx hb dX10_enough_99 (by decide) ?_
                  exact ih20 y35_2 y35_3 z8 mfar_35 _ _ _ (by omega) (by omega) (by (first | exact em_s i35_2 (by first | exact Or.inl (by omega) | exact Or.inr ⟨by omega, by omega⟩) | exact em_0 rfl rfl (by first | rfl | omega))) (by omega) hP hD hS (lv_sub hl [1, 2, 3, 4, 0] rfl)
                · have dc7 : y35_5.toInt < 8 := nleC (show (8 : Int32).toInt = 8 from rfl) rfl c7
                  refine lv_iload_n hx hb dX10_enough_42 rfl (lv_at hl 2 rfl) ?_
                  refine lv_iload_n hx hb dX10_enough_43 rfl (lv_at hl 1 rfl) ?_
                  refine lv_icmp_ge (tgt := 96) hx hb dX10_enough_44 (by decide) (fun c9 => ?_) (fun c9 => ?_)
                  · have dc9 : co.toInt ≤ y35_2.toInt := leC rfl rfl c9
                    obtain ⟨z10, ez10⟩ : ∃ y : Int32, y = y20_4 + 1 := ⟨_, rfl⟩
                    have iz10 : z10.toInt = y20_4.toInt + 1 := by rw [ez10]; exact addC rfl rfl (by omega) (by omega)
                    refine lv_iinc (v := z10) (lv' := [(4, .int z10), (0, .ref (b 39)), (1, .int co), (2, .int y35_2), (3, .int y35_3), (5, .int y35_5)]) hx hb dX10_enough_96 hl (k := 4) rfl (by rw [ez10]; rfl) (by decide) rfl (fun ls hl => ?_)
                    refine lv_goto (tgt := 20) hx hb dX10_enough_99 (by decide) ?_
                    exact ih20 y35_2 y35_3 z10 mfar_35 _ _ _ (by omega) (by omega) (by (first | exact em_s i35_2 (by first | exact Or.inl (by omega) | exact Or.inr ⟨by omega, by omega⟩) | exact em_0 rfl rfl (by first | rfl | omega))) (by omega) hP hD hS (lv_sub hl [1, 2, 3, 4, 0] rfl)
                  · have dc9 : y35_2.toInt < co.toInt := nleC rfl rfl c9
                    refine lv_aload_n hx hb dX10_enough_47 rfl (lv_at hl 0 rfl) ?_
                    refine lv_iconst (v := 0) hx hb dX10_enough_48 (by decide) ?_
                    refine lv_iload hx hb dX10_enough_49 (lv_at hl 5 rfl) ?_
                    have kc0 : (0 : Int32).toInt = 0 := rfl
                    refine wrV (As := [.int 0, .int y35_5]) (rest := []) (wr := []) (w2 := (fun u : US => (wMod cI cZ cQ b mday mdoo mdA mdB (u.1 0) mmar mtel mgai mfal mtop mstr mgho mfai mpto mwal mahd mahf mcho mbes mbyt mtxt mpos mtka mtok mdig mnum mfau mrdm mrea mlin mlne mthg mord mbor mbsm mans mand manr mali))) ⟨hx, hb, hml, hown, hts⟩ (k_X10_doorsTo2 l dC dI cI cZ cQ b mday mdoo mdA mdB mfar_35 mmar mtel mgai mfal mtop mstr mgho mfai mpto mwal mahd mahf mcho mbes mbyt mtxt mpos mtka mtok mdig mnum mfau mrdm mrea mlin mlne mthg mord mbor mbsm mans mand manr mali _ (0 : Int32) y35_5 r_mday r_mdoo r_mdA r_mdB r_mmar r_mgai r_mfal r_mtop r_mstr r_mgho r_mfai r_mahd r_mahf r_mcho r_mbyt r_mpos r_mrdm r_mlin r_mthg r_mord r_mans (by omega) (by omega) (by omega) (by omega)) (cwV 2 hts gX10_enough_X10_doorsTo rfl rfl rfl (by decide +kernel) ⟨Nat.le_of_ble_eq_true rfl, Nat.le_of_ble_eq_true rfl⟩) hP hD hS hA hK hN [0, 1, 2, 3, 4, 5, 6, 7, 8, 9, 10, 11, 12, 13, 14, 15, 16, 17, 18, 19, 20, 21, 22, 23, 24, 25] [] [0, 1, 2, 3, 4, 5, 6, 7, 8, 9, 10, 11, 12, 13, 14, 15, 16, 17, 18, 19, 20, 21, 22, 23, 24, 25] rfl rfl (by decide) (by decide) (by decide) (fun _ => rfl) (by decide) 0 10 rfl rfl rfl hl.1 rfl (Nat.le_of_ble_eq_true rfl) dX10_enough_51 ⟨Nat.le_of_ble_eq_true rfl, Nat.le_of_ble_eq_true rfl⟩ (fun r11 u13 H locs h12 hP hD hS => ?_)
                    obtain ⟨mfar_c14, emfar_c14⟩ : ∃ f : Nat → Int32, f = (u13.1 0) := ⟨_, rfl⟩
                    have hP : va_P (dC, dI) vwCl (wMod cI cZ cQ b mday mdoo mdA mdB mfar_c14 mmar mtel mgai mfal mtop mstr mgho mfai mpto mwal mahd mahf mcho mbes mbyt mtxt mpos mtka mtok mdig mnum mfau mrdm mrea mlin mlne mthg mord mbor mbsm mans mand manr mali) H := by rw [emfar_c14]; exact hP
                    have hD : va_D A (wMod cI cZ cQ b mday mdoo mdA mdB mfar_c14 mmar mtel mgai mfal mtop mstr mgho mfai mpto mwal mahd mahf mcho mbes mbyt mtxt mpos mtka mtok mdig mnum mfau mrdm mrea mlin mlne mthg mord mbor mbsm mans mand manr mali) := by rw [emfar_c14]; exact hD
                    have h12 : (dsR mdA mdB mdoo.toInt (0 : Int32) y35_5 r11) ∧ (-1 ≤ r11.toInt) ∧ (r11.toInt ≤ 99) := by (try rw [emfar_c14]); exact h12
                    obtain ⟨h12_0, h12_1, h12_2⟩ := h12
                    refine lv_iload hx hb dX10_enough_54 (lv_at hl 4 rfl) ?_
                    refine lv_icmp_ne (tgt := 90) hx hb dX10_enough_56 (by decide) (fun c15 => ?_) (fun c15 => ?_)
                    · have dc15 : r11.toInt ≠ y20_4.toInt := neC rfl rfl c15
                      obtain ⟨z16, ez16⟩ : ∃ y : Int32, y = y35_5 + 1 := ⟨_, rfl⟩
                      have iz16 : z16.toInt = y35_5.toInt + 1 := by rw [ez16]; exact addC rfl rfl (by omega) (by omega)
                      refine lv_iinc (v := z16) (lv' := [(5, .int z16), (0, .ref (b 39)), (1, .int co), (2, .int y35_2), (3, .int y35_3), (4, .int y20_4)]) hx hb dX10_enough_90 hl (k := 5) rfl (by rw [ez16]; rfl) (by decide) rfl (fun ls hl => ?_)
                      refine lv_goto (tgt := 35) hx hb dX10_enough_93 (by decide) ?_
                      exact ih35 y35_2 y35_3 z16 mfar_c14 _ _ _ (by omega) (by omega) (by (first | exact em_y (f := y20_4) (y := y35_5) i35_2 (by assumption) (by assumption) (by first | exact mi_3 (by assumption) | exact mi_2 (by assumption)) (by omega) (by omega) (by omega) (by omega) (by omega) (by omega) (by assumption) (by assumption) (by omega) | exact em_n (f := y20_4) (y := y35_5) i35_2 (by assumption) (by omega) (by omega) (by omega) (by omega) (by omega) (by omega) | exact em_c i20_2 (by omega))) (by omega) hP hD hS (lv_sub hl [1, 2, 3, 4, 5, 0] rfl)
                    · have dc15 : r11.toInt = y20_4.toInt := eqC rfl rfl c15
                      refine lv_aload_n hx hb dX10_enough_59 rfl (lv_at hl 0 rfl) ?_
                      refine lv_iconst (v := 0) hx hb dX10_enough_60 (by decide) ?_
                      refine lv_iload hx hb dX10_enough_61 (lv_at hl 5 rfl) ?_
                      refine lv_bipush (v := 6) hx hb dX10_enough_63 (by decide) ?_
                      refine rdV (As := [.int 0, .int y35_5, .int 6]) (rest := []) ⟨hx, hb, hml, hown, hts⟩ (k_X10_lastOf2 l dC dI cI cZ cQ b mday mdoo mdA mdB mfar_c14 mmar mtel mgai mfal mtop mstr mgho mfai mpto mwal mahd mahf mcho mbes mbyt mtxt mpos mtka mtok mdig mnum mfau mrdm mrea mlin mlne mthg mord mbor mbsm mans mand manr mali (0 : Int32) y35_5 (6 : Int32) r_mday r_mdoo r_mdA r_mdB r_mmar r_mgai r_mfal r_mtop r_mstr r_mgho r_mfai r_mahd r_mahf r_mcho r_mbyt r_mpos r_mrdm r_mlin r_mthg r_mord r_mans) (cwV 3 hts gX10_enough_X10_lastOf rfl rfl rfl (by decide +kernel) ⟨Nat.le_of_ble_eq_true rfl, Nat.le_of_ble_eq_true rfl⟩) hP hK hN [0, 1, 2, 3, 4, 5, 6, 7, 8, 9, 10, 11, 12, 13, 14, 15, 16, 17, 18, 19, 20, 21, 22, 23, 24, 25] rfl 0 10 rfl rfl rfl hl.1 rfl (Nat.le_of_ble_eq_true rfl) dX10_enough_65 ⟨Nat.le_of_ble_eq_true rfl, Nat.le_of_ble_eq_true rfl⟩ (fun r17 h18 => ?_)
                      have h18 : (r17 = laF mlne (0 : Int32) y35_5 (6 : Int32) mlin.toInt.toNat) := h18
                      have h18_0 := h18
                      refine lv_istore (lv' := [(6, .int r17), (0, .ref (b 39)), (1, .int co), (2, .int y35_2), (3, .int y35_3), (4, .int y20_4), (5, .int y35_5)]) hx hb dX10_enough_68 hl (by decide) rfl (fun ls hl => ?_)
                      refine lv_iload_n hx hb dX10_enough_70 rfl (lv_at hl 3 rfl) ?_
                      refine lv_iload hx hb dX10_enough_71 (lv_at hl 0 rfl) ?_
                      refine lv_bipush (v := 6) hx hb dX10_enough_73 (by decide) ?_
                      refine lv_icmp_le (tgt := 83) hx hb dX10_enough_75 (by decide) (fun c19 => ?_) (fun c19 => ?_)
                      · have dc19 : r17.toInt ≤ 6 := leC rfl (show (6 : Int32).toInt = 6 from rfl) c19
                        refine lv_iload hx hb dX10_enough_83 (lv_at hl 0 rfl) ?_
                        refine lv_iadd hx hb dX10_enough_85 ?_
                        refine lv_topi (fun x20 ex20 => ?_)
                        have ix20 : x20.toInt = (y35_2 + r17).toInt := by rw [ex20]
                        refine lv_istore_n (lv' := [(2, .int x20), (6, .int r17), (0, .ref (b 39)), (1, .int co), (3, .int y35_3), (4, .int y20_4), (5, .int y35_5)]) hx hb dX10_enough_86 rfl hl (by decide) rfl (fun ls hl => ?_)
                        obtain ⟨z21, ez21⟩ : ∃ y : Int32, y = y35_3 + 1 := ⟨_, rfl⟩
                        refine lv_iinc (v := z21) (lv' := [(3, .int z21), (2, .int x20), (6, .int r17), (0, .ref (b 39)), (1, .int co), (4, .int y20_4), (5, .int y35_5)]) hx hb dX10_enough_87 hl (k := 4) rfl (by rw [ez21]; rfl) (by decide) rfl (fun ls hl => ?_)
                        obtain ⟨z22, ez22⟩ : ∃ y : Int32, y = y35_5 + 1 := ⟨_, rfl⟩
                        have iz22 : z22.toInt = y35_5.toInt + 1 := by rw [ez22]; exact addC rfl rfl (by omega) (by omega)
                        refine lv_iinc (v := z22) (lv' := [(5, .int z22), (3, .int z21), (2, .int x20), (6, .int r17), (0, .ref (b 39)), (1, .int co), (4, .int y20_4)]) hx hb dX10_enough_90 hl (k := 6) rfl (by rw [ez22]; rfl) (by decide) rfl (fun ls hl => ?_)
                        refine lv_goto (tgt := 35) hx hb dX10_enough_93 (by decide) ?_
                        exact ih35 x20 z21 z22 mfar_c14 _ _ _ (by omega) (by omega) (by (first | exact em_y (f := y20_4) (y := y35_5) i35_2 (by assumption) (by assumption) (by first | exact mi_3 (by assumption) | exact mi_2 (by assumption)) (by omega) (by omega) (by omega) (by omega) (by omega) (by omega) (by assumption) (by assumption) (by omega) | exact em_n (f := y20_4) (y := y35_5) i35_2 (by assumption) (by omega) (by omega) (by omega) (by omega) (by omega) (by omega) | exact em_c i20_2 (by omega))) (by omega) hP hD hS (lv_sub hl [4, 5, 2, 1, 6, 0] rfl)
                      · have dc19 : 6 < r17.toInt := nleC rfl (show (6 : Int32).toInt = 6 from rfl) c19
                        refine lv_bipush (v := 6) hx hb dX10_enough_78 (by decide) ?_
                        refine lv_goto (tgt := 85) hx hb dX10_enough_80 (by decide) ?_
                        refine lv_iadd hx hb dX10_enough_85 ?_
                        refine lv_topi (fun x23 ex23 => ?_)
                        have ix23 : x23.toInt = (y35_2 + 6).toInt := by rw [ex23]
                        refine lv_istore_n (lv' := [(2, .int x23), (6, .int r17), (0, .ref (b 39)), (1, .int co), (3, .int y35_3), (4, .int y20_4), (5, .int y35_5)]) hx hb dX10_enough_86 rfl hl (by decide) rfl (fun ls hl => ?_)
                        obtain ⟨z24, ez24⟩ : ∃ y : Int32, y = y35_3 + 1 := ⟨_, rfl⟩
                        refine lv_iinc (v := z24) (lv' := [(3, .int z24), (2, .int x23), (6, .int r17), (0, .ref (b 39)), (1, .int co), (4, .int y20_4), (5, .int y35_5)]) hx hb dX10_enough_87 hl (k := 4) rfl (by rw [ez24]; rfl) (by decide) rfl (fun ls hl => ?_)
                        obtain ⟨z25, ez25⟩ : ∃ y : Int32, y = y35_5 + 1 := ⟨_, rfl⟩
                        have iz25 : z25.toInt = y35_5.toInt + 1 := by rw [ez25]; exact addC rfl rfl (by omega) (by omega)
                        refine lv_iinc (v := z25) (lv' := [(5, .int z25), (3, .int z24), (2, .int x23), (6, .int r17), (0, .ref (b 39)), (1, .int co), (4, .int y20_4)]) hx hb dX10_enough_90 hl (k := 6) rfl (by rw [ez25]; rfl) (by decide) rfl (fun ls hl => ?_)
                        refine lv_goto (tgt := 35) hx hb dX10_enough_93 (by decide) ?_
                        exact ih35 x23 z24 z25 mfar_c14 _ _ _ (by omega) (by omega) (by (first | exact em_y (f := y20_4) (y := y35_5) i35_2 (by assumption) (by assumption) (by first | exact mi_3 (by assumption) | exact mi_2 (by assumption)) (by omega) (by omega) (by omega) (by omega) (by omega) (by omega) (by assumption) (by assumption) (by omega) | exact em_n (f := y20_4) (y := y35_5) i35_2 (by assumption) (by omega) (by omega) (by omega) (by omega) (by omega) (by omega) | exact em_c i20_2 (by omega))) (by omega) hP hD hS (lv_sub hl [4, 5, 2, 1, 6, 0] rfl)
            have kc26 : (0 : Int32).toInt = 0 := rfl
            exact L35 _ y20_2 y20_3 0 mfar_20 _ _ _ (by omega) (by omega) (by (first | exact em_y (f := y20_4) (y := y35_5) i35_2 (by assumption) (by assumption) (by first | exact mi_3 (by assumption) | exact mi_2 (by assumption)) (by omega) (by omega) (by omega) (by omega) (by omega) (by omega) (by assumption) (by assumption) (by omega) | exact em_n (f := y20_4) (y := y35_5) i35_2 (by assumption) (by omega) (by omega) (by omega) (by omega) (by omega) (by omega) | exact em_c i20_2 (by omega))) (Nat.lt_succ_self _) hP hD hS (lv_sub hl [1, 2, 3, 4, 5, 0] rfl)
    have kc27 : (0 : Int32).toInt = 0 := rfl
    exact L20 _ 0 0 0 mfar _ _ _ (by omega) (by omega) (by (first | exact em_s i35_2 (by first | exact Or.inl (by omega) | exact Or.inr ⟨by omega, by omega⟩) | exact em_0 rfl rfl (by first | rfl | omega))) (Nat.lt_succ_self _) hP hD hS (lv_sub hl [3, 4, 2, 1, 0] rfl)
  · refine lv_if_ne (tgt := 13) hx hb dX10_enough_7 (by decide) (fun c9 => absurd (by decide) c9) (fun _ => ?_)
    refine lv_bipush (v := (-3)) hx hb dX10_enough_10 (by decide) ?_
    exact W.iret (v := (-3)) hx hb hr (fun tq ht hW => ⟨⟨(-3), (uS [mfar] 0 (fun _ => 0)), rfl, (show spEnoM mdA mdB mlne mdoo mlin co ((-3) : Int32) from by (try rw [show ((-3) : Int32).toInt = (-3) from (show ((-3) : Int32).toInt = (-3) from rfl)]); (first | exact Or.inl ⟨by omega, rfl⟩ | exact Or.inr ⟨by omega, fun w a b => er_n (em_s i20_2 (by first | exact Or.inl (by omega) | exact Or.inr ⟨by omega, by omega⟩) w a b) (by omega)⟩ | exact Or.inr ⟨by omega, fun w a b => er_y (em_s i20_2 (by first | exact Or.inl (by omega) | exact Or.inr ⟨by omega, by omega⟩) w a b) (by omega)⟩)), by rw [ht]; exact hP, hD⟩, hS.F ht⟩) hS.2.2 dX10_enough_12
end
