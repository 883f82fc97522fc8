-- ===== PUPILS =====
def sayW (t d : Int32) : Bool := decide (¬ 100 - (t / 9 + 1) * d < (t - t / 9 * 9 + 1) * 10)
def incW (t d ri : Int32) : Int32 := if (if sayW t d then (1 : Int32) else 0) = ri then 1 else 0
theorem sw_t {t d r1 r2 : Int32} (h1 : r1 = t / 9 + 1) (h2 : r2 = (t - t / 9 * 9 + 1) * 10) (c : ¬ 100 - r1 * d < r2) : sayW t d = true := by subst h1; subst h2; exact decide_eq_true c
theorem sw_f {t d r1 r2 : Int32} (h1 : r1 = t / 9 + 1) (h2 : r2 = (t - t / 9 * 9 + 1) * 10) (c : 100 - r1 * d < r2) : sayW t d = false := by subst h1; subst h2; exact decide_eq_false (fun q => q c)
theorem sw_tM {t d : Int32} (c : ¬ 100 - (t / 9 + 1) * d < 10 * (t - t / 9 * 9 + 1)) : sayW t d = true := by rw [Int32.mul_comm 10] at c; exact decide_eq_true c
theorem sw_fM {t d : Int32} (c : 100 - (t / 9 + 1) * d < 10 * (t - t / 9 * 9 + 1)) : sayW t d = false := by rw [Int32.mul_comm 10] at c; exact decide_eq_false (fun q => q c)
theorem sw1 {t d ri : Int32} (h : sayW t d = true) (c : (1 : Int32) = ri) : (if sayW t d then (1 : Int32) else 0) = ri := by rw [h, if_pos rfl]; exact c
theorem sw0 {t d ri : Int32} (h : sayW t d = false) (c : (0 : Int32) = ri) : (if sayW t d then (1 : Int32) else 0) = ri := by rw [h, if_neg (by decide)]; exact c
theorem nw1 {t d ri : Int32} (h : sayW t d = true) (c : ¬ (1 : Int32) = ri) : ¬ (if sayW t d then (1 : Int32) else 0) = ri := by rw [h, if_pos rfl]; exact c
theorem nw0 {t d ri : Int32} (h : sayW t d = false) (c : ¬ (0 : Int32) = ri) : ¬ (if sayW t d then (1 : Int32) else 0) = ri := by rw [h, if_neg (by decide)]; exact c
def ntI (g : Nat → Int32) (d ri : Int32) (i : Int) (g' : Nat → Int32) : Prop := ∀ j : Nat, j < 81 → ((j : Int) < i → g' j = g j + incW (nI j) d ri) ∧ (i ≤ j → g' j = g j)
theorem nt_0 {g : Nat → Int32} {d ri : Int32} {i : Int} (hi : i = 0) : ntI g d ri i g := fun j _ => ⟨fun q => by omega, fun _ => rfl⟩
theorem nt_y {g g1 g2 : Nat → Int32} {d ri y v : Int32} {i : Int} (q : ntI g d ri y.toInt g1) (e : g2 = upd g1 y.toNatClampNeg v) (hv : v = g1 y.toNatClampNeg + 1) (hs : (if sayW y d then (1 : Int32) else 0) = ri) (h0 : 0 ≤ y.toInt) (h1 : y.toInt < 81) (hi : i = y.toInt + 1) : ntI g d ri i g2 := by
  subst hi; subst e
  have ey := clC (x := y) rfl
  have w0 := (q y.toNatClampNeg (by omega)).2 (by omega)
  intro j hj
  by_cases c : j = y.toNatClampNeg
  · subst c
    refine ⟨fun _ => ?_, fun z => by omega⟩
    rw [pk_us, hv, w0, ey, nI_toNat h0]
    unfold incW
    rw [if_pos hs]
  · rw [pk_un c]; exact ⟨fun z => (q j hj).1 (by omega), fun z => (q j hj).2 (by omega)⟩
theorem nt_n {g g1 : Nat → Int32} {d ri y : Int32} {i : Int} (q : ntI g d ri y.toInt g1) (hs : ¬ (if sayW y d then (1 : Int32) else 0) = ri) (h0 : 0 ≤ y.toInt) (h1 : y.toInt < 81) (hi : i = y.toInt + 1) : ntI g d ri i g1 := by
  subst hi
  have ey := clC (x := y) rfl
  have w0 := (q y.toNatClampNeg (by omega)).2 (by omega)
  intro j hj
  by_cases c : j = y.toNatClampNeg
  · subst c
    refine ⟨fun _ => ?_, fun z => by omega⟩
    rw [w0, ey, nI_toNat h0]
    unfold incW
    rw [if_neg hs, Int32.add_zero]
  · exact ⟨fun z => (q j hj).1 (by omega), fun z => (q j hj).2 (by omega)⟩
def mayF (g : Nat → Int32) (a : Int32) : Nat → Int
  | 0 => 0
  | k + 1 => mayF g a k + (if g k = a then 1 else 0)
theorem my_0 {g : Nat → Int32} {a : Int32} {L : Int} {N : Nat} (hL : L = 0) (hN : N = 0) : L = mayF g a N := by subst hN; exact hL
theorem my_s {g : Nat → Int32} {a o : Int32} {L R : Int} {N N' : Nat} (h : L = mayF g a N) (ho : o.toNatClampNeg = N) (hR : (g o.toNatClampNeg = a ∧ R = L + 1) ∨ (¬ g o.toNatClampNeg = a ∧ R = L)) (hN : N' = N + 1) : R = mayF g a N' := by
  subst hN; rw [ho] at hR
  show R = mayF g a N + (if g N = a then 1 else 0)
  rcases hR with ⟨x, y⟩ | ⟨x, y⟩
  · rw [if_pos x, ← h]; exact y
  · rw [if_neg x, ← h]; omega
theorem my_e {g : Nat → Int32} {a : Int32} {L : Int} {N N' : Nat} (h : L = mayF g a N) (e : N' = N) : L = mayF g a N' := by subst e; exact h
def lkF (g : Nat → Int32) : Nat → Nat
  | 0 => 0
  | k + 1 => if (g (lkF g k)).toInt < (g (k + 1)).toInt then k + 1 else lkF g k
theorem lk_le {g : Nat → Int32} : ∀ k, lkF g k ≤ k
  | 0 => Nat.le_refl 0
  | k + 1 => by
    have := lk_le (g := g) k
    show (if (g (lkF g k)).toInt < (g (k + 1)).toInt then k + 1 else lkF g k) ≤ k + 1
    by_cases c : (g (lkF g k)).toInt < (g (k + 1)).toInt
    · rw [if_pos c]; omega
    · rw [if_neg c]; omega
theorem lk_0 {g : Nat → Int32} {y : Int} {k : Nat} (hy : y = 0) (hk : k = 0) : y = ((lkF g k : Nat) : Int) := by subst hk; exact hy
theorem lk_y {g : Nat → Int32} {x y : Int32} {k k' : Nat} (h : x.toInt = ((lkF g k : Nat) : Int)) (hy : y.toInt = (k : Int) + 1) (c : (g x.toNatClampNeg).toInt < (g y.toNatClampNeg).toInt) (hk : k' = k + 1) : y.toInt = ((lkF g k' : Nat) : Int) := by
  subst hk
  rw [clC h, clC hy, show (((lkF g k : Nat) : Int)).toNat = lkF g k by omega, show ((k : Int) + 1).toNat = k + 1 by omega] at c
  show y.toInt = (((if (g (lkF g k)).toInt < (g (k + 1)).toInt then k + 1 else lkF g k) : Nat) : Int)
  rw [if_pos c, hy]; rfl
theorem lk_n {g : Nat → Int32} {x y : Int32} {k k' : Nat} (h : x.toInt = ((lkF g k : Nat) : Int)) (hy : y.toInt = (k : Int) + 1) (c : (g y.toNatClampNeg).toInt ≤ (g x.toNatClampNeg).toInt) (hk : k' = k + 1) : x.toInt = ((lkF g k' : Nat) : Int) := by
  subst hk
  rw [clC h, clC hy, show (((lkF g k : Nat) : Int)).toNat = lkF g k by omega, show ((k : Int) + 1).toNat = k + 1 by omega] at c
  show x.toInt = (((if (g (lkF g k)).toInt < (g (k + 1)).toInt then k + 1 else lkF g k) : Nat) : Int)
  rw [if_neg (by omega), h]
theorem lk_e {g : Nat → Int32} {y : Int} {k k' : Nat} (h : y = ((lkF g k : Nat) : Int)) (e : k' = k) : y = ((lkF g k' : Nat) : Int) := by subst e; exact h
theorem ag_at {g : Nat → Int32} {x : Int32} {n : Nat} (h : x.toInt = ((n : Nat) : Int)) : g x.toNatClampNeg = g n := by rw [clC h]; rfl
def nmL (t : Nat) : Int := 100 * ((t : Int) / 9 + 1) + ((t : Int) % 9 + 1) * 10
def unF (g : Nat → Int32) (a d : Int32) : Nat → Int
  | 0 => 0
  | k + 1 => unF g a d k + (if g k = a then (if sayW (nI k) d then 1 else -1) else 0)
theorem un_0 {g : Nat → Int32} {a d : Int32} {L : Int} {N : Nat} (hL : L = 0) (hN : N = 0) : L = unF g a d N := by subst hN; exact hL
theorem un_s {g : Nat → Int32} {a d o : Int32} {L R : Int} {N N' : Nat} (h : L = unF g a d N) (ho : o.toInt = N) (hR : (g o.toNatClampNeg = a ∧ ((sayW o d = true ∧ R = L + 1) ∨ (sayW o d = false ∧ R = L - 1))) ∨ (¬ g o.toNatClampNeg = a ∧ R = L)) (hN : N' = N + 1) : R = unF g a d N' := by
  subst hN
  have eo : o = nI N := by
    have := nI_toNat (y := o) (by omega)
    rw [← this]; congr 1; omega
  have ec : o.toNatClampNeg = N := by rw [clC ho]; omega
  rw [ec, eo] at hR
  show R = unF g a d N + (if g N = a then (if sayW (nI N) d then 1 else -1) else 0)
  rcases hR with ⟨x, ⟨y, z⟩ | ⟨y, z⟩⟩ | ⟨x, z⟩
  · rw [if_pos x, y, if_pos rfl, ← h]; exact z
  · rw [if_pos x, y, if_neg (by decide), ← h]; omega
  · rw [if_neg x, ← h]; omega
def ofF (g : Nat → Int32) (a d : Int32) : Int := max (unF g a d 81) (-(unF g a d 81))
theorem of_e {g : Nat → Int32} {a d : Int32} {X Y : Int} {k : Nat} (h : Y = unF g a d k) (hk : k = 81) (hx : X = max Y (-Y)) : X = ofF g a d := by subst hk; unfold ofF; rw [← h]; exact hx
theorem ab_C {x y : Int32} (e : x = if 0 ≤ y then y else 0 - y) (h1 : -81 ≤ y.toInt) (h2 : y.toInt ≤ 81) : x.toInt = max y.toInt (-y.toInt) := by
  by_cases c : 0 ≤ y
  · rw [if_pos c] at e
    have := leC (show ((0 : Int32)).toInt = 0 from rfl) rfl c
    rw [e]; omega
  · rw [if_neg c] at e
    have := nleC (show ((0 : Int32)).toInt = 0 from rfl) rfl c
    rw [e, subC (show ((0 : Int32)).toInt = 0 from rfl) rfl (by omega) (by omega)]; omega
theorem un_rg {g : Nat → Int32} {a d : Int32} : ∀ k : Nat, -(k : Int) ≤ unF g a d k ∧ unF g a d k ≤ k
  | 0 => ⟨by show -((0 : Nat) : Int) ≤ 0; omega, Int.le_refl 0⟩
  | k + 1 => by
    have := un_rg (g := g) (a := a) (d := d) k
    show -((k + 1 : Nat) : Int) ≤ unF g a d k + (if g k = a then (if sayW (nI k) d then 1 else -1) else 0) ∧ unF g a d k + (if g k = a then (if sayW (nI k) d then 1 else -1) else 0) ≤ ((k + 1 : Nat) : Int)
    by_cases c : g k = a
    · rw [if_pos c]
      cases sayW (nI k) d
      · rw [if_neg (by decide)]; omega
      · rw [if_pos rfl]; omega
    · rw [if_neg c]; omega
def fdP (g : Nat → Int32) (a : Int32) (L0 : Int) : Nat → Int × Int
  | 0 => (-1, L0)
  | k + 1 => if ofF g a (nI (k + 1)) < (fdP g a L0 k).2 then ((k : Int) + 1, ofF g a (nI (k + 1))) else fdP g a L0 k
theorem fd_0 {g : Nat → Int32} {a : Int32} {L0 P L : Int} {k : Nat} (hP : P = -1) (hL : L = L0) (hk : k = 0) : (P, L) = fdP g a L0 k := by subst hk; subst hP; subst hL; rfl
theorem fd_nI {d : Int32} {k : Nat} (hd : d.toInt = (k : Int) + 1) : nI (k + 1) = d := by
  have := nI_toNat (y := d) (by omega)
  rw [← this]; congr 1; omega
theorem fd_y {g : Nat → Int32} {a d : Int32} {L0 P L D U : Int} {k k' : Nat} (h : (P, L) = fdP g a L0 k) (hd : d.toInt = (k : Int) + 1) (hD : D = d.toInt) (hu : U = ofF g a d) (c : U < L) (hk : k' = k + 1) : (D, U) = fdP g a L0 k' := by
  subst hk
  show _ = if ofF g a (nI (k + 1)) < (fdP g a L0 k).2 then ((k : Int) + 1, ofF g a (nI (k + 1))) else fdP g a L0 k
  rw [← h, fd_nI hd, ← hu, if_pos c, hD, hd]
theorem fd_n {g : Nat → Int32} {a d : Int32} {L0 P L U : Int} {k k' : Nat} (h : (P, L) = fdP g a L0 k) (hd : d.toInt = (k : Int) + 1) (hu : U = ofF g a d) (c : L ≤ U) (hk : k' = k + 1) : (P, L) = fdP g a L0 k' := by
  subst hk
  show _ = if ofF g a (nI (k + 1)) < (fdP g a L0 k).2 then ((k : Int) + 1, ofF g a (nI (k + 1))) else fdP g a L0 k
  rw [← h, fd_nI hd, ← hu, if_neg (by show ¬ U < L; omega)]
def dpF (g : Nat → Int32) (a : Int32) (L0 : Int) : Int := if mayF g a 81 = 0 then -1 else (fdP g a L0 60).1
theorem dp_0 {g : Nat → Int32} {a : Int32} {L0 X M : Int} (h : M = mayF g a 81) (hM : M = 0) (hX : X = -1) : X = dpF g a L0 := by unfold dpF; rw [← h, if_pos hM]; exact hX
theorem dp_1 {g : Nat → Int32} {a : Int32} {L0 P L M : Int} {k : Nat} (h : M = mayF g a 81) (hM : M ≠ 0) (q : (P, L) = fdP g a L0 k) (hk : k = 60) : P = dpF g a L0 := by subst hk; unfold dpF; rw [← h, if_neg hM, ← q]
theorem fd_L {g : Nat → Int32} {a : Int32} {L1 L2 : Int} (h1 : 81 < L1) (h2 : 81 < L2) : ∀ k : Nat, fdP g a L1 (k + 1) = fdP g a L2 (k + 1)
  | 0 => by
    have r := un_rg (g := g) (a := a) (d := nI 1) 81
    have o : ofF g a (nI 1) ≤ 81 := by unfold ofF; omega
    show (if ofF g a (nI 1) < (fdP g a L1 0).2 then (((0 : Nat) : Int) + 1, ofF g a (nI 1)) else fdP g a L1 0) = (if ofF g a (nI 1) < (fdP g a L2 0).2 then (((0 : Nat) : Int) + 1, ofF g a (nI 1)) else fdP g a L2 0)
    rw [if_pos (by show ofF g a (nI 1) < L1; omega), if_pos (by show ofF g a (nI 1) < L2; omega)]
  | k + 1 => by
    show (if ofF g a (nI (k + 1 + 1)) < (fdP g a L1 (k + 1)).2 then (((k + 1 : Nat) : Int) + 1, ofF g a (nI (k + 1 + 1))) else fdP g a L1 (k + 1)) = (if ofF g a (nI (k + 1 + 1)) < (fdP g a L2 (k + 1)).2 then (((k + 1 : Nat) : Int) + 1, ofF g a (nI (k + 1 + 1))) else fdP g a L2 (k + 1))
    rw [fd_L h1 h2 k]
theorem mayF_eq {g h : Nat → Int32} {a : Int32} (e : ∀ j, j < 81 → g j = h j) : ∀ k, k ≤ 81 → mayF g a k = mayF h a k
  | 0, _ => rfl
  | k + 1, hk => by
    show mayF g a k + (if g k = a then 1 else 0) = mayF h a k + (if h k = a then 1 else 0)
    rw [mayF_eq e k (by omega), e k (by omega)]
theorem lkF_eq {g h : Nat → Int32} (e : ∀ j, j < 81 → g j = h j) : ∀ k, k ≤ 80 → lkF g k = lkF h k
  | 0, _ => rfl
  | k + 1, hk => by
    have l := lk_le (g := h) k
    show (if (g (lkF g k)).toInt < (g (k + 1)).toInt then k + 1 else lkF g k) = (if (h (lkF h k)).toInt < (h (k + 1)).toInt then k + 1 else lkF h k)
    rw [lkF_eq e k (by omega), e (k + 1) (by omega), e (lkF h k) (by omega)]
theorem unF_eq {g h : Nat → Int32} {a d : Int32} (e : ∀ j, j < 81 → g j = h j) : ∀ k, k ≤ 81 → unF g a d k = unF h a d k
  | 0, _ => rfl
  | k + 1, hk => by
    show unF g a d k + (if g k = a then (if sayW (nI k) d then 1 else -1) else 0) = unF h a d k + (if h k = a then (if sayW (nI k) d then 1 else -1) else 0)
    rw [unF_eq e k (by omega), e k (by omega)]
theorem ofF_eq {g h : Nat → Int32} {a d : Int32} (e : ∀ j, j < 81 → g j = h j) : ofF g a d = ofF h a d := by unfold ofF; rw [unF_eq e 81 (by omega)]
theorem fdP_eq {g h : Nat → Int32} {a : Int32} {L0 : Int} (e : ∀ j, j < 81 → g j = h j) : ∀ k, fdP g a L0 k = fdP h a L0 k
  | 0 => rfl
  | k + 1 => by
    show (if ofF g a (nI (k + 1)) < (fdP g a L0 k).2 then ((k : Int) + 1, ofF g a (nI (k + 1))) else fdP g a L0 k) = (if ofF h a (nI (k + 1)) < (fdP h a L0 k).2 then ((k : Int) + 1, ofF h a (nI (k + 1))) else fdP h a L0 k)
    rw [fdP_eq e k, ofF_eq e]
theorem dpF_eq {g h : Nat → Int32} {a : Int32} (e : ∀ j, j < 81 → g j = h j) : dpF g a 82 = dpF h a 1000 := by
  unfold dpF
  rw [mayF_eq e 81 (by omega), fdP_eq e 60, fd_L (L1 := 82) (L2 := 1000) (by decide) (by decide) 59]
def spPup (G : Nat → Int32) (a : Int32) (L0 : Int) (p w r : Int32) : Prop := ((p.toInt < 0 ∨ 3 < p.toInt) ∧ r = -2) ∨ ((0 ≤ p.toInt ∧ p.toInt ≤ 3) ∧ ((w.toInt = 0 ∧ r.toInt = mayF G a 81) ∨ (w.toInt = 1 ∧ r.toInt = nmL (lkF G 80)) ∨ (w.toInt = 2 ∧ r = G (lkF G 80)) ∨ (w.toInt = 3 ∧ r.toInt = dpF G a L0) ∨ ((w.toInt < 0 ∨ 3 < w.toInt) ∧ r = -3)))
def gF (g0 g1 g2 g3 : Nat → Int32) : Nat → Nat → Int32 := fun q => ([g0, g1, g2, g3] : List (Nat → Int32)).getD q (fun _ => 0)
def agW (day rgt : Nat → Int32) (t : Int32) (lo : Nat) : Nat → Int32
  | 0 => 0
  | k + 1 => agW day rgt t lo k + incW t (day (lo + k)) (rgt (lo + k))
theorem in_rg {t d ri : Int32} : 0 ≤ (incW t d ri).toInt ∧ (incW t d ri).toInt ≤ 1 := by
  unfold incW
  by_cases c : (if sayW t d then (1 : Int32) else 0) = ri
  · rw [if_pos c]; decide
  · rw [if_neg c]; decide
theorem aw_rg {day rgt : Nat → Int32} {t : Int32} {lo : Nat} : ∀ n : Nat, n ≤ 12 → 0 ≤ (agW day rgt t lo n).toInt ∧ (agW day rgt t lo n).toInt ≤ n
  | 0, _ => ⟨show (0 : Int) ≤ (0 : Int32).toInt by decide, show (0 : Int32).toInt ≤ ((0 : Nat) : Int) by decide⟩
  | k + 1, hk => by
    have i := aw_rg (day := day) (rgt := rgt) (t := t) (lo := lo) k (by omega)
    have r := in_rg (t := t) (d := day (lo + k)) (ri := rgt (lo + k))
    show 0 ≤ (agW day rgt t lo k + incW t (day (lo + k)) (rgt (lo + k))).toInt ∧ (agW day rgt t lo k + incW t (day (lo + k)) (rgt (lo + k))).toInt ≤ ((k + 1 : Nat) : Int)
    rw [addC rfl rfl (by omega) (by omega)]; omega
theorem aw_0 {day rgt : Nat → Int32} {t v : Int32} {lo k : Nat} (hv : v = 0) (hk : k = 0) : v = agW day rgt t lo k := by subst hk; exact hv
theorem aw_y {day rgt : Nat → Int32} {t v w x : Int32} {lo k k' : Nat} (h : v = agW day rgt t lo k) (hs : (if sayW t (day x.toNatClampNeg) then (1 : Int32) else 0) = rgt x.toNatClampNeg) (hx : x.toInt = ((lo + k : Nat) : Int)) (hw : w = v + 1) (hk : k' = k + 1) : w = agW day rgt t lo k' := by
  subst hk
  rw [show x.toNatClampNeg = lo + k by rw [clC hx]; omega] at hs
  show w = agW day rgt t lo k + incW t (day (lo + k)) (rgt (lo + k))
  unfold incW; rw [if_pos hs, ← h]; exact hw
theorem aw_n {day rgt : Nat → Int32} {t v w x : Int32} {lo k k' : Nat} (h : v = agW day rgt t lo k) (hs : ¬ (if sayW t (day x.toNatClampNeg) then (1 : Int32) else 0) = rgt x.toNatClampNeg) (hx : x.toInt = ((lo + k : Nat) : Int)) (hw : w = v + 0) (hk : k' = k + 1) : w = agW day rgt t lo k' := by
  subst hk
  rw [show x.toNatClampNeg = lo + k by rw [clC hx]; omega] at hs
  show w = agW day rgt t lo k + incW t (day (lo + k)) (rgt (lo + k))
  unfold incW; rw [if_neg hs, ← h]; exact hw
theorem aw_e {day rgt : Nat → Int32} {t v : Int32} {lo k lo' k' : Nat} (h : v = agW day rgt t lo k) (e1 : lo' = lo) (e : k' = k) : v = agW day rgt t lo' k' := by subst e; subst e1; exact h
theorem aw_same {day rgt day2 rgt2 : Nat → Int32} {t : Int32} {lo : Nat} : ∀ n : Nat, (∀ k : Nat, k < n → day2 (lo + k) = day (lo + k) ∧ rgt2 (lo + k) = rgt (lo + k)) → agW day2 rgt2 t lo n = agW day rgt t lo n
  | 0, _ => rfl
  | k + 1, h => by
    show agW day2 rgt2 t lo k + incW t (day2 (lo + k)) (rgt2 (lo + k)) = agW day rgt t lo k + incW t (day (lo + k)) (rgt (lo + k))
    rw [aw_same k (fun q hq => h q (by omega)), (h k (by omega)).1, (h k (by omega)).2]
def puR (g0 g1 g2 g3 : Nat → Int32) (an day rgt : Nat → Int32) : Prop := ∀ q : Nat, q < 4 → ∀ t : Nat, t < 81 → gF g0 g1 g2 g3 q t = agW day rgt (nI t) (12 * q) (an q).toInt.toNat
theorem pu_init {g0 g1 g2 g3 an day rgt : Nat → Int32} (h0 : g0 = fun _ => 0) (h1 : g1 = fun _ => 0) (h2 : g2 = fun _ => 0) (h3 : g3 = fun _ => 0) (ha : an = fun _ => 0) : puR g0 g1 g2 g3 an day rgt := by
  subst h0; subst h1; subst h2; subst h3; subst ha
  intro q hq t ht
  match q, hq with
  | 0, _ => rfl
  | 1, _ => rfl
  | 2, _ => rfl
  | 3, _ => rfl
  | k + 4, hq => omega
theorem spPup_rel {g0 g1 g2 g3 an day rgt : Nat → Int32} {a0 a1 a2 a3 p w r r2 : Int32} (R : puR g0 g1 g2 g3 an day rgt) (Ra : ∀ j, j < 4 → aF a0 a1 a2 a3 j = an j) (h1 : spPup (gF g0 g1 g2 g3 p.toNatClampNeg) (aF a0 a1 a2 a3 p.toNatClampNeg) 82 p w r) (h2 : spPup (fun t => agW day rgt (nI t) (12 * p.toInt).toNat (an p.toNatClampNeg).toInt.toNat) (an p.toNatClampNeg) 1000 p w r2) : r = r2 := by
  rcases h1 with ⟨a, b⟩ | ⟨a, b⟩
  · rcases h2 with ⟨_, d⟩ | ⟨c, _⟩
    · rw [b, d]
    · exfalso; omega
  · rcases h2 with ⟨c, _⟩ | ⟨_, d⟩
    · exfalso; omega
    · have p4 : p.toNatClampNeg < 4 := by rw [clC (x := p) rfl]; omega
      have e : ∀ t, t < 81 → gF g0 g1 g2 g3 p.toNatClampNeg t = (fun t => agW day rgt (nI t) (12 * p.toInt).toNat (an p.toNatClampNeg).toInt.toNat) t := by
        intro t ht
        show _ = agW day rgt (nI t) (12 * p.toInt).toNat (an p.toNatClampNeg).toInt.toNat
        rw [R _ p4 t ht, show 12 * p.toNatClampNeg = (12 * p.toInt).toNat by rw [clC (x := p) rfl]; omega]
      rw [Ra _ p4, mayF_eq e 81 (by omega), lkF_eq e 80 (by omega), dpF_eq e] at b
      have l := lk_le (g := fun t => agW day rgt (nI t) (12 * p.toInt).toNat (an p.toNatClampNeg).toInt.toNat) 80
      rw [e _ (by omega)] at b
      rcases b with ⟨x, b⟩ | ⟨x, b⟩ | ⟨x, b⟩ | ⟨x, b⟩ | ⟨x, b⟩ <;> rcases d with ⟨y, d⟩ | ⟨y, d⟩ | ⟨y, d⟩ | ⟨y, d⟩ | ⟨y, d⟩ <;> first | (exfalso; omega) | exact Int32.toInt_inj.mp (b.trans d.symm) | exact b.trans d.symm
def anC (g g' : Nat → Nat → Int32) (p d ri r : Int32) : Prop := (r.toInt < 0 ∧ ∀ q : Nat, q < 4 → ∀ t : Nat, t < 81 → g' q t = g q t) ∨ (0 ≤ r.toInt ∧ ∀ q : Nat, q < 4 → ∀ t : Nat, t < 81 → g' q t = if q = p.toNatClampNeg then g q t + incW (nI t) d ri else g q t)
def spAnC (A : Nat → Int32) (g : Nat → Nat → Int32) (p d ri r : Int32) (A' : Nat → Int32) (g' : Nat → Nat → Int32) : Prop := spAns A p d r A' ∧ anC g g' p d ri r
def spAnM (A day rgt : Nat → Int32) (p d ri r : Int32) (A' day' rgt' : Nat → Int32) : Prop := spAns A p d r A' ∧ ((r.toInt < 0 ∧ day' = day ∧ rgt' = rgt) ∨ (0 ≤ r.toInt ∧ day' = upd day (12 * p.toInt + (A p.toNatClampNeg).toInt).toNat d ∧ rgt' = upd rgt (12 * p.toInt + (A p.toNatClampNeg).toInt).toNat (vp_nar .boolean ri)))
theorem an_u0 {g0 g1 g2 g3 z : Nat → Int32} {d ri r : Int32} (hr : 0 ≤ r.toInt) (h : ∀ j : Nat, j < 81 → z j = g0 j + incW (nI j) d ri) : anC (gF g0 g1 g2 g3) (gF z g1 g2 g3) 0 d ri r := by
  refine .inr ⟨hr, fun q hq t ht => ?_⟩
  match q, hq with
  | 0, _ => exact h t ht
  | 1, _ => rfl
  | 2, _ => rfl
  | 3, _ => rfl
  | k + 4, hq => omega
theorem an_u1 {g0 g1 g2 g3 z : Nat → Int32} {d ri r : Int32} (hr : 0 ≤ r.toInt) (h : ∀ j : Nat, j < 81 → z j = g1 j + incW (nI j) d ri) : anC (gF g0 g1 g2 g3) (gF g0 z g2 g3) 1 d ri r := by
  refine .inr ⟨hr, fun q hq t ht => ?_⟩
  match q, hq with
  | 0, _ => rfl
  | 1, _ => exact h t ht
  | 2, _ => rfl
  | 3, _ => rfl
  | k + 4, hq => omega
theorem an_u2 {g0 g1 g2 g3 z : Nat → Int32} {d ri r : Int32} (hr : 0 ≤ r.toInt) (h : ∀ j : Nat, j < 81 → z j = g2 j + incW (nI j) d ri) : anC (gF g0 g1 g2 g3) (gF g0 g1 z g3) 2 d ri r := by
  refine .inr ⟨hr, fun q hq t ht => ?_⟩
  match q, hq with
  | 0, _ => rfl
  | 1, _ => rfl
  | 2, _ => exact h t ht
  | 3, _ => rfl
  | k + 4, hq => omega
theorem an_u3 {g0 g1 g2 g3 z : Nat → Int32} {d ri r : Int32} (hr : 0 ≤ r.toInt) (h : ∀ j : Nat, j < 81 → z j = g3 j + incW (nI j) d ri) : anC (gF g0 g1 g2 g3) (gF g0 g1 g2 z) 3 d ri r := by
  refine .inr ⟨hr, fun q hq t ht => ?_⟩
  match q, hq with
  | 0, _ => rfl
  | 1, _ => rfl
  | 2, _ => rfl
  | 3, _ => exact h t ht
  | k + 4, hq => omega
theorem spAn_rel {g0 g1 g2 g3 z0 z1 z2 z3 an day rgt an' day' rgt' : Nat → Int32} {a0 a1 a2 a3 b0 b1 b2 b3 p d ri r r2 : Int32} (R : puR g0 g1 g2 g3 an day rgt) (Ra : ∀ j, j < 4 → aF a0 a1 a2 a3 j = an j) (hr : rg 4 0 12 an) (hri : ri = 0 ∨ ri = 1) (h1 : spAnC (aF a0 a1 a2 a3) (gF g0 g1 g2 g3) p d ri r (aF b0 b1 b2 b3) (gF z0 z1 z2 z3)) (h2 : spAnM an day rgt p d ri r2 an' day' rgt') (hd : r = r2 ∧ ∀ j, j < 4 → aF b0 b1 b2 b3 j = an' j) : puR z0 z1 z2 z3 an' day' rgt' := by
  have er := hd.1
  subst er
  have nb : vp_nar .boolean ri = ri := by rcases hri with h | h <;> rw [h] <;> rfl
  rcases h1.2 with ⟨c, e⟩ | ⟨c, e⟩
  · rcases h2.2 with ⟨_, e1, e2⟩ | ⟨c2, _⟩
    · have ea : an' = an := by
        rcases h2.1 with q | q | q | q
        · exact q.2.2
        · exact q.2.2.2
        · exact q.2.2.2.2
        · exfalso
          have p4 : p.toNatClampNeg < 4 := by rw [clC (x := p) rfl]; omega
          have k := hr _ p4
          have := q.2.2.2.1
          rw [this, addC rfl (show ((1 : Int32)).toInt = 1 from rfl) (by omega) (by omega)] at c
          omega
      intro q hq t ht
      rw [e q hq t ht, e1, e2, ea]; exact R q hq t ht
    · exfalso; omega
  · rcases h2.2 with ⟨c2, _⟩ | ⟨_, e1, e2⟩
    · exfalso; omega
    · have ok : (0 ≤ p.toInt ∧ p.toInt ≤ 3) ∧ (an p.toNatClampNeg).toInt < 12 ∧ an' = upd an p.toNatClampNeg (an p.toNatClampNeg + 1) := by
        rcases h2.1 with q | q | q | q
        · have := q.2.1; rw [this] at c; exact absurd c (by decide)
        · have := q.2.2.1; rw [this] at c; exact absurd c (by decide)
        · have := q.2.2.2.1; rw [this] at c; exact absurd c (by decide)
        · exact ⟨q.1, q.2.2.1, q.2.2.2.2⟩
      obtain ⟨o1, o2, o3⟩ := ok
      have p4 : p.toNatClampNeg < 4 := by rw [clC (x := p) rfl]; omega
      have ep := clC (x := p) rfl
      have kr := hr _ p4
      intro q hq t ht
      have kq := hr q hq
      rw [e q hq t ht]
      by_cases z : q = p.toNatClampNeg
      · subst z
        rw [if_pos rfl, R _ p4 t ht, o3, pk_us, addC rfl (show ((1 : Int32)).toInt = 1 from rfl) (by omega) (by omega), show ((an p.toNatClampNeg).toInt + 1).toNat = (an p.toNatClampNeg).toInt.toNat + 1 by omega]
        show _ = agW day' rgt' (nI t) (12 * p.toNatClampNeg) (an p.toNatClampNeg).toInt.toNat + incW (nI t) (day' (12 * p.toNatClampNeg + (an p.toNatClampNeg).toInt.toNat)) (rgt' (12 * p.toNatClampNeg + (an p.toNatClampNeg).toInt.toNat))
        rw [aw_same (day := day) (rgt := rgt) (day2 := day') (rgt2 := rgt') _ (fun k hk => by rw [e1, e2, pk_un (by omega), pk_un (by omega)]; exact ⟨rfl, rfl⟩), e1, e2, show 12 * p.toNatClampNeg + (an p.toNatClampNeg).toInt.toNat = (12 * p.toInt + (an p.toNatClampNeg).toInt).toNat by omega, pk_us, pk_us, nb]
      · rw [if_neg z, R q hq t ht, o3, pk_un z, aw_same (day := day) (rgt := rgt) (day2 := day') (rgt2 := rgt') _ (fun k hk => by rw [e1, e2, pk_un (by omega), pk_un (by omega)]; exact ⟨rfl, rfl⟩)]
theorem negC {a : Int32} {A : Int} (ha : a.toInt = A) (h1 : -2147483648 ≤ -A) (h2 : -A ≤ 2147483647) : (-a).toInt = -A := by
  subst ha
  rw [Int32.toInt_neg]; exact ka_bmod h1 h2
theorem gg_at {day rgt : Nat → Int32} {y r : Int32} {lo n : Nat} (h : r = agW day rgt y lo n) (h0 : 0 ≤ y.toInt) : (fun t => agW day rgt (nI t) lo n) y.toNatClampNeg = r := by
  show agW day rgt (nI y.toNatClampNeg) lo n = r
  rw [clC (x := y) rfl, nI_toNat h0]; exact h.symm
theorem rn_of {day rgt : Nat → Int32} {t r : Int32} {lo n : Nat} (h : r = agW day rgt t lo n) (hn : n ≤ 12) : 0 ≤ r.toInt := by rw [h]; exact (aw_rg n hn).1
theorem my_sG {G : Nat → Int32} {a o r : Int32} {L R : Int} {N N' : Nat} (h : L = mayF G a N) (hg : G o.toNatClampNeg = r) (ho : o.toNatClampNeg = N) (hR : (r = a ∧ R = L + 1) ∨ (¬ r = a ∧ R = L + 0)) (hN : N' = N + 1) : R = mayF G a N' :=
  my_s h ho (by rw [hg]; exact hR.imp id (fun q => ⟨q.1, by omega⟩)) hN
def ppI (G : Nat → Int32) (i b : Int) (m : Int32) : Prop := (i = 0 ∧ b = 0 ∧ m = -1) ∨ (0 < i ∧ b = ((lkF G (i - 1).toNat : Nat) : Int) ∧ m = G (lkF G (i - 1).toNat))
theorem pp_0 {G : Nat → Int32} {i b : Int} {m : Int32} (hi : i = 0) (hb : b = 0) (hm : m = -1) : ppI G i b m := .inl ⟨hi, hb, hm⟩
theorem pp_y {G : Nat → Int32} {i b : Int} {m y r : Int32} (q : ppI G y.toInt b m) (hg : G y.toNatClampNeg = r) (h0 : 0 ≤ y.toInt) (c : m.toInt < r.toInt) (hi : i = y.toInt + 1) : ppI G i y.toInt r := by
  subst hi
  rw [clC (x := y) rfl] at hg
  refine .inr ⟨by omega, ?_⟩
  rw [show (y.toInt + 1 - 1).toNat = y.toInt.toNat by omega]
  rcases q with ⟨a, _, _⟩ | ⟨a, _, e⟩
  · rw [show y.toInt.toNat = 0 by omega] at hg ⊢
    exact ⟨by show y.toInt = ((0 : Nat) : Int); omega, hg.symm⟩
  · have k : lkF G y.toInt.toNat = y.toInt.toNat := by
      rw [show y.toInt.toNat = (y.toInt - 1).toNat + 1 by omega]
      show (if (G (lkF G (y.toInt - 1).toNat)).toInt < (G ((y.toInt - 1).toNat + 1)).toInt then (y.toInt - 1).toNat + 1 else lkF G (y.toInt - 1).toNat) = (y.toInt - 1).toNat + 1
      rw [← e, show (y.toInt - 1).toNat + 1 = y.toInt.toNat by omega, hg, if_pos c]
    rw [k]; exact ⟨by omega, hg.symm⟩
theorem pp_n {G : Nat → Int32} {i b : Int} {m y r : Int32} (q : ppI G y.toInt b m) (hg : G y.toNatClampNeg = r) (h0 : 0 ≤ y.toInt) (rn : 0 ≤ r.toInt) (c : r.toInt ≤ m.toInt) (hi : i = y.toInt + 1) : ppI G i b m := by
  subst hi
  rw [clC (x := y) rfl] at hg
  rcases q with ⟨_, _, e⟩ | ⟨a, d, e⟩
  · rw [e, show ((-1 : Int32)).toInt = -1 from rfl] at c; omega
  · have k : lkF G y.toInt.toNat = lkF G (y.toInt - 1).toNat := by
      rw [show y.toInt.toNat = (y.toInt - 1).toNat + 1 by omega]
      show (if (G (lkF G (y.toInt - 1).toNat)).toInt < (G ((y.toInt - 1).toNat + 1)).toInt then (y.toInt - 1).toNat + 1 else lkF G (y.toInt - 1).toNat) = lkF G (y.toInt - 1).toNat
      rw [← e, show (y.toInt - 1).toNat + 1 = y.toInt.toNat by omega, hg, if_neg (by omega)]
    refine .inr ⟨by omega, ?_⟩
    rw [show (y.toInt + 1 - 1).toNat = y.toInt.toNat by omega, k]; exact ⟨d, e⟩
theorem pp_e {G : Nat → Int32} {i b : Int} {m : Int32} (q : ppI G i b m) (hi : i = 81) : b = ((lkF G 80 : Nat) : Int) ∧ m = G (lkF G 80) := by
  subst hi
  rcases q with ⟨a, _, _⟩ | ⟨_, d, e⟩
  · omega
  · exact ⟨d, e⟩
theorem un_sG {G : Nat → Int32} {a d o f : Int32} {L R : Int} {N N' : Nat} (h : L = unF G a d N) (hf : (f = 1 ∧ G o.toNatClampNeg = a) ∨ (f = 0 ∧ ¬ G o.toNatClampNeg = a)) (ho : o.toInt = N) (hR : (¬ f = 0 ∧ ((sayW o d = true ∧ R = L + 1) ∨ (sayW o d = false ∧ R = L - 1))) ∨ (f = 0 ∧ R = L)) (hN : N' = N + 1) : R = unF G a d N' := by
  refine un_s h ho ?_ hN
  rcases hf with ⟨x, y⟩ | ⟨x, y⟩
  · rcases hR with z | z
    · exact .inl ⟨y, z.2⟩
    · rw [x] at z; exact absurd z.1 (by decide)
  · rcases hR with z | z
    · exact absurd x z.1
    · exact .inr ⟨y, z.2⟩
theorem my_sF {G : Nat → Int32} {a o f : Int32} {B L R : Int} {N N' : Nat} (h : L = B + mayF G a N) (hf : (f = 1 ∧ G o.toNatClampNeg = a) ∨ (f = 0 ∧ ¬ G o.toNatClampNeg = a)) (ho : o.toNatClampNeg = N) (hR : (¬ f = 0 ∧ R = L + 1) ∨ (f = 0 ∧ R = L)) (hN : N' = N + 1) : R = B + mayF G a N' := by
  have k : R - B = mayF G a N' := by
    refine my_s (L := L - B) (by omega) ho ?_ hN
    rcases hf with ⟨x, y⟩ | ⟨x, y⟩
    · rcases hR with z | z
      · exact .inl ⟨y, by omega⟩
      · rw [x] at z; exact absurd z.1 (by decide)
    · rcases hR with z | z
      · exact absurd x z.1
      · exact .inr ⟨y, by omega⟩
  omega
theorem may_rg {g : Nat → Int32} {a : Int32} : ∀ k : Nat, 0 ≤ mayF g a k ∧ mayF g a k ≤ k
  | 0 => ⟨Int.le_refl 0, Int.le_refl 0⟩
  | k + 1 => by
    have := may_rg (g := g) (a := a) k
    show 0 ≤ mayF g a k + (if g k = a then 1 else 0) ∧ mayF g a k + (if g k = a then 1 else 0) ≤ ((k + 1 : Nat) : Int)
    by_cases c : g k = a
    · rw [if_pos c]; omega
    · rw [if_neg c]; omega
/-- any: nothing may be, or no day has been asked -/
def anI (any d M : Int) : Prop := 0 ≤ any ∧ any ≤ 81 * (d - 1) ∧ (any = 0 ↔ (d = 1 ∨ M = 0))
theorem ay_0 {any d M : Int} (h : any = 0) (hd : d = 1) : anI any d M := ⟨by omega, by omega, ⟨fun _ => .inl hd, fun _ => h⟩⟩
theorem ay_s {G : Nat → Int32} {a : Int32} {any d any' d' : Int} {k : Nat} (q : anI any d (mayF G a 81)) (h : any' = any + mayF G a k) (hk : k = 81) (h1 : 1 ≤ d) (hd : d' = d + 1) : anI any' d' (mayF G a 81) := by
  subst hk
  have m := may_rg (g := G) (a := a) 81
  obtain ⟨q1, q2, q3⟩ := q
  refine ⟨by omega, by omega, ⟨fun z => .inr (by omega), fun z => ?_⟩⟩
  rcases z with z | z
  · omega
  · have := q3.mpr (.inr z); omega
theorem ay_e {any d M : Int} (q : anI any d M) (hd : d = 61) : (any = 0 ↔ M = 0) := by
  obtain ⟨_, _, q3⟩ := q
  rw [q3]; exact ⟨fun z => by omega, fun z => .inr z⟩
theorem an_ix {f g : Nat → Int32} {x v : Int32} {X : Int} (e : g = upd f x.toNatClampNeg v) (h : x.toInt = X) : g = upd f X.toNat v := by rw [← clC h]; exact e
theorem cast70 {G : Nat → Int32} {a : Int32} {L B : Int} {k k' : Nat} (h : L = B + mayF G a k) (e : k' = k) : L = B + mayF G a k' := by subst e; exact h
theorem cast99 {G : Nat → Int32} {a d : Int32} {L : Int} {k k' : Nat} (h : L = unF G a d k) (e : k' = k) : L = unF G a d k' := by subst e; exact h
theorem cast0 {G : Nat → Int32} {a : Int32} {L : Int} {k k' : Nat} (h : L = mayF G a k) (e : k' = k) : L = mayF G a k' := by subst e; exact h
set_option maxHeartbeats 4000000 in
set_option maxRecDepth 100000 in
theorem k_X4_lossOf2 (l : Launch) (dC : Nat → ClassId) (dI : Nat → Nat → Nat) (cI cZ cQ : ClassId) (tb : Int32) (q0 : 0 ≤ tb.toInt) (q1 : tb.toInt ≤ 80) : KR l yX4_lossOf wsX4_lossOf { frames := 0, cells := 0, slots := 0, locals := 0 } (dC, dI) (TY cI cZ cQ) (wNil cI cZ cQ) [.int tb] (fun r : Int32 => (1 ≤ r.toInt) ∧ (r.toInt ≤ 9) ∧ (r = tb / 9 + 1) ∧ (r.toInt = tb.toInt / 9 + 1)) := by
  refine Met.ofW (cc := cX4_lossOf) (maxL := 1) (ret := (some .int)) (by decide) rfl ?_
  intro p e s m args below meth c s₁ B hml hv
  obtain ⟨rfl, hP, hK, hN⟩ := hv
  have hx := B.exec
  have hb := B.bytes
  have hr := B.returns
  have hts := atoms_spec (ws := wsX4_lossOf) B.pre
  have hown : s.vm.findClass RX4 = some m.cls := findClass_of_methodNamed B.named
  have hlocks := B.notSynchronized
  have hl := lv_entry ([.int tb]) (n := 1) (Nat.le_of_ble_eq_true rfl)
  rw [lg_entry_eq]
  generalize (lg_sl ([.int tb]) ++ List.replicate (1 - (lg_sl ([.int tb])).length) Slot.unset).toArray = ls at hl ⊢
  have hl : lv_has ls 1 [(0, .int tb)] := hl
  refine lv_iload_n hx hb dX4_lossOf_0 rfl (lv_at hl 0 rfl) ?_
  refine lv_bipush (v := 9) hx hb dX4_lossOf_1 (by decide) ?_
  refine lv_idiv hx hb dX4_lossOf_3 (by decide) ?_
  have f1 : (tb / 9).toInt = (tb.toInt) / (9) := divC rfl (show (9 : Int32).toInt = 9 from rfl) (by omega) (by omega)
  refine lv_iconst (v := 1) hx hb dX4_lossOf_4 (by decide) ?_
  refine lv_iadd hx hb dX4_lossOf_5 ?_
  have f2 : ((tb / 9) + 1).toInt = ((tb.toInt) / (9)) + (1) := addC f1 (show (1 : Int32).toInt = 1 from rfl) (by omega) (by omega)
  exact W.iret (v := (tb / 9) + 1) hx hb hr (fun tq ht hW => ⟨(tb / 9) + 1, rfl, ⟨(show 1 ≤ ((tb / 9) + 1).toInt from by (try rw [show ((tb / 9) + 1).toInt = ((tb.toInt) / (9)) + (1) from f2]); omega), (show ((tb / 9) + 1).toInt ≤ 9 from by (try rw [show ((tb / 9) + 1).toInt = ((tb.toInt) / (9)) + (1) from f2]); omega), (show ((tb / 9) + 1) = tb / 9 + 1 from by (try rw [show ((tb / 9) + 1).toInt = ((tb.toInt) / (9)) + (1) from f2]); rfl), (show ((tb / 9) + 1).toInt = tb.toInt / 9 + 1 from by (try rw [show ((tb / 9) + 1).toInt = ((tb.toInt) / (9)) + (1) from f2]); (first | done | omega))⟩, ht⟩) (fun q h => by cases h) dX4_lossOf_6
set_option maxHeartbeats 4000000 in
set_option maxRecDepth 100000 in
theorem k_X4_limitOf2 (l : Launch) (dC : Nat → ClassId) (dI : Nat → Nat → Nat) (cI cZ cQ : ClassId) (tb : Int32) (q0 : 0 ≤ tb.toInt) (q1 : tb.toInt ≤ 80) : KR l yX4_limitOf wsX4_limitOf { frames := 0, cells := 0, slots := 0, locals := 0 } (dC, dI) (TY cI cZ cQ) (wNil cI cZ cQ) [.int tb] (fun r : Int32 => (10 ≤ r.toInt) ∧ (r.toInt ≤ 90) ∧ (r = (tb - tb / 9 * 9 + 1) * 10) ∧ (r.toInt = (tb.toInt % 9 + 1) * 10)) := by
  refine Met.ofW (cc := cX4_limitOf) (maxL := 1) (ret := (some .int)) (by decide) rfl ?_
  intro p e s m args below meth c s₁ B hml hv
  obtain ⟨rfl, hP, hK, hN⟩ := hv
  have hx := B.exec
  have hb := B.bytes
  have hr := B.returns
  have hts := atoms_spec (ws := wsX4_limitOf) B.pre
  have hown : s.vm.findClass RX4 = some m.cls := findClass_of_methodNamed B.named
  have hlocks := B.notSynchronized
  have hl := lv_entry ([.int tb]) (n := 1) (Nat.le_of_ble_eq_true rfl)
  rw [lg_entry_eq]
  generalize (lg_sl ([.int tb]) ++ List.replicate (1 - (lg_sl ([.int tb])).length) Slot.unset).toArray = ls at hl ⊢
  have hl : lv_has ls 1 [(0, .int tb)] := hl
  refine lv_iload_n hx hb dX4_limitOf_0 rfl (lv_at hl 0 rfl) ?_
  refine lv_bipush (v := 9) hx hb dX4_limitOf_1 (by decide) ?_
  refine lv_irem hx hb dX4_limitOf_3 (by decide) ?_
  have f1 : (tb - tb / 9 * 9).toInt = (tb.toInt) % (9) := remC rfl (show (9 : Int32).toInt = 9 from rfl) (by omega) (by omega)
  refine lv_iconst (v := 1) hx hb dX4_limitOf_4 (by decide) ?_
  refine lv_iadd hx hb dX4_limitOf_5 ?_
  have f2 : ((tb - tb / 9 * 9) + 1).toInt = ((tb.toInt) % (9)) + (1) := addC f1 (show (1 : Int32).toInt = 1 from rfl) (by omega) (by omega)
  refine lv_bipush (v := 10) hx hb dX4_limitOf_6 (by decide) ?_
  refine lv_imul hx hb dX4_limitOf_8 ?_
  have f3 : (((tb - tb / 9 * 9) + 1) * 10).toInt = (((tb.toInt) % (9)) + (1)) * (10) := mulC f2 (show (10 : Int32).toInt = 10 from rfl) (by omega) (by omega)
  exact W.iret (v := ((tb - tb / 9 * 9) + 1) * 10) hx hb hr (fun tq ht hW => ⟨((tb - tb / 9 * 9) + 1) * 10, rfl, ⟨(show 10 ≤ (((tb - tb / 9 * 9) + 1) * 10).toInt from by (try rw [show (((tb - tb / 9 * 9) + 1) * 10).toInt = (((tb.toInt) % (9)) + (1)) * (10) from f3]); omega), (show (((tb - tb / 9 * 9) + 1) * 10).toInt ≤ 90 from by (try rw [show (((tb - tb / 9 * 9) + 1) * 10).toInt = (((tb.toInt) % (9)) + (1)) * (10) from f3]); omega), (show (((tb - tb / 9 * 9) + 1) * 10) = (tb - tb / 9 * 9 + 1) * 10 from by (try rw [show (((tb - tb / 9 * 9) + 1) * 10).toInt = (((tb.toInt) % (9)) + (1)) * (10) from f3]); rfl), (show (((tb - tb / 9 * 9) + 1) * 10).toInt = (tb.toInt % 9 + 1) * 10 from by (try rw [show (((tb - tb / 9 * 9) + 1) * 10).toInt = (((tb.toInt) % (9)) + (1)) * (10) from f3]); (first | done | omega))⟩, ht⟩) (fun q h => by cases h) dX4_limitOf_9
set_option maxHeartbeats 4000000 in
set_option maxRecDepth 100000 in
theorem k_X4_saysRight2 (l : Launch) (dC : Nat → ClassId) (dI : Nat → Nat → Nat) (cI cZ cQ : ClassId) (tb : Int32) (dd : Int32) (q0 : 0 ≤ tb.toInt) (q1 : tb.toInt ≤ 80) (q2 : 1 ≤ dd.toInt) (q3 : dd.toInt ≤ 60) : KR l yX4_saysRight wsX4_saysRight { frames := 1, cells := 0, slots := 0, locals := 20 } (dC, dI) (TY cI cZ cQ) (wNil cI cZ cQ) [.int tb, .int dd] (fun r : Int32 => ((((r = 1) ∧ (sayW tb dd = true)) ∨ ((r = 0) ∧ (sayW tb dd = false))))) := by
  refine Met.ofW (cc := cX4_saysRight) (maxL := 2) (ret := (some .boolean)) (by decide) rfl ?_
  intro p e s m args below meth c s₁ B hml hv
  obtain ⟨rfl, hP, hK, hN⟩ := hv
  have hx := B.exec
  have hb := B.bytes
  have hr := B.returns
  have hts := atoms_spec (ws := wsX4_saysRight) B.pre
  have hown : s.vm.findClass RX4 = some m.cls := findClass_of_methodNamed B.named
  have hlocks := B.notSynchronized
  have hl := lv_entry ([.int tb, .int dd]) (n := 2) (Nat.le_of_ble_eq_true rfl)
  rw [lg_entry_eq]
  generalize (lg_sl ([.int tb, .int dd]) ++ List.replicate (2 - (lg_sl ([.int tb, .int dd])).length) Slot.unset).toArray = ls at hl ⊢
  have hl : lv_has ls 2 [(0, .int tb), (1, .int dd)] := hl
  refine lv_bipush (v := 100) hx hb dX4_saysRight_0 (by decide) ?_
  refine lv_iload_n hx hb dX4_saysRight_2 rfl (lv_at hl 0 rfl) ?_
  refine rdS (As := [.int tb]) (rest := [.int 100]) ⟨hx, hb, hml, hown, hts⟩ (k_X4_lossOf2 l dC dI cI cZ cQ tb (by omega) (by omega)) (va_cwS 1 hts gX4_saysRight_X4_lossOf rfl rfl rfl (by decide +kernel) ⟨Nat.le_of_ble_eq_true rfl, Nat.le_of_ble_eq_true rfl⟩) hP hK hN [] rfl rfl hl.1 rfl (Nat.le_of_ble_eq_true rfl) dX4_saysRight_3 ⟨Nat.le_of_ble_eq_true rfl, Nat.le_of_ble_eq_true rfl⟩ (fun r1 h2 => ?_)
  have h2 : (1 ≤ r1.toInt) ∧ (r1.toInt ≤ 9) ∧ (r1 = tb / 9 + 1) ∧ (r1.toInt = tb.toInt / 9 + 1) := h2
  obtain ⟨h2_0, h2_1, h2_2, h2_3⟩ := h2
  refine lv_iload_n hx hb dX4_saysRight_6 rfl (lv_at hl 1 rfl) ?_
  refine lv_imul hx hb dX4_saysRight_7 ?_
  obtain ⟨f3, f3_1, f3_2⟩ := mulB (a := r1) (b := dd) (A := r1.toInt) (B := dd.toInt) (p := 9) (q := 60) rfl rfl (by omega) (by omega) (by omega) (by omega) (by decide)
  refine lv_isub hx hb dX4_saysRight_8 ?_
  have f4 : (100 - (r1 * dd)).toInt = (100) - ((r1.toInt) * (dd.toInt)) := subC (show (100 : Int32).toInt = 100 from rfl) f3 (by omega) (by omega)
  refine lv_iload_n hx hb dX4_saysRight_9 rfl (lv_at hl 0 rfl) ?_
  refine rdS (As := [.int tb]) (rest := [.int (100 - (r1 * dd))]) ⟨hx, hb, hml, hown, hts⟩ (k_X4_limitOf2 l dC dI cI cZ cQ tb (by omega) (by omega)) (va_cwS 1 hts gX4_saysRight_X4_limitOf rfl rfl rfl (by decide +kernel) ⟨Nat.le_of_ble_eq_true rfl, Nat.le_of_ble_eq_true rfl⟩) hP hK hN [] rfl rfl hl.1 rfl (Nat.le_of_ble_eq_true rfl) dX4_saysRight_10 ⟨Nat.le_of_ble_eq_true rfl, Nat.le_of_ble_eq_true rfl⟩ (fun r5 h6 => ?_)
  have h6 : (10 ≤ r5.toInt) ∧ (r5.toInt ≤ 90) ∧ (r5 = (tb - tb / 9 * 9 + 1) * 10) ∧ (r5.toInt = (tb.toInt % 9 + 1) * 10) := h6
  obtain ⟨h6_0, h6_1, h6_2, h6_3⟩ := h6
  refine lv_icmp_lt (tgt := 20) hx hb dX4_saysRight_13 (by decide) (fun c7 => ?_) (fun c7 => ?_)
  · have dc7 : (100) - ((r1.toInt) * (dd.toInt)) < r5.toInt := ltC f4 rfl c7
    refine lv_iconst (v := 0) hx hb dX4_saysRight_20 (by decide) ?_
    exact W.zret (v := 0) hx hb hr (by decide) (fun tq ht hW => ⟨0, rfl, (Or.inr (⟨rfl, (show sayW tb dd = false from by (try rw [show (0 : Int32).toInt = 0 from (show (0 : Int32).toInt = 0 from rfl)]); (first | exact sw_t (by assumption) (by assumption) (by assumption) | exact sw_f (by assumption) (by assumption) (by assumption)))⟩)), ht⟩) (fun q h => by cases h) dX4_saysRight_21
  · have dc7 : r5.toInt ≤ (100) - ((r1.toInt) * (dd.toInt)) := nltC f4 rfl c7
    refine lv_iconst (v := 1) hx hb dX4_saysRight_16 (by decide) ?_
    refine lv_goto (tgt := 21) hx hb dX4_saysRight_17 (by decide) ?_
    exact W.zret (v := 1) hx hb hr (by decide) (fun tq ht hW => ⟨1, rfl, (Or.inl (⟨rfl, (show sayW tb dd = true from by (try rw [show (1 : Int32).toInt = 1 from (show (1 : Int32).toInt = 1 from rfl)]); (first | exact sw_t (by assumption) (by assumption) (by assumption) | exact sw_f (by assumption) (by assumption) (by assumption)))⟩)), ht⟩) (fun q h => by cases h) dX4_saysRight_21
