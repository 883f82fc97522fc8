-- ===== PUPILS =====
def sayW (t d : Int32) : Bool := decide (¬ 100 - (t / 9 + 1) * d < (t - t / 9 * 9 + 1) * 10)
def incW (t d ri : Int32) : Int32 := if (if sayW t d then (1 : Int32) else 0) = ri then 1 else 0
theorem sw_t {t d r1 r2 : Int32} (h1 : r1 = t / 9 + 1) (h2 : r2 = (t - t / 9 * 9 + 1) * 10) (c : ¬ 100 - r1 * d < r2) : sayW t d = true := by subst h1; subst h2; exact decide_eq_true c
theorem sw_f {t d r1 r2 : Int32} (h1 : r1 = t / 9 + 1) (h2 : r2 = (t - t / 9 * 9 + 1) * 10) (c : 100 - r1 * d < r2) : sayW t d = false := by subst h1; subst h2; exact decide_eq_false (fun q => q c)
theorem sw_tM {t d : Int32} (c : ¬ 100 - (t / 9 + 1) * d < 10 * (t - t / 9 * 9 + 1)) : sayW t d = true := by rw [Int32.mul_comm 10] at c; exact decide_eq_true c
theorem sw_fM {t d : Int32} (c : 100 - (t / 9 + 1) * d < 10 * (t - t / 9 * 9 + 1)) : sayW t d = false := by rw [Int32.mul_comm 10] at c; exact decide_eq_false (fun q => q c)
theorem sw1 {t d ri : Int32} (h : sayW t d = true) (c : (1 : Int32) = ri) : (if sayW t d then (1 : Int32) else 0) = ri := by rw [h, if_pos rfl]; exact c
theorem sw0 {t d ri : Int32} (h : sayW t d = false) (c : (0 : Int32) = ri) : (if sayW t d then (1 : Int32) else 0) = ri := by rw [h, if_neg (by decide)]; exact c
theorem nw1 {t d ri : Int32} (h : sayW t d = true) (c : ¬ (1 : Int32) = ri) : ¬ (if sayW t d then (1 : Int32) else 0) = ri := by rw [h, if_pos rfl]; exact c
theorem nw0 {t d ri : Int32} (h : sayW t d = false) (c : ¬ (0 : Int32) = ri) : ¬ (if sayW t d then (1 : Int32) else 0) = ri := by rw [h, if_neg (by decide)]; exact c
def ntI (g : Nat → Int32) (d ri : Int32) (i : Int) (g' : Nat → Int32) : Prop := ∀ j : Nat, j < 81 → ((j : Int) < i → g' j = g j + incW (nI j) d ri) ∧ (i ≤ j → g' j = g j)
theorem nt_0 {g : Nat → Int32} {d ri : Int32} {i : Int} (hi : i = 0) : ntI g d ri i g := fun j _ => ⟨fun q => by omega, fun _ => rfl⟩
theorem nt_y {g g1 g2 : Nat → Int32} {d ri y v : Int32} {i : Int} (q : ntI g d ri y.toInt g1) (e : g2 = upd g1 y.toNatClampNeg v) (hv : v = g1 y.toNatClampNeg + 1) (hs : (if sayW y d then (1 : Int32) else 0) = ri) (h0 : 0 ≤ y.toInt) (h1 : y.toInt < 81) (hi : i = y.toInt + 1) : ntI g d ri i g2 := by
  subst hi; subst e
  have ey := clC (x := y) rfl
  have w0 := (q y.toNatClampNeg (by omega)).2 (by omega)
  intro j hj
  by_cases c : j = y.toNatClampNeg
  · subst c
    refine ⟨fun _ => ?_, fun z => by omega⟩
    rw [pk_us, hv, w0, ey, nI_toNat h0]
    unfold incW
    rw [if_pos hs]
  · rw [pk_un c]; exact ⟨fun z => (q j hj).1 (by omega), fun z => (q j hj).2 (by omega)⟩
theorem nt_n {g g1 : Nat → Int32} {d ri y : Int32} {i : Int} (q : ntI g d ri y.toInt g1) (hs : ¬ (if sayW y d then (1 : Int32) else 0) = ri) (h0 : 0 ≤ y.toInt) (h1 : y.toInt < 81) (hi : i = y.toInt + 1) : ntI g d ri i g1 := by
  subst hi
  have ey := clC (x := y) rfl
  have w0 := (q y.toNatClampNeg (by omega)).2 (by omega)
  intro j hj
  by_cases c : j = y.toNatClampNeg
  · subst c
    refine ⟨fun _ => ?_, fun z => by omega⟩
    rw [w0, ey, nI_toNat h0]
    unfold incW
    rw [if_neg hs, Int32.add_zero]
  · exact ⟨fun z => (q j hj).1 (by omega), fun z => (q j hj).2 (by omega)⟩
def mayF (g : Nat → Int32) (a : Int32) : Nat → Int
  | 0 => 0
  | k + 1 => mayF g a k + (if g k = a then 1 else 0)
theorem my_0 {g : Nat → Int32} {a : Int32} {L : Int} {N : Nat} (hL : L = 0) (hN : N = 0) : L = mayF g a N := by subst hN; exact hL
theorem my_s {g : Nat → Int32} {a o : Int32} {L R : Int} {N N' : Nat} (h : L = mayF g a N) (ho : o.toNatClampNeg = N) (hR : (g o.toNatClampNeg = a ∧ R = L + 1) ∨ (¬ g o.toNatClampNeg = a ∧ R = L)) (hN : N' = N + 1) : R = mayF g a N' := by
  subst hN; rw [ho] at hR
  show R = mayF g a N + (if g N = a then 1 else 0)
  rcases hR with ⟨x, y⟩ | ⟨x, y⟩
  · rw [if_pos x, ← h]; exact y
  · rw [if_neg x, ← h]; omega
theorem my_e {g : Nat → Int32} {a : Int32} {L : Int} {N N' : Nat} (h : L = mayF g a N) (e : N' = N) : L = mayF g a N' := by subst e; exact h
def lkF (g : Nat → Int32) : Nat → Nat
  | 0 => 0
  | k + 1 => if (g (lkF g k)).toInt < (g (k + 1)).toInt then k + 1 else lkF g k
theorem lk_le {g : Nat → Int32} : ∀ k, lkF g k ≤ k
  | 0 => Nat.le_refl 0
  | k + 1 => by
    have := lk_le (g := g) k
    show (if (g (lkF g k)).toInt < (g (k + 1)).toInt then k + 1 else lkF g k) ≤ k + 1
    by_cases c : (g (lkF g k)).toInt < (g (k + 1)).toInt
    · rw [if_pos c]; omega
    · rw [if_neg c]; omega
theorem lk_0 {g : Nat → Int32} {y : Int} {k : Nat} (hy : y = 0) (hk : k = 0) : y = ((lkF g k : Nat) : Int) := by subst hk; exact hy
theorem lk_y {g : Nat → Int32} {x y : Int32} {k k' : Nat} (h : x.toInt = ((lkF g k : Nat) : Int)) (hy : y.toInt = (k : Int) + 1) (c : (g x.toNatClampNeg).toInt < (g y.toNatClampNeg).toInt) (hk : k' = k + 1) : y.toInt = ((lkF g k' : Nat) : Int) := by
  subst hk
  rw [clC h, clC hy, show (((lkF g k : Nat) : Int)).toNat = lkF g k by omega, show ((k : Int) + 1).toNat = k + 1 by omega] at c
  show y.toInt = (((if (g (lkF g k)).toInt < (g (k + 1)).toInt then k + 1 else lkF g k) : Nat) : Int)
  rw [if_pos c, hy]; rfl
theorem lk_n {g : Nat → Int32} {x y : Int32} {k k' : Nat} (h : x.toInt = ((lkF g k : Nat) : Int)) (hy : y.toInt = (k : Int) + 1) (c : (g y.toNatClampNeg).toInt ≤ (g x.toNatClampNeg).toInt) (hk : k' = k + 1) : x.toInt = ((lkF g k' : Nat) : Int) := by
  subst hk
  rw [clC h, clC hy, show (((lkF g k : Nat) : Int)).toNat = lkF g k by omega, show ((k : Int) + 1).toNat = k + 1 by omega] at c
  show x.toInt = (((if (g (lkF g k)).toInt < (g (k + 1)).toInt then k + 1 else lkF g k) : Nat) : Int)
  rw [if_neg (by omega), h]
theorem lk_e {g : Nat → Int32} {y : Int} {k k' : Nat} (h : y = ((lkF g k : Nat) : Int)) (e : k' = k) : y = ((lkF g k' : Nat) : Int) := by subst e; exact h
theorem ag_at {g : Nat → Int32} {x : Int32} {n : Nat} (h : x.toInt = ((n : Nat) : Int)) : g x.toNatClampNeg = g n := by rw [clC h]; rfl
def nmL (t : Nat) : Int := 100 * ((t : Int) / 9 + 1) + ((t : Int) % 9 + 1) * 10
def unF (g : Nat → Int32) (a d : Int32) : Nat → Int
  | 0 => 0
  | k + 1 => unF g a d k + (if g k = a then (if sayW (nI k) d then 1 else -1) else 0)
theorem un_0 {g : Nat → Int32} {a d : Int32} {L : Int} {N : Nat} (hL : L = 0) (hN : N = 0) : L = unF g a d N := by subst hN; exact hL
theorem un_s {g : Nat → Int32} {a d o : Int32} {L R : Int} {N N' : Nat} (h : L = unF g a d N) (ho : o.toInt = N) (hR : (g o.toNatClampNeg = a ∧ ((sayW o d = true ∧ R = L + 1) ∨ (sayW o d = false ∧ R = L - 1))) ∨ (¬ g o.toNatClampNeg = a ∧ R = L)) (hN : N' = N + 1) : R = unF g a d N' := by
  subst hN
  have eo : o = nI N := by
    have := nI_toNat (y := o) (by omega)
    rw [← this]; congr 1; omega
  have ec : o.toNatClampNeg = N := by rw [clC ho]; omega
  rw [ec, eo] at hR
  show R = unF g a d N + (if g N = a then (if sayW (nI N) d then 1 else -1) else 0)
  rcases hR with ⟨x, ⟨y, z⟩ | ⟨y, z⟩⟩ | ⟨x, z⟩
  · rw [if_pos x, y, if_pos rfl, ← h]; exact z
  · rw [if_pos x, y, if_neg (by decide), ← h]; omega
  · rw [if_neg x, ← h]; omega
def ofF (g : Nat → Int32) (a d : Int32) : Int := max (unF g a d 81) (-(unF g a d 81))
theorem of_e {g : Nat → Int32} {a d : Int32} {X Y : Int} {k : Nat} (h : Y = unF g a d k) (hk : k = 81) (hx : X = max Y (-Y)) : X = ofF g a d := by subst hk; unfold ofF; rw [← h]; exact hx
theorem ab_C {x y : Int32} (e : x = if 0 ≤ y then y else 0 - y) (h1 : -81 ≤ y.toInt) (h2 : y.toInt ≤ 81) : x.toInt = max y.toInt (-y.toInt) := by
  by_cases c : 0 ≤ y
  · rw [if_pos c] at e
    have := leC (show ((0 : Int32)).toInt = 0 from rfl) rfl c
    rw [e]; omega
  · rw [if_neg c] at e
    have := nleC (show ((0 : Int32)).toInt = 0 from rfl) rfl c
    rw [e, subC (show ((0 : Int32)).toInt = 0 from rfl) rfl (by omega) (by omega)]; omega
theorem un_rg {g : Nat → Int32} {a d : Int32} : ∀ k : Nat, -(k : Int) ≤ unF g a d k ∧ unF g a d k ≤ k
  | 0 => ⟨by show -((0 : Nat) : Int) ≤ 0; omega, Int.le_refl 0⟩
  | k + 1 => by
    have := un_rg (g := g) (a := a) (d := d) k
    show -((k + 1 : Nat) : Int) ≤ unF g a d k + (if g k = a then (if sayW (nI k) d then 1 else -1) else 0) ∧ unF g a d k + (if g k = a then (if sayW (nI k) d then 1 else -1) else 0) ≤ ((k + 1 : Nat) : Int)
    by_cases c : g k = a
    · rw [if_pos c]
      cases sayW (nI k) d
      · rw [if_neg (by decide)]; omega
      · rw [if_pos rfl]; omega
    · rw [if_neg c]; omega
def fdP (g : Nat → Int32) (a : Int32) (L0 : Int) : Nat → Int × Int
  | 0 => (-1, L0)
  | k + 1 => if ofF g a (nI (k + 1)) < (fdP g a L0 k).2 then ((k : Int) + 1, ofF g a (nI (k + 1))) else fdP g a L0 k
theorem fd_0 {g : Nat → Int32} {a : Int32} {L0 P L : Int} {k : Nat} (hP : P = -1) (hL : L = L0) (hk : k = 0) : (P, L) = fdP g a L0 k := by subst hk; subst hP; subst hL; rfl
theorem fd_nI {d : Int32} {k : Nat} (hd : d.toInt = (k : Int) + 1) : nI (k + 1) = d := by
  have := nI_toNat (y := d) (by omega)
  rw [← this]; congr 1; omega
theorem fd_y {g : Nat → Int32} {a d : Int32} {L0 P L D U : Int} {k k' : Nat} (h : (P, L) = fdP g a L0 k) (hd : d.toInt = (k : Int) + 1) (hD : D = d.toInt) (hu : U = ofF g a d) (c : U < L) (hk : k' = k + 1) : (D, U) = fdP g a L0 k' := by
  subst hk
  show _ = if ofF g a (nI (k + 1)) < (fdP g a L0 k).2 then ((k : Int) + 1, ofF g a (nI (k + 1))) else fdP g a L0 k
  rw [← h, fd_nI hd, ← hu, if_pos c, hD, hd]
theorem fd_n {g : Nat → Int32} {a d : Int32} {L0 P L U : Int} {k k' : Nat} (h : (P, L) = fdP g a L0 k) (hd : d.toInt = (k : Int) + 1) (hu : U = ofF g a d) (c : L ≤ U) (hk : k' = k + 1) : (P, L) = fdP g a L0 k' := by
  subst hk
  show _ = if ofF g a (nI (k + 1)) < (fdP g a L0 k).2 then ((k : Int) + 1, ofF g a (nI (k + 1))) else fdP g a L0 k
  rw [← h, fd_nI hd, ← hu, if_neg (by show ¬ U < L; omega)]
def dpF (g : Nat → Int32) (a : Int32) (L0 : Int) : Int := if mayF g a 81 = 0 then -1 else (fdP g a L0 60).1
theorem dp_0 {g : Nat → Int32} {a : Int32} {L0 X M : Int} (h : M = mayF g a 81) (hM : M = 0) (hX : X = -1) : X = dpF g a L0 := by unfold dpF; rw [← h, if_pos hM]; exact hX
theorem dp_1 {g : Nat → Int32} {a : Int32} {L0 P L M : Int} {k : Nat} (h : M = mayF g a 81) (hM : M ≠ 0) (q : (P, L) = fdP g a L0 k) (hk : k = 60) : P = dpF g a L0 := by subst hk; unfold dpF; rw [← h, if_neg hM, ← q]
theorem fd_L {g : Nat → Int32} {a : Int32} {L1 L2 : Int} (h1 : 81 < L1) (h2 : 81 < L2) : ∀ k : Nat, fdP g a L1 (k + 1) = fdP g a L2 (k + 1)
  | 0 => by
    have r := un_rg (g := g) (a := a) (d := nI 1) 81
    have o : ofF g a (nI 1) ≤ 81 := by unfold ofF; omega
    show (if ofF g a (nI 1) < (fdP g a L1 0).2 then (((0 : Nat) : Int) + 1, ofF g a (nI 1)) else fdP g a L1 0) = (if ofF g a (nI 1) < (fdP g a L2 0).2 then (((0 : Nat) : Int) + 1, ofF g a (nI 1)) else fdP g a L2 0)
    rw [if_pos (by show ofF g a (nI 1) < L1; omega), if_pos (by show ofF g a (nI 1) < L2; omega)]
  | k + 1 => by
    show (if ofF g a (nI (k + 1 + 1)) < (fdP g a L1 (k + 1)).2 then (((k + 1 : Nat) : Int) + 1, ofF g a (nI (k + 1 + 1))) else fdP g a L1 (k + 1)) = (if ofF g a (nI (k + 1 + 1)) < (fdP g a L2 (k + 1)).2 then (((k + 1 : Nat) : Int) + 1, ofF g a (nI (k + 1 + 1))) else fdP g a L2 (k + 1))
    rw [fd_L h1 h2 k]
theorem mayF_eq {g h : Nat → Int32} {a : Int32} (e : ∀ j, j < 81 → g j = h j) : ∀ k, k ≤ 81 → mayF g a k = mayF h a k
  | 0, _ => rfl
  | k + 1, hk => by
    show mayF g a k + (if g k = a then 1 else 0) = mayF h a k + (if h k = a then 1 else 0)
    rw [mayF_eq e k (by omega), e k (by omega)]
theorem lkF_eq {g h : Nat → Int32} (e : ∀ j, j < 81 → g j = h j) : ∀ k, k ≤ 80 → lkF g k = lkF h k
  | 0, _ => rfl
  | k + 1, hk => by
    have l := lk_le (g := h) k
    show (if (g (lkF g k)).toInt < (g (k + 1)).toInt then k + 1 else lkF g k) = (if (h (lkF h k)).toInt < (h (k + 1)).toInt then k + 1 else lkF h k)
    rw [lkF_eq e k (by omega), e (k + 1) (by omega), e (lkF h k) (by omega)]
theorem unF_eq {g h : Nat → Int32} {a d : Int32} (e : ∀ j, j < 81 → g j = h j) : ∀ k, k ≤ 81 → unF g a d k = unF h a d k
  | 0, _ => rfl
  | k + 1, hk => by
    show unF g a d k + (if g k = a then (if sayW (nI k) d then 1 else -1) else 0) = unF h a d k + (if h k = a then (if sayW (nI k) d then 1 else -1) else 0)
    rw [unF_eq e k (by omega), e k (by omega)]
theorem ofF_eq {g h : Nat → Int32} {a d : Int32} (e : ∀ j, j < 81 → g j = h j) : ofF g a d = ofF h a d := by unfold ofF; rw [unF_eq e 81 (by omega)]
theorem fdP_eq {g h : Nat → Int32} {a : Int32} {L0 : Int} (e : ∀ j, j < 81 → g j = h j) : ∀ k, fdP g a L0 k = fdP h a L0 k
  | 0 => rfl
  | k + 1 => by
    show (if ofF g a (nI (k + 1)) < (fdP g a L0 k).2 then ((k : Int) + 1, ofF g a (nI (k + 1))) else fdP g a L0 k) = (if ofF h a (nI (k + 1)) < (fdP h a L0 k).2 then ((k : Int) + 1, ofF h a (nI (k + 1))) else fdP h a L0 k)
    rw [fdP_eq e k, ofF_eq e]
theorem dpF_eq {g h : Nat → Int32} {a : Int32} (e : ∀ j, j < 81 → g j = h j) : dpF g a 82 = dpF h a 1000 := by
  unfold dpF
  rw [mayF_eq e 81 (by omega), fdP_eq e 60, fd_L (L1 := 82) (L2 := 1000) (by decide) (by decide) 59]
def spPup (G : Nat → Int32) (a : Int32) (L0 : Int) (p w r : Int32) : Prop := ((p.toInt < 0 ∨ 3 < p.toInt) ∧ r = -2) ∨ ((0 ≤ p.toInt ∧ p.toInt ≤ 3) ∧ ((w.toInt = 0 ∧ r.toInt = mayF G a 81) ∨ (w.toInt = 1 ∧ r.toInt = nmL (lkF G 80)) ∨ (w.toInt = 2 ∧ r = G (lkF G 80)) ∨ (w.toInt = 3 ∧ r.toInt = dpF G a L0) ∨ ((w.toInt < 0 ∨ 3 < w.toInt) ∧ r = -3)))
def gF (g0 g1 g2 g3 : Nat → Int32) : Nat → Nat → Int32 := fun q => ([g0, g1, g2, g3] : List (Nat → Int32)).getD q (fun _ => 0)
def agW (day rgt : Nat → Int32) (t : Int32) (lo : Nat) : Nat → Int32
  | 0 => 0
  | k + 1 => agW day rgt t lo k + incW t (day (lo + k)) (rgt (lo + k))
theorem in_rg {t d ri : Int32} : 0 ≤ (incW t d ri).toInt ∧ (incW t d ri).toInt ≤ 1 := by
  unfold incW
  by_cases c : (if sayW t d then (1 : Int32) else 0) = ri
  · rw [if_pos c]; decide
  · rw [if_neg c]; decide
theorem aw_rg {day rgt : Nat → Int32} {t : Int32} {lo : Nat} : ∀ n : Nat, n ≤ 12 → 0 ≤ (agW day rgt t lo n).toInt ∧ (agW day rgt t lo n).toInt ≤ n
  | 0, _ => ⟨show (0 : Int) ≤ (0 : Int32).toInt by decide, show (0 : Int32).toInt ≤ ((0 : Nat) : Int) by decide⟩
  | k + 1, hk => by
    have i := aw_rg (day := day) (rgt := rgt) (t := t) (lo := lo) k (by omega)
    have r := in_rg (t := t) (d := day (lo + k)) (ri := rgt (lo + k))
    show 0 ≤ (agW day rgt t lo k + incW t (day (lo + k)) (rgt (lo + k))).toInt ∧ (agW day rgt t lo k + incW t (day (lo + k)) (rgt (lo + k))).toInt ≤ ((k + 1 : Nat) : Int)
    rw [addC rfl rfl (by omega) (by omega)]; omega
theorem aw_0 {day rgt : Nat → Int32} {t v : Int32} {lo k : Nat} (hv : v = 0) (hk : k = 0) : v = agW day rgt t lo k := by subst hk; exact hv
theorem aw_y {day rgt : Nat → Int32} {t v w x : Int32} {lo k k' : Nat} (h : v = agW day rgt t lo k) (hs : (if sayW t (day x.toNatClampNeg) then (1 : Int32) else 0) = rgt x.toNatClampNeg) (hx : x.toInt = ((lo + k : Nat) : Int)) (hw : w = v + 1) (hk : k' = k + 1) : w = agW day rgt t lo k' := by
  subst hk
  rw [show x.toNatClampNeg = lo + k by rw [clC hx]; omega] at hs
  show w = agW day rgt t lo k + incW t (day (lo + k)) (rgt (lo + k))
  unfold incW; rw [if_pos hs, ← h]; exact hw
theorem aw_n {day rgt : Nat → Int32} {t v w x : Int32} {lo k k' : Nat} (h : v = agW day rgt t lo k) (hs : ¬ (if sayW t (day x.toNatClampNeg) then (1 : Int32) else 0) = rgt x.toNatClampNeg) (hx : x.toInt = ((lo + k : Nat) : Int)) (hw : w = v + 0) (hk : k' = k + 1) : w = agW day rgt t lo k' := by
  subst hk
  rw [show x.toNatClampNeg = lo + k by rw [clC hx]; omega] at hs
  show w = agW day rgt t lo k + incW t (day (lo + k)) (rgt (lo + k))
  unfold incW; rw [if_neg hs, ← h]; exact hw
theorem aw_e {day rgt : Nat → Int32} {t v : Int32} {lo k lo' k' : Nat} (h : v = agW day rgt t lo k) (e1 : lo' = lo) (e : k' = k) : v = agW day rgt t lo' k' := by subst e; subst e1; exact h
