-- ===== BEST PLANS, the model's search =====
def ckM (A B top : Nat → Int32) (dn : Int) (cos : Nat → Int32) : Prop := ∀ q : Nat, q < 8 → ∀ c : Int32, coM A B dn top (nI q) c → cos q = c
def chT (T : Nat → Int32) (d : Int) : Prop := (∀ j : Nat, (j : Int) < d → 0 ≤ (T j).toInt ∧ (T j).toInt ≤ 8) ∧ (0 ≤ d → -1 ≤ (T d.toNat).toInt ∧ (T d.toNat).toInt ≤ 8)
def lyT (f mar top str : Nat → Int32) (tel : Int32) (g : Int) (T : Nat → Int32) (d : Int) (L : Nat → Int32) : Prop := ∀ k : Nat, (k : Int) ≤ d → ∀ c : Nat, c < 48 → top c ≠ -1 → (L (48 * k + c)).toInt = plU mar f top str tel g T k c
def kkN (T : Nat → Int32) (n : Nat) (d : Int) : Nat := if d < 0 then 9 ^ n else atY T n d ((T d.toNat).toInt + 1)
def plQ (A B mar f top str : Nat → Int32) (dn : Int) (tel : Int32) (g : Int) (mi : Int32) (n : Nat) (d s : Int) (T L Bs : Nat → Int32) : Prop := chT T d ∧ lyT f mar top str tel g T d L ∧ ∀ cos : Nat → Int32, ckM A B top dn cos → wkA T (mnW mi) cos d ∧ pbI (okC cos (mnW mi) n) (vlC mar f top str tel g n) n (kkN T n d) s Bs
def plR (A B mar f top str : Nat → Int32) (dn : Int) (tel : Int32) (g : Int) (mi : Int32) (n : Nat) (d s : Int) (T L Bs : Nat → Int32) : Prop := (∀ j : Nat, (j : Int) < d → 0 ≤ (T j).toInt ∧ (T j).toInt ≤ 8) ∧ lyT f mar top str tel g T d L ∧ ∀ cos : Nat → Int32, ckM A B top dn cos → wkA T (mnW mi) cos d ∧ pbI (okC cos (mnW mi) n) (vlC mar f top str tel g n) n (atN T n d) s Bs
theorem plU_T {mar f top str T T2 : Nat → Int32} {tel : Int32} {g : Int} {k c : Nat} (h : ∀ j, j < k → T j = T2 j) : plU mar f top str tel g T k c = plU mar f top str tel g T2 k c := by
  unfold plU
  refine sv_w (N := k) (fun i hi => ?_) k (Nat.le_refl k)
  show decide (T i = nI (c / 6)) = decide (T2 i = nI (c / 6))
  rw [h i hi]
theorem pl_step {mar f top str T T2 : Nat → Int32} {tel v : Int32} {g : Int} {k c : Nat} (tn : ∀ j, j < k → T2 j = T j) (tk : T2 k = v) (hv : 0 ≤ v.toInt ∧ v.toInt ≤ 8) (hc : c < 48) : fl f (if (c : Int) / 6 = v.toInt then plU mar f top str tel g T k c + gn g (plU mar f top str tel g T k c) else plU mar f top str tel g T k c) (cwF mar top tel c (c - c % 6) 6) = plU mar f top str tel g T2 (k + 1) c := by
  rw [plU_T (mar := mar) (f := f) (top := top) (str := str) (tel := tel) (g := g) (c := c) (T := T) (T2 := T2) (fun j hj => (tn j hj).symm)]
  have e : ((c : Int) / 6 = v.toInt) ↔ (T2 k = nI (c / 6)) := by
    rw [tk]
    refine ⟨fun z => ?_, fun z => ?_⟩
    · have := nI_toNat (y := v) hv.1
      rw [← this]; congr 1; omega
    · have := congrArg Int32.toInt z
      rw [nI_toInt (by omega)] at this; omega
  show _ = fl f (if decide (T2 k = nI (c / 6)) then plU mar f top str tel g T2 k c + gn g (plU mar f top str tel g T2 k c) else plU mar f top str tel g T2 k c) (cwF mar top tel c (c - c % 6) 6)
  by_cases z : (c : Int) / 6 = v.toInt
  · rw [if_pos z, decide_eq_true (e.mp z), if_pos rfl]
  · rw [if_neg z, decide_eq_false (fun w => z (e.mpr w)), if_neg (by decide)]
theorem kk_back {T T1 : Nat → Int32} {n : Nat} {i : Int} (tn : ∀ j : Nat, (j : Int) < i → T1 j = T j) (h : ∀ j : Nat, (j : Int) < i → 0 ≤ (T j).toInt ∧ (T j).toInt ≤ 8) (h0 : 0 ≤ i) : kkN T1 n (i - 1) = toN T n i := by
  unfold kkN toN
  by_cases z : i = 0
  · subst z
    rw [if_pos (by decide)]
    show 9 ^ n = (0 + 1) * 9 ^ (n - 0)
    rw [Nat.zero_add, Nat.one_mul, Nat.sub_zero]
  · rw [if_neg (by omega), show i.toNat = (i - 1).toNat + 1 by omega]
    unfold atY
    show (9 * preN T1 (i - 1).toNat + ((T1 (i - 1).toNat).toInt + 1).toNat) * 9 ^ (n - (i - 1).toNat - 1) = (9 * preN T (i - 1).toNat + (T (i - 1).toNat).toInt.toNat + 1) * 9 ^ (n - ((i - 1).toNat + 1))
    have hh := h (i - 1).toNat (by omega)
    rw [pre_eq (T := T) (i - 1).toNat (fun j hj => tn j (by omega)), tn (i - 1).toNat (by omega), show ((T (i - 1).toNat).toInt + 1).toNat = (T (i - 1).toNat).toInt.toNat + 1 by omega, Nat.sub_sub, Nat.add_assoc]
theorem pb_nM {cos mi B T : Nat → Int32} {V : Nat → Int} {s y2 : Int} {i y : Int32} {n : Nat} (q : pbI (okC cos mi n) V n (atY T n i.toInt y.toInt) s B) (ht : ∀ j : Nat, (j : Int) < i.toInt → 0 ≤ (T j).toInt ∧ (T j).toInt ≤ 8) (hw : ¬ wkb (cos y.toInt.toNat) (mi i.toInt.toNat)) (h0 : 0 ≤ i.toInt) (h : i.toInt < (n : Int)) (hy : 0 ≤ y.toInt) (hy7 : y.toInt ≤ 7) (hy2 : y2 = y.toInt + 1) : pbI (okC cos mi n) V n (atY T n i.toInt y2) s B := by
  have ci := clC (x := i) rfl
  refine pb_skip q ?_ (fun d d1 d2 o => ?_)
  · subst hy2; unfold atY; exact Nat.mul_le_mul_right _ (by omega)
  · have e1 := at_d (n := n) (T3 := upd T i.toNatClampNeg y) (ks_0 (i := i.toInt) (tri := T) (wk := T)) rfl h0 h hy rfl
    have e2 := at_u (n := n) (T3 := upd T i.toNatClampNeg y) (ks_0 (i := i.toInt) (tri := T) (wk := T)) rfl h0 h hy rfl hy2
    rw [← e1] at d1
    rw [← e2] at d2
    have g := dg_pre (T := upd T i.toNatClampNeg y) (n := n) (d := d) (i.toInt + 1).toNat (by omega) (fun j hj => by
      by_cases z : j = i.toNatClampNeg
      · subst z; rw [pk_us]; omega
      · rw [pk_un z]; exact ht j (by omega)) d1 d2 i.toNatClampNeg (by omega)
    rw [pk_us] at g
    have := o i.toNatClampNeg (by omega) (by omega)
    rw [g, ci] at this
    exact hw this
theorem pq_0 {A B mar f top str gho fai T T0 L F Bs : Nat → Int32} {tel mi : Int32} {dn g d s i : Int} {n : Nat} (q : laI top str gho fai i L F) (hi : 48 ≤ i) (e : T = upd T0 (0 : Int32).toNatClampNeg (-1)) (hd : d = 0) (hs : s = -1) : plQ A B mar f top str dn tel g mi n d s T L Bs := by
  subst hd
  have e0 : T 0 = -1 := by
    rw [e]
    show upd T0 (0 : Int32).toNatClampNeg (-1) (0 : Int32).toNatClampNeg = -1
    exact pk_us
  refine ⟨⟨fun j hj => by omega, fun _ => ?_⟩, fun k hk c hc t => ?_, fun cos _ => ⟨wa_0 rfl, pb_0 hs ?_⟩⟩
  · show -1 ≤ (T 0).toInt ∧ (T 0).toInt ≤ 8
    rw [e0]; decide
  · have k0 : k = 0 := by omega
    subst k0
    have w := (q c (by omega)).1
    rw [if_neg t] at w
    rw [show 48 * 0 + c = c by omega, w]; rfl
  · show (if (0 : Int) < 0 then 9 ^ n else atY T n 0 ((T 0).toInt + 1)) = 0
    rw [if_neg (by decide), e0]
    show (9 * 0 + 0) * 9 ^ (n - 0 - 1) = 0
    rw [Nat.mul_zero, Nat.zero_add, Nat.zero_mul]
theorem pq_a {A B mar f top str T T1 L Bs : Nat → Int32} {tel mi i v : Int32} {dn g d2 s : Int} {n : Nat} (q : plQ A B mar f top str dn tel g mi n i.toInt s T L Bs) (e : T1 = upd T i.toNatClampNeg v) (hv : v.toInt = (T i.toNatClampNeg).toInt + 1) (h8 : 8 < v.toInt) (h0 : 0 ≤ i.toInt) (hn : i.toInt < (n : Int)) (hd : d2 = i.toInt - 1) : plQ A B mar f top str dn tel g mi n d2 s T1 L Bs := by
  subst hd
  have ci := clC (x := i) rfl
  obtain ⟨c1, l1, p1⟩ := q
  have td := c1.2 h0
  rw [← ci] at td
  have tn : ∀ j : Nat, (j : Int) < i.toInt → T1 j = T j := fun j hj => by rw [e, pk_un (by omega)]
  refine ⟨⟨fun j hj => by rw [tn j (by omega)]; exact c1.1 j (by omega), fun hz => ?_⟩, fun k hk c hc t => ?_, fun cos hc => ?_⟩
  · have := c1.1 (i.toInt - 1).toNat (by omega)
    rw [tn _ (by omega)]; omega
  · rw [l1 k (by omega) c hc t]; exact plU_T (fun j hj => (tn j (by omega)).symm)
  · obtain ⟨w, p⟩ := p1 cos hc
    refine ⟨fun j hj l => ?_, pb_e p ?_⟩
    · rw [tn j (by omega)] at l ⊢; exact w j (by omega) l
    · have e1 : kkN T n i.toInt = toN T n i.toInt := by
        unfold kkN
        rw [if_neg (by omega)]
        exact at_9 hn h0 (by rw [← ci]; omega)
      rw [e1]
      exact kk_back tn c1.1 h0
theorem pq_n {A B mar f top str T T1 L L2 Bs : Nat → Int32} {tel mi i v : Int32} {dn g s : Int} {n : Nat} (q : plQ A B mar f top str dn tel g mi n i.toInt s T L Bs) (e : T1 = upd T i.toNatClampNeg v) (hv : v.toInt = (T i.toNatClampNeg).toInt + 1) (h : igN A B top dn i (T1 i.toNatClampNeg) mi) (st : ∀ j : Nat, (j : Int) < 48 * i.toInt + 48 → L2 j = L j) (h0 : 0 ≤ i.toInt) (hn : i.toInt < (n : Int)) : plQ A B mar f top str dn tel g mi n i.toInt s T1 L2 Bs := by
  have ci := clC (x := i) rfl
  have er : T1 i.toNatClampNeg = v := by rw [e]; exact pk_us
  rw [er] at h
  obtain ⟨c1, l1, p1⟩ := q
  have td := c1.2 h0
  rw [← ci] at td
  have tn : ∀ j : Nat, (j : Int) < i.toInt → T1 j = T j := fun j hj => by rw [e, pk_un (by omega)]
  obtain ⟨h7, x, hx, hw⟩ := h
  refine ⟨⟨fun j hj => by rw [tn j hj]; exact c1.1 j hj, fun _ => ?_⟩, fun k hk c hc t => ?_, fun cos hck => ?_⟩
  · rw [← ci, er]; omega
  · rw [st (48 * k + c) (by omega), l1 k hk c hc t]; exact plU_T (fun j hj => (tn j (by omega)).symm)
  · obtain ⟨w, p⟩ := p1 cos hck
    have wv : cos v.toInt.toNat = x := hck v.toInt.toNat (by omega) x (by rw [nI_toNat (by omega)]; exact hx)
    refine ⟨fun j hj l => by rw [tn j hj] at l ⊢; exact w j hj l, ?_⟩
    have k1 : kkN T n i.toInt = atY T n i.toInt v.toInt := by
      unfold kkN
      rw [if_neg (by omega), ← ci, ← hv]
    have k2 : kkN T1 n i.toInt = atY T n i.toInt (v.toInt + 1) := by
      unfold kkN
      rw [if_neg (by omega), ← ci, er]
      unfold atY
      rw [pre_eq (T := T) i.toInt.toNat (fun j hj => tn j (by omega))]
    rw [k1] at p
    rw [k2]
    exact pb_nM p c1.1 (by rw [wv]; exact hw) h0 hn (by omega) h7 rfl
theorem pq_R {A B mar f top str T T1 T2 L L2 Bs : Nat → Int32} {tel mi i v z : Int32} {dn g s d2 : Int} {n : Nat} (q : plQ A B mar f top str dn tel g mi n i.toInt s T L Bs) (e : T1 = upd T i.toNatClampNeg v) (e2 : T2 = upd T1 z.toNatClampNeg (-1)) (hv : v.toInt = (T i.toNatClampNeg).toInt + 1) (h8 : v.toInt ≤ 8) (h : igT A B top f mar dn tel g i (T1 i.toNatClampNeg) mi L L2) (h0 : 0 ≤ i.toInt) (hn : i.toInt < (n : Int)) (hz : z.toInt = i.toInt + 1) (hd : d2 = i.toInt + 1) : plR A B mar f top str dn tel g mi n d2 s T2 L2 Bs := by
  subst hd
  have ci := clC (x := i) rfl
  have cz := clC hz
  have er : T1 i.toNatClampNeg = v := by rw [e]; exact pk_us
  rw [er] at h
  obtain ⟨c1, l1, p1⟩ := q
  obtain ⟨hw, hl⟩ := h
  have td := c1.2 h0
  rw [← ci] at td
  have ti : T2 i.toNatClampNeg = v := by rw [e2, pk_un (by omega)]; exact er
  have tn : ∀ j : Nat, (j : Int) < i.toInt → T2 j = T j := fun j hj => by rw [e2, pk_un (by omega), e, pk_un (by omega)]
  have tb : ∀ j : Nat, (j : Int) < i.toInt + 1 → 0 ≤ (T2 j).toInt ∧ (T2 j).toInt ≤ 8 := fun j hj => by
    by_cases c : j = i.toNatClampNeg
    · subst c; rw [ti]; omega
    · rw [tn j (by omega)]; exact c1.1 j (by omega)
  refine ⟨tb, fun k hk c hc t => ?_, fun cos hck => ?_⟩
  · by_cases z1 : (k : Int) = i.toInt + 1
    · have ek : k = i.toInt.toNat + 1 := by omega
      have a := hl.1 c hc t
      have b0 := l1 i.toInt.toNat (by omega) c hc t
      rw [show (48 * i.toInt).toNat + 48 + c = 48 * k + c by omega, show (48 * i.toInt).toNat + c = 48 * i.toInt.toNat + c by omega, b0] at a
      rw [a, ek]
      exact pl_step (fun j hj => tn j (by omega)) (by rw [← ci]; exact ti) ⟨by omega, h8⟩ hc
    · rw [hl.2 (48 * k + c) (by omega), l1 k (by omega) c hc t]; exact plU_T (fun j hj => (tn j (by omega)).symm)
  · obtain ⟨w, p⟩ := p1 cos hck
    refine ⟨fun j hj l => ?_, pb_e p ?_⟩
    · by_cases c : j = i.toNatClampNeg
      · subst c
        rw [ti] at l ⊢
        rcases hw with hw | ⟨x, hx, hk⟩
        · omega
        · have wv : cos v.toInt.toNat = x := hck v.toInt.toNat (by omega) x (by rw [nI_toNat (by omega)]; exact hx)
          rw [clC (x := v) rfl, wv, ci]; exact hk
      · rw [tn j (by omega)] at l ⊢; exact w j (by omega) l
    · have k1 : kkN T n i.toInt = atY T n i.toInt v.toInt := by
        unfold kkN
        rw [if_neg (by omega), ← ci, ← hv]
      rw [k1]
      unfold atN atY
      rw [show (i.toInt + 1).toNat = i.toInt.toNat + 1 by omega]
      show (9 * preN T2 i.toInt.toNat + (T2 i.toInt.toNat).toInt.toNat) * 9 ^ (n - (i.toInt.toNat + 1)) = (9 * preN T i.toInt.toNat + v.toInt.toNat) * 9 ^ (n - i.toInt.toNat - 1)
      rw [pre_eq (T := T) i.toInt.toNat (fun j hj => tn j (by omega)), ← ci, ti, Nat.sub_sub]
theorem pq_d {A B mar f top str T1 T2 L2 Bs : Nat → Int32} {tel mi z : Int32} {dn g s d d2 : Int} {n : Nat} (r : plR A B mar f top str dn tel g mi n d s T2 L2 Bs) (e2 : T2 = upd T1 z.toNatClampNeg (-1)) (hz : z.toInt = d) (h0 : 0 ≤ d) (hn : d < (n : Int)) (hd : d2 = d) : plQ A B mar f top str dn tel g mi n d2 s T2 L2 Bs := by
  subst hd
  have cz := clC hz
  have tz : T2 d2.toNat = -1 := by rw [← cz, e2]; exact pk_us
  obtain ⟨t, l, p⟩ := r
  refine ⟨⟨t, fun _ => by rw [tz]; decide⟩, l, fun cos hck => ⟨(p cos hck).1, pb_e (p cos hck).2 ?_⟩⟩
  unfold kkN
  rw [if_neg (by omega), tz]
  exact at_0 hn h0 (by decide)
def bcI (T B0 B : Nat → Int32) (k m v : Int) : Prop := (k = 0 ∧ B = B0) ∨ (0 < k ∧ m < v ∧ ∀ j : Nat, (j : Int) < k → B j = T j)
def bcX (T B0 B : Nat → Int32) (n m v : Int) : Prop := (m < v ∧ ∀ j : Nat, (j : Int) < n → B j = T j) ∨ (v ≤ m ∧ B = B0)
theorem bc_0 {T B : Nat → Int32} {k m v : Int} (hk : k = 0) : bcI T B B k m v := .inl ⟨hk, rfl⟩
theorem bc_s {T B0 B B2 : Nat → Int32} {k m v : Int} {y x : Int32} (q : bcI T B0 B y.toInt m v) (e : B2 = upd B y.toNatClampNeg x) (hx : x = T y.toNatClampNeg) (c : m < v) (h0 : 0 ≤ y.toInt) (hk : k = y.toInt + 1) : bcI T B0 B2 k m v := by
  subst hk
  have cy := clC (x := y) rfl
  refine .inr ⟨by omega, c, fun j hj => ?_⟩
  by_cases z : j = y.toNatClampNeg
  · subst z; rw [e, pk_us]; exact hx
  · rw [e, pk_un z]
    rcases q with ⟨a, _⟩ | ⟨_, _, b⟩
    · omega
    · exact b j (by omega)
theorem bc_n {T B0 B : Nat → Int32} {k m v n : Int} (q : bcI T B0 B k m v) (h : n ≤ k) (hn : 1 ≤ n) : bcX T B0 B n m v := by
  rcases q with ⟨a, _⟩ | ⟨_, a, b⟩
  · omega
  · exact .inl ⟨a, fun j hj => b j (by omega)⟩
theorem bc_q {T B0 B : Nat → Int32} {k m v n : Int} (q : bcI T B0 B k m v) (h : v ≤ m) : bcX T B0 B n m v := by
  rcases q with ⟨_, a⟩ | ⟨_, a, _⟩
  · exact .inr ⟨h, a⟩
  · omega
def mxX (m v x : Int32) : Prop := (m.toInt < v.toInt ∧ x = v) ∨ (v.toInt ≤ m.toInt ∧ x = m)
theorem mx_v {m v : Int32} (h : m.toInt < v.toInt) : mxX m v v := .inl ⟨h, rfl⟩
theorem mx_m {m v : Int32} (h : v.toInt ≤ m.toInt) : mxX m v m := .inr ⟨h, rfl⟩
theorem pq_l {A B mar f top str T L B0 B2 : Nat → Int32} {tel mi m v x a : Int32} {dn g d d2 N : Int} {n : Nat} (r : plR A B mar f top str dn tel g mi n d m.toInt T L B0) (hd : d = (n : Int)) (hv : v.toInt = srF top (fun c => (L (a.toInt.toNat + c)).toInt) 0 48) (ha : a.toInt = 48 * d) (hv0 : 0 ≤ v.toInt) (b : bcX T B0 B2 N m.toInt v.toInt) (hN : N = d) (hx : mxX m v x) (hd2 : d2 = d - 1) (h1 : 1 ≤ n) : plQ A B mar f top str dn tel g mi n d2 x.toInt T L B2 := by
  rw [hN] at b
  subst hd2; subst hd
  obtain ⟨t, l, p⟩ := r
  have en : ((n : Int)).toNat = n := by omega
  have dg : ∀ j, j < n → dgN n (preN T n) j = (T j).toInt.toNat := dg_pre (T := T) (n := n) n (Nat.le_refl n) (fun j hj => t j (by omega)) (by rw [Nat.sub_self, Nat.pow_zero, Nat.mul_one]; exact Nat.le_refl _) (by rw [Nat.sub_self, Nat.pow_zero, Nat.mul_one]; omega)
  have pl : ∀ j, j < n → plN n (preN T n) j = T j := fun j hj => by
    show nI (dgN n (preN T n) j) = T j
    rw [dg j hj]; exact nI_toNat (t j (by omega)).1
  have eV : vlC mar f top str tel g n (preN T n) = v.toInt := by
    rw [hv]
    unfold vlC
    refine sr_eq (fun _ _ => rfl) (fun c hc z => ?_) 48 (by omega)
    show plU mar f top str tel g (plN n (preN T n)) n c = (L (a.toInt.toNat + c)).toInt
    rw [show a.toInt.toNat + c = 48 * n + c by omega, l n (by omega) c hc z]
    exact plU_T pl
  have ea : atN T n (n : Int) = preN T n := by unfold atN; rw [en, Nat.sub_self, Nat.pow_zero, Nat.mul_one]
  have et : toN T n (n : Int) = preN T n + 1 := by unfold toN; rw [en, Nat.sub_self, Nat.pow_zero, Nat.mul_one]
  have ek : kkN T n ((n : Int) - 1) = preN T n + 1 := (kk_back (fun _ _ => rfl) t (by omega)).trans et
  refine ⟨⟨fun j hj => t j (by omega), fun _ => ?_⟩, fun k hk => l k (by omega), fun cos hck => ?_⟩
  · have := t ((n : Int) - 1).toNat (by omega); omega
  · obtain ⟨w, q⟩ := p cos hck
    rw [ea] at q
    have o : okC cos (mnW mi) n (preN T n) := fun j hj z => by
      have w1 := w j (by omega)
      rw [dg j hj] at z ⊢
      have tj := t j (by omega)
      have := w1 (by omega)
      rw [clC (x := T j) rfl] at this
      exact this
    refine ⟨fun j hj => w j (by omega), ?_⟩
    rcases hx with ⟨c1, c2⟩ | ⟨c1, c2⟩
    · rcases b with ⟨_, b2⟩ | ⟨b1, _⟩
      · exact pb_gt q o (by rw [eV]; exact c1) (by rw [eV, c2]) (fun j hj => by rw [b2 j (by omega), pl j hj]) ek
      · omega
    · rcases b with ⟨b1, _⟩ | ⟨_, b2⟩
      · omega
      · rw [c2, b2]
        exact pb_le q (by rw [eV]; exact hv0) (by rw [eV]; exact c1) ek
def spPlnM (A B mar f top str : Nat → Int32) (dn : Int) (tel : Int32) (g : Int) (n mi wh r : Int32) : Prop := (bdL n mi wh ∧ r = -3) ∨ (okL n mi wh ∧ ∃ (Bs : Nat → Int32) (s : Int32), (∀ cos : Nat → Int32, ckM A B top dn cos → pbI (okC cos (mnW mi) n.toInt.toNat) (vlC mar f top str tel g n.toInt.toNat) n.toInt.toNat (9 ^ n.toInt.toNat) s.toInt Bs) ∧ anL wh r s Bs)
theorem bl_m {n mi wh : Int32} (h : n.toInt < 1 ∨ 4 < n.toInt ∨ ∃ j : Nat, (j : Int) < n.toInt ∧ 99 < (mnW mi j).toInt) : bdL n mi wh := by
  rcases h with h | h | h
  · exact .inl (.inl h)
  · exact .inl (.inr h)
  · exact .inr (.inr h)
theorem pl_mE {A B mar f top str T L Bs : Nat → Int32} {tel n mi wh r s : Int32} {dn g d : Int} (hn : 1 ≤ n.toInt ∧ n.toInt ≤ 4) (hw : -1 ≤ wh.toInt ∧ wh.toInt < n.toInt) (hm : ∀ j : Nat, (j : Int) < n.toInt → (mnW mi j).toInt < 100) (q : plQ A B mar f top str dn tel g mi n.toInt.toNat d s.toInt T L Bs) (h : d < 0) (a : anL wh r s Bs) : spPlnM A B mar f top str dn tel g n mi wh r := by
  refine .inr ⟨⟨hn, hw, hm⟩, Bs, s, fun cos hck => pb_e (q.2.2 cos hck).2 ?_, a⟩
  unfold kkN
  rw [if_pos h]
theorem dg_8 : ∀ n, n ≤ 4 → ∀ i, i < n → dgN n (9 ^ n - 1) i = 8 := by decide +kernel
theorem spPln_rel {few A B mar mm f mfl top str gho ghs pto wal mt ms mg mf mp mw : Nat → Int32} {doo dn tel mtel gai mgai n mi wh r r2 : Int32} (R : crR top str gho ghs pto wal mt ms mg mf mp mw) (Rd : doR few doo A B dn) (hm : mtOK few) (em : mar = mm) (et : tel = mtel) (eg : gai = mgai) (ef : ∀ j, j < 11 → f j = mfl j) (hf : rg 11 0 30 f) (hs : rg 48 0 100 str) (hg : 0 ≤ gai.toInt ∧ gai.toInt ≤ 100) (h1 : spPlnC few mar f top str tel gai.toInt n mi wh r) (h2 : spPlnM A B mm mfl mt ms dn.toInt mtel mgai.toInt n mi wh r2) : r = r2 := by
  subst em; subst et; subst eg
  rcases h1 with ⟨a, b⟩ | ⟨a, cos, Bc, s, hc, q, an⟩
  · rcases h2 with ⟨_, d⟩ | ⟨c, _⟩
    · rw [b, d]
    · exact (ob_L a c).elim
  · rcases h2 with ⟨c, _⟩ | ⟨_, Bm, s2, qm, an2⟩
    · exact (ob_L c a).elim
    · have ht : ∀ j, j < 48 → top j = mt j := fun j hj => (R.1 j hj).1
      have ck : ckM A B mt dn.toInt cos := fun y hy c hcm => by
        have nn : (nI y).toInt = (y : Int) := nI_toInt (by omega)
        exact co_rel hm Rd.2 ht ⟨by omega, by omega⟩ (hc y hy) hcm
      have eV : ∀ d, d < 9 ^ n.toInt.toNat → vlC mar f top str tel gai.toInt n.toInt.toNat d = vlC mar mfl mt ms tel gai.toInt n.toInt.toNat d := by
        intro d _
        unfold vlC
        refine sr_eq ht (fun c hc2 t => ?_) 48 (by omega)
        unfold plU
        have es := (R.1 c hc2).2.2.2.1 t
        have hsc := hs c hc2
        rw [← es, ← cw_eq ht hc2 6 (by omega)]
        exact sv_f ef hf (cw_nn 6) hg.1 hg.2 hsc.1 hsc.2 _
      have hp : 0 < 9 ^ n.toInt.toNat := Nat.pow_pos (by omega)
      have key := pb_det q (qm cos ck) (fun _ _ => Iff.rfl) eV ⟨9 ^ n.toInt.toNat - 1, by omega, fun i hi l => by
        have := dg_8 n.toInt.toNat (by have := a.1; omega) i hi
        rw [this] at l; omega⟩
      have e1 : s = s2 := Int32.toInt_inj.mp key.1
      have aw := a.2.1
      rcases an with ⟨x1, x2⟩ | ⟨x1, x2⟩
      · rcases an2 with ⟨_, y2⟩ | ⟨y1, _⟩
        · rw [x2, y2, e1]
        · omega
      · rcases an2 with ⟨y1, _⟩ | ⟨_, y2⟩
        · omega
        · rw [x2, y2]; exact key.2 wh.toInt.toNat (by omega)
set_option maxHeartbeats 4000000 in
set_option maxRecDepth 100000 in
theorem k_X10_plan2 (l : Launch) (dC : Nat → ClassId) (dI : Nat → Nat → Nat) (cI cZ cQ : ClassId) (b : Nat → Nat) (mday : Int32) (mdoo : Int32) (mdA : Nat → Int32) (mdB : Nat → Int32) (mfar : Nat → Int32) (mmar : Nat → Int32) (mtel : Int32) (mgai : Int32) (mfal : Nat → Int32) (mtop : Nat → Int32) (mstr : Nat → Int32) (mgho : Nat → Int32) (mfai : Nat → Int32) (mpto : Nat → Int32) (mwal : Nat → Int32) (mahd : Nat → Int32) (mahf : Nat → Int32) (mcho : Nat → Int32) (mbes : Nat → Int32) (mbyt : Int32) (mtxt : Nat → Int32) (mpos : Int32) (mtka : Int32) (mtok : Int64) (mdig : Int32) (mnum : Int32) (mfau : Int32) (mrdm : Int32) (mrea : Nat → Int32) (mlin : Int32) (mlne : Nat → Int32) (mthg : Nat → Int32) (mord : Nat → Int32) (mbor : Nat → Int32) (mbsm : Int32) (mans : Nat → Int32) (mand : Nat → Int32) (manr : Nat → Int32) (mali : Nat → Int32) (sz : Nat) (n : Int32) (mi : Int32) (wh : Int32) (r_mday : 0 ≤ mday.toInt ∧ mday.toInt ≤ 400) (r_mdoo : 0 ≤ mdoo.toInt ∧ mdoo.toInt ≤ 14) (r_mdA : rg 14 (0) (7) mdA) (r_mdB : rg 14 (0) (7) mdB) (r_mmar : rg 24 (0) (255) mmar) (r_mgai : 0 ≤ mgai.toInt ∧ mgai.toInt ≤ 100) (r_mfal : rg 11 (0) (30) mfal) (r_mtop : rg 48 (-1) (23) mtop) (r_mstr : rg 48 (0) (100) mstr) (r_mgho : rg 48 (-1) (23) mgho) (r_mfai : rg 48 (0) (100) mfai) (r_mahd : rg 240 (0) (100) mahd) (r_mahf : rg 240 (0) (100) mahf) (r_mcho : rg 5 (-1) (9) mcho) (r_mbyt : 0 ≤ mbyt.toInt ∧ mbyt.toInt ≤ 160) (r_mpos : 0 ≤ mpos.toInt ∧ mpos.toInt ≤ 160) (r_mrdm : 0 ≤ mrdm.toInt ∧ mrdm.toInt ≤ 10) (r_mlin : 0 ≤ mlin.toInt ∧ mlin.toInt ≤ 10) (r_mthg : rg 8 (0) (31) mthg) (r_mord : rg 8 (-1) (8) mord) (r_mans : rg 4 (0) (12) mans) : KW l yX10_plan wsX10_plan { frames := 4, cells := 0, slots := 0, locals := 97 } (dC, dI) (TY cI cZ cQ) (wMod cI cZ cQ b mday mdoo mdA mdB mfar mmar mtel mgai mfal mtop mstr mgho mfai mpto mwal mahd mahf mcho mbes mbyt mtxt mpos mtka mtok mdig mnum mfau mrdm mrea mlin mlne mthg mord mbor mbsm mans mand manr mali) [.ref (b 39), .int n, .int mi, .int wh] sz 0 0 (fun (r : Int32) (u : US) => (spPlnM mdA mdB mmar mfal mtop mstr mdoo.toInt mtel mgai.toInt n mi wh r) ∧ (rg 240 (0) (100) (u.1 0)) ∧ (rg 240 (0) (100) (u.1 1)) ∧ (rg 5 (-1) (9) (u.1 3))) (fun u : US => (wMod cI cZ cQ b mday mdoo mdA mdB (u.1 2) mmar mtel mgai mfal mtop mstr mgho mfai mpto mwal (u.1 0) (u.1 1) (u.1 3) (u.1 4) mbyt mtxt mpos mtka mtok mdig mnum mfau mrdm mrea mlin mlne mthg mord mbor mbsm mans mand manr mali)) := by
  refine Met.ofW (cc := cX10_plan) (maxL := 8) (ret := (some .int)) (by decide) rfl ?_
  intro p e s m args below meth c s₁ B hml hv
  obtain ⟨rfl, hsz, hP, hK, hD0, hN⟩ := hv
  have hx := B.exec
  have hb := B.bytes
  have hr := B.returns
  have hts := atoms_spec (ws := wsX10_plan) B.pre
  have hown : s.vm.findClass RX10 = some m.cls := findClass_of_methodNamed B.named
  have hlocks := B.notSynchronized
  have lf56 := hts (.fieldLink RX10 56 "PalaceOfRoomsModel" "chosen" "[I") (List.mem_cons_of_mem _ (List.mem_append_left _ (List.mem_append_left _ (List.mem_of_getElem? (i := 0) rfl))))
  have inX10 : ∀ w ∈ wsX100, w ∈ wsX10_plan := fun w h => List.mem_cons_of_mem _ (List.mem_append_right _ h)
  have lf59 := hts (.fieldLink RX10 59 "PalaceOfRoomsModel" "best" "[I") (List.mem_cons_of_mem _ (List.mem_append_left _ (List.mem_append_left _ (List.mem_of_getElem? (i := 1) rfl))))
  subst hsz
  have hD := hD0.self (sz := s.heap.size)
  generalize hAe : va_A (wMod cI cZ cQ b mday mdoo mdA mdB mfar mmar mtel mgai mfal mtop mstr mgho mfai mpto mwal mahd mahf mcho mbes mbyt mtxt mpos mtka mtok mdig mnum mfau mrdm mrea mlin mlne mthg mord mbor mbsm mans mand manr mali) s.heap.size = A at hD ⊢
  have hA : ∀ q : Nat, s.heap.size ≤ q → A q := fun q h => by rw [← hAe]; exact Or.inr h
  have hS : va_S A s.heap s.heap [] := va_S.rf
  have hl := lv_entry ([.ref (b 39), .int n, .int mi, .int wh]) (n := 8) (Nat.le_of_ble_eq_true rfl)
  rw [lg_entry_eq]
  generalize (lg_sl ([.ref (b 39), .int n, .int mi, .int wh]) ++ List.replicate (8 - (lg_sl ([.ref (b 39), .int n, .int mi, .int wh])).length) Slot.unset).toArray = ls at hl ⊢
  have hl : lv_has ls 8 [(0, .ref (b 39)), (1, .int n), (2, .int mi), (3, .int wh)] := hl
  refine lv_iload_n hx hb dX10_plan_0 rfl (lv_at hl 1 rfl) ?_
  refine lv_iload_n hx hb dX10_plan_1 rfl (lv_at hl 2 rfl) ?_
  refine rdS (As := [.int n, .int mi]) (rest := []) ⟨hx, hb, hml, hown, hts⟩ (k_X10_areMinutes2 l dC dI cI cZ cQ n mi) (va_cwS 2 hts gX10_plan_X10_areMinutes rfl rfl rfl (by decide +kernel) ⟨Nat.le_of_ble_eq_true rfl, Nat.le_of_ble_eq_true rfl⟩) hP hK hN [] rfl rfl hl.1 rfl (Nat.le_of_ble_eq_true rfl) dX10_plan_2 ⟨Nat.le_of_ble_eq_true rfl, Nat.le_of_ble_eq_true rfl⟩ (fun r1 h2 => ?_)
  have h2 : ((((r1 = 1) ∧ (1 ≤ n.toInt) ∧ (n.toInt ≤ 4) ∧ (∀ j : Nat, (j : Int) < n.toInt → (mnW mi j).toInt < 100)) ∨ ((r1 = 0) ∧ (n.toInt < 1 ∨ 4 < n.toInt ∨ ∃ j : Nat, (j : Int) < n.toInt ∧ 99 < (mnW mi j).toInt)))) := h2
  rcases h2 with (⟨rfl, h2_a0, h2_a1, h2_a2⟩ | ⟨rfl, h2_a0⟩)
  · refine lv_if_eq (tgt := 19) hx hb dX10_plan_5 (by decide) (fun c9 => absurd c9 (by decide)) (fun _ => ?_)
    refine lv_iload_n hx hb dX10_plan_8 rfl (lv_at hl 3 rfl) ?_
    refine lv_iconst (v := (-1)) hx hb dX10_plan_9 (by decide) ?_
    refine lv_iload_n hx hb dX10_plan_10 rfl (lv_at hl 1 rfl) ?_
    refine lv_iconst (v := 1) hx hb dX10_plan_11 (by decide) ?_
    refine lv_isub hx hb dX10_plan_12 ?_
    have f3 : (n - 1).toInt = (n.toInt) - (1) := subC rfl (show (1 : Int32).toInt = 1 from rfl) (by omega) (by omega)
    refine rdS (As := [.int wh, .int (-1), .int (n - 1)]) (rest := []) ⟨hx, hb, hml, hown, hts⟩ (k_X10_in l dC dI cI cZ cQ wh ((-1) : Int32) (n - 1)) (va_cwS 3 hts gX10_plan_X10_in rfl rfl rfl (by decide +kernel) ⟨Nat.le_of_ble_eq_true rfl, Nat.le_of_ble_eq_true rfl⟩) hP hK hN [] rfl rfl hl.1 rfl (Nat.le_of_ble_eq_true rfl) dX10_plan_13 ⟨Nat.le_of_ble_eq_true rfl, Nat.le_of_ble_eq_true rfl⟩ (fun r4 h5 => ?_)
    have h5 : ((((r4 = 1) ∧ ((-1) ≤ wh.toInt) ∧ (wh.toInt ≤ (n - 1).toInt)) ∨ ((r4 = 0) ∧ (wh.toInt < (-1) ∨ (n - 1).toInt < wh.toInt)))) := h5
    rcases h5 with (⟨rfl, h5_a0, h5_a1⟩ | ⟨rfl, h5_a0⟩)
    · refine lv_if_ne (tgt := 22) hx hb dX10_plan_16 (by decide) (fun _ => ?_) (fun c9 => absurd c9 (by decide))
      refine lv_aload_n hx hb dX10_plan_22 rfl (lv_at hl 0 rfl) ?_
      refine wvV (As := []) (rest := []) (wr := []) (w2 := (fun u : US => (wMod cI cZ cQ b mday mdoo mdA mdB mfar mmar mtel mgai mfal mtop mstr mgho mfai mpto mwal (u.1 0) (u.1 1) mcho mbes mbyt mtxt mpos mtka mtok mdig mnum mfau mrdm mrea mlin mlne mthg mord mbor mbsm mans mand manr mali))) ⟨hx, hb, hml, hown, hts⟩ (k_X10_lookAhead2 l dC dI cI cZ cQ b mday mdoo mdA mdB mfar mmar mtel mgai mfal mtop mstr mgho mfai mpto mwal mahd mahf mcho mbes mbyt mtxt mpos mtka mtok mdig mnum mfau mrdm mrea mlin mlne mthg mord mbor mbsm mans mand manr mali _ r_mday r_mdoo r_mdA r_mdB r_mmar r_mgai r_mfal r_mtop r_mstr r_mgho r_mfai r_mahd r_mahf r_mcho r_mbyt r_mpos r_mrdm r_mlin r_mthg r_mord r_mans) (cwV 0 hts gX10_plan_X10_lookAhead rfl rfl rfl (by decide +kernel) ⟨Nat.le_of_ble_eq_true rfl, Nat.le_of_ble_eq_true rfl⟩) hP hD hS hA hK hN [0, 1, 2, 3, 4, 5, 6, 7, 8, 9, 10, 11, 12, 13, 14, 15, 16, 17, 18, 19, 20, 21, 22, 23, 24, 25] [] [0, 1, 2, 3, 4, 5, 6, 7, 8, 9, 10, 11, 12, 13, 14, 15, 16, 17, 18, 19, 20, 21, 22, 23, 24, 25] rfl rfl (by decide) (by decide) (by decide) (fun _ => rfl) (by decide) 0 10 rfl rfl rfl hl.1 rfl (Nat.le_of_ble_eq_true rfl) dX10_plan_23 ⟨Nat.le_of_ble_eq_true rfl, Nat.le_of_ble_eq_true rfl⟩ (fun u8 H locs h7 hP hD hS => ?_)
      obtain ⟨mahd_c9, emahd_c9⟩ : ∃ f : Nat → Int32, f = (u8.1 0) := ⟨_, rfl⟩
      obtain ⟨mahf_c10, emahf_c10⟩ : ∃ f : Nat → Int32, f = (u8.1 1) := ⟨_, rfl⟩
      have hP : va_P (dC, dI) vwCl (wMod cI cZ cQ b mday mdoo mdA mdB mfar mmar mtel mgai mfal mtop mstr mgho mfai mpto mwal mahd_c9 mahf_c10 mcho mbes mbyt mtxt mpos mtka mtok mdig mnum mfau mrdm mrea mlin mlne mthg mord mbor mbsm mans mand manr mali) H := by rw [emahd_c9, emahf_c10]; exact hP
      have hD : va_D A (wMod cI cZ cQ b mday mdoo mdA mdB mfar mmar mtel mgai mfal mtop mstr mgho mfai mpto mwal mahd_c9 mahf_c10 mcho mbes mbyt mtxt mpos mtka mtok mdig mnum mfau mrdm mrea mlin mlne mthg mord mbor mbsm mans mand manr mali) := by rw [emahd_c9, emahf_c10]; exact hD
      have h7 : (laI mtop mstr mgho mfai 48 mahd_c9 mahf_c10) ∧ (rg 240 (0) (100) mahd_c9) ∧ (rg 240 (0) (100) mahf_c10) := by (try rw [emahd_c9]); (try rw [emahf_c10]); exact h7
      obtain ⟨h7_0, h7_1, h7_2⟩ := h7
      refine lv_iconst (v := (-1)) hx hb dX10_plan_26 (by decide) ?_
      refine lv_istore (lv' := [(4, .int (-1)), (0, .ref (b 39)), (1, .int n), (2, .int mi), (3, .int wh)]) hx hb dX10_plan_27 hl (by decide) rfl (fun ls hl => ?_)
      refine lv_iconst (v := 0) hx hb dX10_plan_29 (by decide) ?_
      refine lv_istore (lv' := [(5, .int 0), (4, .int (-1)), (0, .ref (b 39)), (1, .int n), (2, .int mi), (3, .int wh)]) hx hb dX10_plan_30 hl (by decide) rfl (fun ls hl => ?_)
      refine lv_aload_n hx hb dX10_plan_32 rfl (lv_at hl 2 rfl) ?_
      refine va_get (D := (dC, dI)) (ci := 10) (v := .ref (b 17)) (C := RX10) (T := TX10) (N := 39) hx hb hts inX10 hown hK hP 0 rfl rfl 17 (by decide) lf56 (fun _ h9 => h9) rfl dX10_plan_33 ?_
      refine lv_iconst (v := 0) hx hb dX10_plan_36 (by decide) ?_
      refine lv_iconst (v := (-1)) hx hb dX10_plan_37 (by decide) ?_
      have b11 : vp_in 0 5 := (show ¬ _ from by decide)
      have g12 : rg 5 (-1) (9) (upd mcho (0 : Int32).toNatClampNeg (-1)) := rg_upd r_mcho (show ((-1) : Int32).toInt = (-1) from rfl) (by omega) (by omega)
      refine va_iast hx hb hK hP hD hS 14 0 rfl rfl b11 dX10_plan_38 (fun H locs hP hD hS => ?_)
      obtain ⟨mcho_u13, emcho_u13⟩ : ∃ f : Nat → Int32, f = upd mcho (0 : Int32).toNatClampNeg (-1) := ⟨_, rfl⟩
      have rmcho_u13 : rg 5 (-1) (9) mcho_u13 := by rw [emcho_u13]; exact g12
      have hP : va_P (dC, dI) vwCl (wMod cI cZ cQ b mday mdoo mdA mdB mfar mmar mtel mgai mfal mtop mstr mgho mfai mpto mwal mahd_c9 mahf_c10 mcho_u13 mbes mbyt mtxt mpos mtka mtok mdig mnum mfau mrdm mrea mlin mlne mthg mord mbor mbsm mans mand manr mali) H := by rw [emcho_u13]; exact hP
      have hD : va_D A (wMod cI cZ cQ b mday mdoo mdA mdB mfar mmar mtel mgai mfal mtop mstr mgho mfai mpto mwal mahd_c9 mahf_c10 mcho_u13 mbes mbyt mtxt mpos mtka mtok mdig mnum mfau mrdm mrea mlin mlne mthg mord mbor mbsm mans mand manr mali) := by rw [emcho_u13]; exact hD
      have L39 : ∀ (nn : Nat) (y39_4 : Int32) (y39_5 : Int32) (mahd_39 : Nat → Int32) (mahf_39 : Nat → Int32) (mfar_39 : Nat → Int32) (mcho_39 : Nat → Int32) (mbes_39 : Nat → Int32) (H : Heap) (locs : List Loc) (ls : Array Slot), (rg 240 (0) (100) mahd_39) → (rg 240 (0) (100) mahf_39) → (rg 5 (-1) (9) mcho_39) → (-1 ≤ (y39_5.toInt)) → ((y39_5.toInt) ≤ 3) → ((y39_5.toInt) < n.toInt) → (ordOK 9 (y39_5.toInt) mcho_39) → (plQ mdA mdB mmar mfal mtop mstr mdoo.toInt mtel mgai.toInt mi n.toInt.toNat (y39_5.toInt) (y39_4.toInt) mcho_39 mahd_39 mbes_39) → omM 9 11 4 mcho_39 ((y39_5.toInt) + 1).toNat < nn → va_P (dC, dI) vwCl (wMod cI cZ cQ b mday mdoo mdA mdB mfar_39 mmar mtel mgai mfal mtop mstr mgho mfai mpto mwal mahd_39 mahf_39 mcho_39 mbes_39 mbyt mtxt mpos mtka mtok mdig mnum mfau mrdm mrea mlin mlne mthg mord mbor mbsm mans mand manr mali) H → va_D A (wMod cI cZ cQ b mday mdoo mdA mdB mfar_39 mmar mtel mgai mfal mtop mstr mgho mfai mpto mwal mahd_39 mahf_39 mcho_39 mbes_39 mbyt mtxt mpos mtka mtok mdig mnum mfau mrdm mrea mlin mlne mthg mord mbor mbsm mans mand manr mali) → va_S A s.heap H locs → lv_has ls 8 [(0, .ref (b 39)), (1, .int n), (2, .int mi), (3, .int wh), (4, .int y39_4), (5, .int y39_5)] → W p l e (headSpec wsX10_plan { frames := 4, cells := 0, slots := 0, locals := 97 }).room s m ([.ref (b 39), .int n, .int mi, .int wh] : List Value).toArray below meth c H locs 0 0 (MQ below (va_Qi (fun (r : Int32) (u : US) => (spPlnM mdA mdB mmar mfal mtop mstr mdoo.toInt mtel mgai.toInt n mi wh r) ∧ (rg 240 (0) (100) (u.1 0)) ∧ (rg 240 (0) (100) (u.1 1)) ∧ (rg 5 (-1) (9) (u.1 3))) (Bw (dC, dI) A (fun u : US => (wMod cI cZ cQ b mday mdoo mdA mdB (u.1 2) mmar mtel mgai mfal mtop mstr mgho mfai mpto mwal (u.1 0) (u.1 1) (u.1 3) (u.1 4) mbyt mtxt mpos mtka mtok mdig mnum mfau mrdm mrea mlin mlne mthg mord mbor mbsm mans mand manr mali))) A) ([.ref (b 39), .int n, .int mi, .int wh] : List Value).toArray s 0 0 A) (F0 m 39 ls []) := by
        intro nn
        induction nn with
        | zero =>
          intro y39_4 y39_5 mahd_39 mahf_39 mfar_39 mcho_39 mbes_39 H locs ls r_mahd_39 r_mahf_39 r_mcho_39 i39_0 i39_1 i39_2 i39_3 i39_4 hm39
          exact absurd hm39 (Nat.not_lt_zero _)
        | succ nn ih39 =>
          intro y39_4 y39_5 mahd_39 mahf_39 mfar_39 mcho_39 mbes_39 H locs ls r_mahd_39 r_mahf_39 r_mcho_39 i39_0 i39_1 i39_2 i39_3 i39_4 hm39 hP hD hS hl
          refine lv_iload hx hb dX10_plan_39 (lv_at hl 5 rfl) ?_
          refine lv_if_lt (tgt := 175) hx hb dX10_plan_41 (by decide) (fun c14 => ?_) (fun c14 => ?_)
          · have dc14 : y39_5.toInt < 0 := ltC rfl (show (0 : Int32).toInt = 0 from rfl) c14
            refine lv_iload_n hx hb dX10_plan_175 rfl (lv_at hl 3 rfl) ?_
            refine lv_iconst (v := (-1)) hx hb dX10_plan_176 (by decide) ?_
            refine lv_icmp_ne (tgt := 185) hx hb dX10_plan_177 (by decide) (fun c15 => ?_) (fun c15 => ?_)
            · have dc15 : 0 ≤ wh.toInt := ka_lo (by omega) (neC rfl (show ((-1) : Int32).toInt = (-1) from rfl) c15)
              refine lv_aload_n hx hb dX10_plan_185 rfl (lv_at hl 0 rfl) ?_
              refine va_get (D := (dC, dI)) (ci := 10) (v := .ref (b 18)) (C := RX10) (T := TX10) (N := 39) hx hb hts inX10 hown hK hP 0 rfl rfl 18 (by decide) lf59 (fun _ h9 => h9) rfl dX10_plan_186 ?_
              refine lv_iload_n hx hb dX10_plan_189 rfl (lv_at hl 3 rfl) ?_
              have b16 : vp_in wh 4 := inC rfl (by omega) (by omega)
              refine va_iald hx hb hK hP 15 0 rfl rfl b16 dX10_plan_190 ?_
              exact W.iret (v := mbes_39 wh.toNatClampNeg) hx hb hr (fun tq ht hW => ⟨⟨mbes_39 wh.toNatClampNeg, (uS [mahd_39, mahf_39, mfar_39, mcho_39, mbes_39] 0 (fun _ => 0)), rfl, ⟨(show spPlnM mdA mdB mmar mfal mtop mstr mdoo.toInt mtel mgai.toInt n mi wh (mbes_39 wh.toNatClampNeg) from by (first | exact Or.inl ⟨bl_m (by assumption), rfl⟩ | exact Or.inl ⟨Or.inr (Or.inl (by omega)), rfl⟩ | exact pl_mE ⟨by omega, by omega⟩ ⟨by omega, by omega⟩ (by assumption) i39_4 (by omega) (an_s (by omega)) | exact pl_mE ⟨by omega, by omega⟩ ⟨by omega, by omega⟩ (by assumption) i39_4 (by omega) (an_b (by omega) rfl))), r_mahd_39, r_mahf_39, r_mcho_39⟩, by rw [ht]; exact hP, hD⟩, hS.F ht⟩) hS.2.2 dX10_plan_191
            · have dc15 : wh.toInt = (-1) := eqC rfl (show ((-1) : Int32).toInt = (-1) from rfl) c15
              refine lv_iload hx hb dX10_plan_180 (lv_at hl 4 rfl) ?_
              refine lv_goto (tgt := 191) hx hb dX10_plan_182 (by decide) ?_
              exact W.iret (v := y39_4) hx hb hr (fun tq ht hW => ⟨⟨y39_4, (uS [mahd_39, mahf_39, mfar_39, mcho_39, mbes_39] 0 (fun _ => 0)), rfl, ⟨(show spPlnM mdA mdB mmar mfal mtop mstr mdoo.toInt mtel mgai.toInt n mi wh y39_4 from by (first | exact Or.inl ⟨bl_m (by assumption), rfl⟩ | exact Or.inl ⟨Or.inr (Or.inl (by omega)), rfl⟩ | exact pl_mE ⟨by omega, by omega⟩ ⟨by omega, by omega⟩ (by assumption) i39_4 (by omega) (an_s (by omega)) | exact pl_mE ⟨by omega, by omega⟩ ⟨by omega, by omega⟩ (by assumption) i39_4 (by omega) (an_b (by omega) rfl))), r_mahd_39, r_mahf_39, r_mcho_39⟩, by rw [ht]; exact hP, hD⟩, hS.F ht⟩) hS.2.2 dX10_plan_191
          · have dc14 : 0 ≤ y39_5.toInt := nltC rfl (show (0 : Int32).toInt = 0 from rfl) c14
            have wo := ord_at i39_3 (rfl) (by omega)
            refine lv_aload_n hx hb dX10_plan_44 rfl (lv_at hl 0 rfl) ?_
            refine va_get (D := (dC, dI)) (ci := 10) (v := .ref (b 17)) (C := RX10) (T := TX10) (N := 39) hx hb hts inX10 hown hK hP 0 rfl rfl 17 (by decide) lf56 (fun _ h9 => h9) rfl dX10_plan_45 ?_
            refine lv_iload hx hb dX10_plan_48 (lv_at hl 5 rfl) ?_
            refine lv_dup2_11 hx hb dX10_plan_50 rfl rfl ?_
            have b17 : vp_in y39_5 5 := inC rfl (by omega) (by omega)
            refine va_iald hx hb hK hP 14 0 rfl rfl b17 dX10_plan_51 ?_
            have g18 : -1 ≤ (mcho_39 y39_5.toNatClampNeg).toInt ∧ (mcho_39 y39_5.toNatClampNeg).toInt ≤ 9 := rg_at r_mcho_39 b17
            refine lv_iconst (v := 1) hx hb dX10_plan_52 (by decide) ?_
            refine lv_iadd hx hb dX10_plan_53 ?_
            have f19 : ((mcho_39 y39_5.toNatClampNeg) + 1).toInt = ((mcho_39 y39_5.toNatClampNeg).toInt) + (1) := addC rfl (show (1 : Int32).toInt = 1 from rfl) (by omega) (by omega)
            refine lv_topi (fun x20 ex20 => ?_)
            have ix20 : x20.toInt = ((mcho_39 y39_5.toNatClampNeg).toInt) + (1) := by rw [ex20]; exact f19
            have b21 : vp_in y39_5 5 := inC rfl (by omega) (by omega)
            have g22 : rg 5 (-1) (9) (upd mcho_39 y39_5.toNatClampNeg x20) := rg_upd r_mcho_39 rfl (by omega) (by omega)
            refine va_iast hx hb hK hP hD hS 14 0 rfl rfl b21 dX10_plan_54 (fun H locs hP hD hS => ?_)
            obtain ⟨mcho_u23, emcho_u23⟩ : ∃ f : Nat → Int32, f = upd mcho_39 y39_5.toNatClampNeg x20 := ⟨_, rfl⟩
            have rmcho_u23 : rg 5 (-1) (9) mcho_u23 := by rw [emcho_u23]; exact g22
            have hP : va_P (dC, dI) vwCl (wMod cI cZ cQ b mday mdoo mdA mdB mfar_39 mmar mtel mgai mfal mtop mstr mgho mfai mpto mwal mahd_39 mahf_39 mcho_u23 mbes_39 mbyt mtxt mpos mtka mtok mdig mnum mfau mrdm mrea mlin mlne mthg mord mbor mbsm mans mand manr mali) H := by rw [emcho_u23]; exact hP
            have hD : va_D A (wMod cI cZ cQ b mday mdoo mdA mdB mfar_39 mmar mtel mgai mfal mtop mstr mgho mfai mpto mwal mahd_39 mahf_39 mcho_u23 mbes_39 mbyt mtxt mpos mtka mtok mdig mnum mfau mrdm mrea mlin mlne mthg mord mbor mbsm mans mand manr mali) := by rw [emcho_u23]; exact hD
            refine lv_aload_n hx hb dX10_plan_55 rfl (lv_at hl 0 rfl) ?_
            refine va_get (D := (dC, dI)) (ci := 10) (v := .ref (b 17)) (C := RX10) (T := TX10) (N := 39) hx hb hts inX10 hown hK hP 0 rfl rfl 17 (by decide) lf56 (fun _ h9 => h9) rfl dX10_plan_56 ?_
            refine lv_iload hx hb dX10_plan_59 (lv_at hl 5 rfl) ?_
            have b24 : vp_in y39_5 5 := inC rfl (by omega) (by omega)
            refine va_iald hx hb hK hP 14 0 rfl rfl b24 dX10_plan_61 ?_
            have g25 : -1 ≤ (mcho_u23 y39_5.toNatClampNeg).toInt ∧ (mcho_u23 y39_5.toNatClampNeg).toInt ≤ 9 := rg_at rmcho_u23 b24
            have o26 : (mcho_u23 y39_5.toNatClampNeg).toInt = x20.toInt := by rw [emcho_u23, pk_us]
            refine lv_bipush (v := 8) hx hb dX10_plan_62 (by decide) ?_
            refine lv_icmp_le (tgt := 73) hx hb dX10_plan_64 (by decide) (fun c27 => ?_) (fun c27 => ?_)
            · have dc27 : (mcho_u23 y39_5.toNatClampNeg).toInt ≤ 8 := leC rfl (show (8 : Int32).toInt = 8 from rfl) c27
              refine lv_aload_n hx hb dX10_plan_73 rfl (lv_at hl 0 rfl) ?_
              refine lv_iload hx hb dX10_plan_74 (lv_at hl 5 rfl) ?_
              refine lv_aload_n hx hb dX10_plan_76 rfl (lv_at hl 0 rfl) ?_
              refine va_get (D := (dC, dI)) (ci := 10) (v := .ref (b 17)) (C := RX10) (T := TX10) (N := 39) hx hb hts inX10 hown hK hP 0 rfl rfl 17 (by decide) lf56 (fun _ h9 => h9) rfl dX10_plan_77 ?_
              refine lv_iload hx hb dX10_plan_80 (lv_at hl 5 rfl) ?_
              have b28 : vp_in y39_5 5 := inC rfl (by omega) (by omega)
              refine va_iald hx hb hK hP 14 0 rfl rfl b28 dX10_plan_82 ?_
              have g29 : -1 ≤ (mcho_u23 y39_5.toNatClampNeg).toInt ∧ (mcho_u23 y39_5.toNatClampNeg).toInt ≤ 9 := rg_at rmcho_u23 b28
              have o30 : (mcho_u23 y39_5.toNatClampNeg).toInt = x20.toInt := by rw [emcho_u23, pk_us]
              refine lv_iload_n hx hb dX10_plan_83 rfl (lv_at hl 2 rfl) ?_
              refine wrV (As := [.int y39_5, .int (mcho_u23 y39_5.toNatClampNeg), .int mi]) (rest := []) (wr := []) (w2 := (fun u : US => (wMod cI cZ cQ b mday mdoo mdA mdB (u.1 2) mmar mtel mgai mfal mtop mstr mgho mfai mpto mwal (u.1 0) (u.1 1) mcho_u23 mbes_39 mbyt mtxt mpos mtka mtok mdig mnum mfau mrdm mrea mlin mlne mthg mord mbor mbsm mans mand manr mali))) ⟨hx, hb, hml, hown, hts⟩ (k_X10_isGone2 l dC dI cI cZ cQ b mday mdoo mdA mdB mfar_39 mmar mtel mgai mfal mtop mstr mgho mfai mpto mwal mahd_39 mahf_39 mcho_u23 mbes_39 mbyt mtxt mpos mtka mtok mdig mnum mfau mrdm mrea mlin mlne mthg mord mbor mbsm mans mand manr mali _ y39_5 (mcho_u23 y39_5.toNatClampNeg) mi r_mday r_mdoo r_mdA r_mdB r_mmar r_mgai r_mfal r_mtop r_mstr r_mgho r_mfai r_mahd_39 r_mahf_39 rmcho_u23 r_mbyt r_mpos r_mrdm r_mlin r_mthg r_mord r_mans (by omega) (by omega) (by omega) (by omega)) (cwV 3 hts gX10_plan_X10_isGone rfl rfl rfl (by decide +kernel) ⟨Nat.le_of_ble_eq_true rfl, Nat.le_of_ble_eq_true rfl⟩) hP hD hS hA hK hN [0, 1, 2, 3, 4, 5, 6, 7, 8, 9, 10, 11, 12, 13, 14, 15, 16, 17, 18, 19, 20, 21, 22, 23, 24, 25] [] [0, 1, 2, 3, 4, 5, 6, 7, 8, 9, 10, 11, 12, 13, 14, 15, 16, 17, 18, 19, 20, 21, 22, 23, 24, 25] rfl rfl (by decide) (by decide) (by decide) (fun _ => rfl) (by decide) 0 10 rfl rfl rfl hl.1 rfl (Nat.le_of_ble_eq_true rfl) dX10_plan_84 ⟨Nat.le_of_ble_eq_true rfl, Nat.le_of_ble_eq_true rfl⟩ (fun r31 u33 H locs h32 hP hD hS => ?_)
              obtain ⟨mahd_c34, emahd_c34⟩ : ∃ f : Nat → Int32, f = (u33.1 0) := ⟨_, rfl⟩
              obtain ⟨mahf_c35, emahf_c35⟩ : ∃ f : Nat → Int32, f = (u33.1 1) := ⟨_, rfl⟩
              obtain ⟨mfar_c36, emfar_c36⟩ : ∃ f : Nat → Int32, f = (u33.1 2) := ⟨_, rfl⟩
              have hP : va_P (dC, dI) vwCl (wMod cI cZ cQ b mday mdoo mdA mdB mfar_c36 mmar mtel mgai mfal mtop mstr mgho mfai mpto mwal mahd_c34 mahf_c35 mcho_u23 mbes_39 mbyt mtxt mpos mtka mtok mdig mnum mfau mrdm mrea mlin mlne mthg mord mbor mbsm mans mand manr mali) H := by rw [emahd_c34, emahf_c35, emfar_c36]; exact hP
              have hD : va_D A (wMod cI cZ cQ b mday mdoo mdA mdB mfar_c36 mmar mtel mgai mfal mtop mstr mgho mfai mpto mwal mahd_c34 mahf_c35 mcho_u23 mbes_39 mbyt mtxt mpos mtka mtok mdig mnum mfau mrdm mrea mlin mlne mthg mord mbor mbsm mans mand manr mali) := by rw [emahd_c34, emahf_c35, emfar_c36]; exact hD
              have h32 : ((((r31 = 1) ∧ (igT mdA mdB mtop mfal mmar mdoo.toInt mtel mgai.toInt y39_5 (mcho_u23 y39_5.toNatClampNeg) mi mahd_39 mahd_c34)) ∨ ((r31 = 0) ∧ (igN mdA mdB mtop mdoo.toInt y39_5 (mcho_u23 y39_5.toNatClampNeg) mi) ∧ (∀ j : Nat, (j : Int) < 48 * y39_5.toInt + 48 → mahd_c34 j = mahd_39 j)))) ∧ (rg 240 (0) (100) mahd_c34) ∧ (rg 240 (0) (100) mahf_c35) := by (try rw [emahd_c34]); (try rw [emahf_c35]); (try rw [emfar_c36]); exact h32
              rcases h32 with ⟨(⟨rfl, h32_a0⟩ | ⟨rfl, h32_a0, h32_a1⟩), h32_0, h32_1⟩
              · refine lv_if_eq (tgt := 39) hx hb dX10_plan_87 (by decide) (fun c9 => absurd c9 (by decide)) (fun _ => ?_)
                obtain ⟨z37, ez37⟩ : ∃ y : Int32, y = y39_5 + 1 := ⟨_, rfl⟩
                have iz37 : z37.toInt = y39_5.toInt + 1 := by rw [ez37]; exact addC rfl rfl (by omega) (by omega)
                refine lv_iinc (v := z37) (lv' := [(5, .int z37), (0, .ref (b 39)), (1, .int n), (2, .int mi), (3, .int wh), (4, .int y39_4)]) hx hb dX10_plan_90 hl (k := 5) rfl (by rw [ez37]; rfl) (by decide) rfl (fun ls hl => ?_)
                refine lv_aload_n hx hb dX10_plan_93 rfl (lv_at hl 1 rfl) ?_
                refine va_get (D := (dC, dI)) (ci := 10) (v := .ref (b 17)) (C := RX10) (T := TX10) (N := 39) hx hb hts inX10 hown hK hP 0 rfl rfl 17 (by decide) lf56 (fun _ h9 => h9) rfl dX10_plan_94 ?_
                refine lv_iload hx hb dX10_plan_97 (lv_at hl 0 rfl) ?_
                refine lv_iconst (v := (-1)) hx hb dX10_plan_99 (by decide) ?_
                have b38 : vp_in z37 5 := inC rfl (by omega) (by omega)
                have g39 : rg 5 (-1) (9) (upd mcho_u23 z37.toNatClampNeg (-1)) := rg_upd rmcho_u23 (show ((-1) : Int32).toInt = (-1) from rfl) (by omega) (by omega)
                refine va_iast hx hb hK hP hD hS 14 0 rfl rfl b38 dX10_plan_100 (fun H locs hP hD hS => ?_)
                obtain ⟨mcho_u40, emcho_u40⟩ : ∃ f : Nat → Int32, f = upd mcho_u23 z37.toNatClampNeg (-1) := ⟨_, rfl⟩
                have rmcho_u40 : rg 5 (-1) (9) mcho_u40 := by rw [emcho_u40]; exact g39
                have hP : va_P (dC, dI) vwCl (wMod cI cZ cQ b mday mdoo mdA mdB mfar_c36 mmar mtel mgai mfal mtop mstr mgho mfai mpto mwal mahd_c34 mahf_c35 mcho_u40 mbes_39 mbyt mtxt mpos mtka mtok mdig mnum mfau mrdm mrea mlin mlne mthg mord mbor mbsm mans mand manr mali) H := by rw [emcho_u40]; exact hP
                have hD : va_D A (wMod cI cZ cQ b mday mdoo mdA mdB mfar_c36 mmar mtel mgai mfal mtop mstr mgho mfai mpto mwal mahd_c34 mahf_c35 mcho_u40 mbes_39 mbyt mtxt mpos mtka mtok mdig mnum mfau mrdm mrea mlin mlne mthg mord mbor mbsm mans mand manr mali) := by rw [emcho_u40]; exact hD
                refine lv_iload hx hb dX10_plan_101 (lv_at hl 0 rfl) ?_
                refine lv_iload_n hx hb dX10_plan_103 rfl (lv_at hl 2 rfl) ?_
                refine lv_icmp_ne (tgt := 39) hx hb dX10_plan_104 (by decide) (fun c41 => ?_) (fun c41 => ?_)
                · have dc41 : z37.toInt ≠ n.toInt := neC rfl rfl c41
                  exact ih39 y39_4 z37 mahd_c34 mahf_c35 mfar_c36 mcho_u40 mbes_39 _ _ _ h32_0 h32_1 rmcho_u40 (by omega) (by omega) (by omega) (by (first | exact ok_down3 emcho_u40 i39_3 rfl (by omega) (by omega) | exact ok_same3 emcho_u40 i39_3 rfl (by omega) (by omega) (by omega) | exact ok_up3 emcho_u40 (by assumption) i39_3 (by omega) rfl (by omega) (by omega) (by omega) (by omega) rfl (by omega) | exact ok_back3 emcho_u40 (by assumption) i39_3 rfl (by omega) (by omega) (by omega) (by omega) (by omega) | exact ok_init3 emcho_u40 rfl rfl (by omega))) (by (first | exact pq_l (pq_R i39_4 (by assumption) (by assumption) (by omega) (by omega) (by assumption) (by omega) (by omega) (by omega) rfl) (by omega) (by assumption) (by omega) (by omega) i153_0 (by omega) i169_0 (by omega) (by omega) | exact pq_d (pq_R i39_4 (by assumption) (by assumption) (by omega) (by omega) (by assumption) (by omega) (by omega) (by omega) rfl) (by assumption) (by omega) (by omega) (by omega) (by omega) | exact pq_n i39_4 (by assumption) (by omega) (by assumption) (by assumption) (by omega) (by omega) | exact pq_a i39_4 (by assumption) (by omega) (by omega) (by omega) (by omega) (by omega) | exact pq_0 (by assumption) (by omega) (by assumption) (by first | rfl | omega) (by first | rfl | omega))) (by (refine Nat.lt_of_lt_of_le ?_ (Nat.le_of_lt_succ hm39); first | exact om_down3 emcho_u40 (by decide) rfl (by omega) (by omega) (by omega) | exact om_same3 emcho_u40 (by decide) rfl (by omega) (by omega) (by omega) | exact om_up3 emcho_u40 (by assumption) (by omega) rfl (by omega) (by omega) (by omega) (by omega) (by omega) rfl (by omega) | exact om_back3 emcho_u40 (by assumption) (by decide) rfl (by omega) (by omega) (by omega) (by omega) (by omega))) hP hD hS (lv_sub hl [1, 2, 3, 4, 5, 0] rfl)
                · have dc41 : z37.toInt = n.toInt := eqC rfl rfl c41
                  refine lv_aload_n hx hb dX10_plan_107 rfl (lv_at hl 1 rfl) ?_
                  refine lv_bipush (v := 48) hx hb dX10_plan_108 (by decide) ?_
                  refine lv_iload_n hx hb dX10_plan_110 rfl (lv_at hl 2 rfl) ?_
                  refine lv_imul hx hb dX10_plan_111 ?_
                  have f42 : (48 * n).toInt = (48) * (n.toInt) := mulC (show (48 : Int32).toInt = 48 from rfl) rfl (by omega) (by omega)
                  refine rdV (As := [.int (48 * n)]) (rest := []) ⟨hx, hb, hml, hown, hts⟩ (k_X10_allAt2 l dC dI cI cZ cQ b mday mdoo mdA mdB mfar_c36 mmar mtel mgai mfal mtop mstr mgho mfai mpto mwal mahd_c34 mahf_c35 mcho_u40 mbes_39 mbyt mtxt mpos mtka mtok mdig mnum mfau mrdm mrea mlin mlne mthg mord mbor mbsm mans mand manr mali (48 * n) r_mday r_mdoo r_mdA r_mdB r_mmar r_mgai r_mfal r_mtop r_mstr r_mgho r_mfai h32_0 h32_1 rmcho_u40 r_mbyt r_mpos r_mrdm r_mlin r_mthg r_mord r_mans (by omega) (by omega)) (cwV 1 hts gX10_plan_X10_allAt rfl rfl rfl (by decide +kernel) ⟨Nat.le_of_ble_eq_true rfl, Nat.le_of_ble_eq_true rfl⟩) hP hK hN [0, 1, 2, 3, 4, 5, 6, 7, 8, 9, 10, 11, 12, 13, 14, 15, 16, 17, 18, 19, 20, 21, 22, 23, 24, 25] rfl 0 10 rfl rfl rfl hl.1 rfl (Nat.le_of_ble_eq_true rfl) dX10_plan_112 ⟨Nat.le_of_ble_eq_true rfl, Nat.le_of_ble_eq_true rfl⟩ (fun r43 h44 => ?_)
                  have h44 : (r43.toInt = srF mtop (fun c => (mahd_c34 ((48 * n).toInt.toNat + c)).toInt) 0 48) ∧ (0 ≤ r43.toInt) := h44
                  obtain ⟨h44_0, h44_1⟩ := h44
                  refine lv_istore (lv' := [(6, .int r43), (5, .int z37), (0, .ref (b 39)), (1, .int n), (2, .int mi), (3, .int wh), (4, .int y39_4)]) hx hb dX10_plan_115 hl (by decide) rfl (fun ls hl => ?_)
                  have L153 : ∀ (mbes_153 : Nat → Int32) (H : Heap) (locs : List Loc) (ls : Array Slot), (bcX mcho_u40 mbes_39 mbes_153 n.toInt y39_4.toInt (r43.toInt)) → va_P (dC, dI) vwCl (wMod cI cZ cQ b mday mdoo mdA mdB mfar_c36 mmar mtel mgai mfal mtop mstr mgho mfai mpto mwal mahd_c34 mahf_c35 mcho_u40 mbes_153 mbyt mtxt mpos mtka mtok mdig mnum mfau mrdm mrea mlin mlne mthg mord mbor mbsm mans mand manr mali) H → va_D A (wMod cI cZ cQ b mday mdoo mdA mdB mfar_c36 mmar mtel mgai mfal mtop mstr mgho mfai mpto mwal mahd_c34 mahf_c35 mcho_u40 mbes_153 mbyt mtxt mpos mtka mtok mdig mnum mfau mrdm mrea mlin mlne mthg mord mbor mbsm mans mand manr mali) → va_S A s.heap H locs → lv_has ls 8 [(0, .ref (b 39)), (1, .int n), (2, .int mi), (3, .int wh), (4, .int y39_4), (5, .int z37), (6, .int r43)] → W p l e (headSpec wsX10_plan { frames := 4, cells := 0, slots := 0, locals := 97 }).room s m ([.ref (b 39), .int n, .int mi, .int wh] : List Value).toArray below meth c H locs 0 0 (MQ below (va_Qi (fun (r : Int32) (u : US) => (spPlnM mdA mdB mmar mfal mtop mstr mdoo.toInt mtel mgai.toInt n mi wh r) ∧ (rg 240 (0) (100) (u.1 0)) ∧ (rg 240 (0) (100) (u.1 1)) ∧ (rg 5 (-1) (9) (u.1 3))) (Bw (dC, dI) A (fun u : US => (wMod cI cZ cQ b mday mdoo mdA mdB (u.1 2) mmar mtel mgai mfal mtop mstr mgho mfai mpto mwal (u.1 0) (u.1 1) (u.1 3) (u.1 4) mbyt mtxt mpos mtka mtok mdig mnum mfau mrdm mrea mlin mlne mthg mord mbor mbsm mans mand manr mali))) A) ([.ref (b 39), .int n, .int mi, .int wh] : List Value).toArray s 0 0 A) (F0 m 153 ls []) := by
                    intro mbes_153 H locs ls i153_0 hP hD hS hl
                    have L169 : ∀ (y169_4 : Int32) (H : Heap) (locs : List Loc) (ls : Array Slot), (mxX y39_4 r43 y169_4) → va_P (dC, dI) vwCl (wMod cI cZ cQ b mday mdoo mdA mdB mfar_c36 mmar mtel mgai mfal mtop mstr mgho mfai mpto mwal mahd_c34 mahf_c35 mcho_u40 mbes_153 mbyt mtxt mpos mtka mtok mdig mnum mfau mrdm mrea mlin mlne mthg mord mbor mbsm mans mand manr mali) H → va_D A (wMod cI cZ cQ b mday mdoo mdA mdB mfar_c36 mmar mtel mgai mfal mtop mstr mgho mfai mpto mwal mahd_c34 mahf_c35 mcho_u40 mbes_153 mbyt mtxt mpos mtka mtok mdig mnum mfau mrdm mrea mlin mlne mthg mord mbor mbsm mans mand manr mali) → va_S A s.heap H locs → lv_has ls 8 [(0, .ref (b 39)), (1, .int n), (2, .int mi), (3, .int wh), (4, .int y169_4), (5, .int z37)] → W p l e (headSpec wsX10_plan { frames := 4, cells := 0, slots := 0, locals := 97 }).room s m ([.ref (b 39), .int n, .int mi, .int wh] : List Value).toArray below meth c H locs 0 0 (MQ below (va_Qi (fun (r : Int32) (u : US) => (spPlnM mdA mdB mmar mfal mtop mstr mdoo.toInt mtel mgai.toInt n mi wh r) ∧ (rg 240 (0) (100) (u.1 0)) ∧ (rg 240 (0) (100) (u.1 1)) ∧ (rg 5 (-1) (9) (u.1 3))) (Bw (dC, dI) A (fun u : US => (wMod cI cZ cQ b mday mdoo mdA mdB (u.1 2) mmar mtel mgai mfal mtop mstr mgho mfai mpto mwal (u.1 0) (u.1 1) (u.1 3) (u.1 4) mbyt mtxt mpos mtka mtok mdig mnum mfau mrdm mrea mlin mlne mthg mord mbor mbsm mans mand manr mali))) A) ([.ref (b 39), .int n, .int mi, .int wh] : List Value).toArray s 0 0 A) (F0 m 169 ls []) := by
                      intro y169_4 H locs ls i169_0 hP hD hS hl
                      obtain ⟨z45, ez45⟩ : ∃ y : Int32, y = z37 + (-1) := ⟨_, rfl⟩
                      have iz45 : z45.toInt = z37.toInt + (-1) := by rw [ez45]; exact addC rfl rfl (by omega) (by omega)
                      refine lv_iinc (v := z45) (lv' := [(5, .int z45), (0, .ref (b 39)), (1, .int n), (2, .int mi), (3, .int wh), (4, .int y169_4)]) hx hb dX10_plan_169 hl (k := 5) rfl (by rw [ez45]; rfl) (by decide) rfl (fun ls hl => ?_)
                      refine lv_goto (tgt := 39) hx hb dX10_plan_172 (by decide) ?_
                      exact ih39 y169_4 z45 mahd_c34 mahf_c35 mfar_c36 mcho_u40 mbes_153 _ _ _ h32_0 h32_1 rmcho_u40 (by omega) (by omega) (by omega) (by (first | exact ok_down3 emcho_u40 i39_3 rfl (by omega) (by omega) | exact ok_same3 emcho_u40 i39_3 rfl (by omega) (by omega) (by omega) | exact ok_up3 emcho_u40 (by assumption) i39_3 (by omega) rfl (by omega) (by omega) (by omega) (by omega) rfl (by omega) | exact ok_back3 emcho_u40 (by assumption) i39_3 rfl (by omega) (by omega) (by omega) (by omega) (by omega) | exact ok_init3 emcho_u40 rfl rfl (by omega))) (by (first | exact pq_l (pq_R i39_4 (by assumption) (by assumption) (by omega) (by omega) (by assumption) (by omega) (by omega) (by omega) rfl) (by omega) (by assumption) (by omega) (by omega) i153_0 (by omega) i169_0 (by omega) (by omega) | exact pq_d (pq_R i39_4 (by assumption) (by assumption) (by omega) (by omega) (by assumption) (by omega) (by omega) (by omega) rfl) (by assumption) (by omega) (by omega) (by omega) (by omega) | exact pq_n i39_4 (by assumption) (by omega) (by assumption) (by assumption) (by omega) (by omega) | exact pq_a i39_4 (by assumption) (by omega) (by omega) (by omega) (by omega) (by omega) | exact pq_0 (by assumption) (by omega) (by assumption) (by first | rfl | omega) (by first | rfl | omega))) (by (refine Nat.lt_of_lt_of_le ?_ (Nat.le_of_lt_succ hm39); first | exact om_down3 emcho_u40 (by decide) rfl (by omega) (by omega) (by omega) | exact om_same3 emcho_u40 (by decide) rfl (by omega) (by omega) (by omega) | exact om_up3 emcho_u40 (by assumption) (by omega) rfl (by omega) (by omega) (by omega) (by omega) (by omega) rfl (by omega) | exact om_back3 emcho_u40 (by assumption) (by decide) rfl (by omega) (by omega) (by omega) (by omega) (by omega))) hP hD hS (lv_sub hl [1, 2, 3, 4, 5, 0] rfl)
                    refine lv_iload hx hb dX10_plan_153 (lv_at hl 6 rfl) ?_
                    refine lv_iload hx hb dX10_plan_155 (lv_at hl 4 rfl) ?_
                    refine lv_icmp_le (tgt := 165) hx hb dX10_plan_157 (by decide) (fun c46 => ?_) (fun c46 => ?_)
                    · have dc46 : r43.toInt ≤ y39_4.toInt := leC rfl rfl c46
                      refine lv_iload hx hb dX10_plan_165 (lv_at hl 4 rfl) ?_
                      refine lv_istore (lv' := [(4, .int y39_4), (0, .ref (b 39)), (1, .int n), (2, .int mi), (3, .int wh), (5, .int z37), (6, .int r43)]) hx hb dX10_plan_167 hl (by decide) rfl (fun ls hl => ?_)
                      exact L169 y39_4 _ _ _ (by (first | exact mx_v (by omega) | exact mx_m (by omega))) hP hD hS (lv_sub hl [1, 2, 3, 4, 0, 5] rfl)
                    · have dc46 : y39_4.toInt < r43.toInt := nleC rfl rfl c46
                      refine lv_iload hx hb dX10_plan_160 (lv_at hl 6 rfl) ?_
                      refine lv_goto (tgt := 167) hx hb dX10_plan_162 (by decide) ?_
                      refine lv_istore (lv' := [(4, .int r43), (0, .ref (b 39)), (1, .int n), (2, .int mi), (3, .int wh), (5, .int z37), (6, .int r43)]) hx hb dX10_plan_167 hl (by decide) rfl (fun ls hl => ?_)
                      exact L169 r43 _ _ _ (by (first | exact mx_v (by omega) | exact mx_m (by omega))) hP hD hS (lv_sub hl [1, 2, 3, 4, 0, 5] rfl)
                  refine lv_iconst (v := 0) hx hb dX10_plan_117 (by decide) ?_
                  refine lv_istore (lv' := [(7, .int 0), (6, .int r43), (5, .int z37), (0, .ref (b 39)), (1, .int n), (2, .int mi), (3, .int wh), (4, .int y39_4)]) hx hb dX10_plan_118 hl (by decide) rfl (fun ls hl => ?_)
                  have L120 : ∀ (nn : Nat) (y120_7 : Int32) (mbes_120 : Nat → Int32) (H : Heap) (locs : List Loc) (ls : Array Slot), (0 ≤ (y120_7.toInt)) → ((y120_7.toInt) ≤ 4) → (bcI mcho_u40 mbes_39 mbes_120 (y120_7.toInt) y39_4.toInt (r43.toInt)) → (4 - (y120_7.toInt)).toNat < nn → va_P (dC, dI) vwCl (wMod cI cZ cQ b mday mdoo mdA mdB mfar_c36 mmar mtel mgai mfal mtop mstr mgho mfai mpto mwal mahd_c34 mahf_c35 mcho_u40 mbes_120 mbyt mtxt mpos mtka mtok mdig mnum mfau mrdm mrea mlin mlne mthg mord mbor mbsm mans mand manr mali) H → va_D A (wMod cI cZ cQ b mday mdoo mdA mdB mfar_c36 mmar mtel mgai mfal mtop mstr mgho mfai mpto mwal mahd_c34 mahf_c35 mcho_u40 mbes_120 mbyt mtxt mpos mtka mtok mdig mnum mfau mrdm mrea mlin mlne mthg mord mbor mbsm mans mand manr mali) → va_S A s.heap H locs → lv_has ls 8 [(0, .ref (b 39)), (1, .int n), (2, .int mi), (3, .int wh), (4, .int y39_4), (5, .int z37), (6, .int r43), (7, .int y120_7)] → W p l e (headSpec wsX10_plan { frames := 4, cells := 0, slots := 0, locals := 97 }).room s m ([.ref (b 39), .int n, .int mi, .int wh] : List Value).toArray below meth c H locs 0 0 (MQ below (va_Qi (fun (r : Int32) (u : US) => (spPlnM mdA mdB mmar mfal mtop mstr mdoo.toInt mtel mgai.toInt n mi wh r) ∧ (rg 240 (0) (100) (u.1 0)) ∧ (rg 240 (0) (100) (u.1 1)) ∧ (rg 5 (-1) (9) (u.1 3))) (Bw (dC, dI) A (fun u : US => (wMod cI cZ cQ b mday mdoo mdA mdB (u.1 2) mmar mtel mgai mfal mtop mstr mgho mfai mpto mwal (u.1 0) (u.1 1) (u.1 3) (u.1 4) mbyt mtxt mpos mtka mtok mdig mnum mfau mrdm mrea mlin mlne mthg mord mbor mbsm mans mand manr mali))) A) ([.ref (b 39), .int n, .int mi, .int wh] : List Value).toArray s 0 0 A) (F0 m 120 ls []) := by
                    intro nn
                    induction nn with
                    | zero =>
                      intro y120_7 mbes_120 H locs ls i120_0 i120_1 i120_2 hm120
                      exact absurd hm120 (Nat.not_lt_zero _)
                    | succ nn ih120 =>
                      intro y120_7 mbes_120 H locs ls i120_0 i120_1 i120_2 hm120 hP hD hS hl
                      refine lv_iload hx hb dX10_plan_120 (lv_at hl 7 rfl) ?_
                      refine lv_iload_n hx hb dX10_plan_122 rfl (lv_at hl 1 rfl) ?_
                      refine lv_icmp_ge (tgt := 153) hx hb dX10_plan_123 (by decide) (fun c47 => ?_) (fun c47 => ?_)
                      · have dc47 : n.toInt ≤ y120_7.toInt := leC rfl rfl c47
                        exact L153 mbes_120 _ _ _ (by (first | exact bc_n i120_2 (by omega) (by omega) | exact bc_q i120_2 (by omega))) hP hD hS (lv_sub hl [0, 1, 2, 3, 4, 5, 6] rfl)
                      · have dc47 : y120_7.toInt < n.toInt := nleC rfl rfl c47
                        refine lv_iload hx hb dX10_plan_126 (lv_at hl 6 rfl) ?_
                        refine lv_iload hx hb dX10_plan_128 (lv_at hl 4 rfl) ?_
                        refine lv_icmp_le (tgt := 153) hx hb dX10_plan_130 (by decide) (fun c48 => ?_) (fun c48 => ?_)
                        · have dc48 : r43.toInt ≤ y39_4.toInt := leC rfl rfl c48
                          exact L153 mbes_120 _ _ _ (by (first | exact bc_n i120_2 (by omega) (by omega) | exact bc_q i120_2 (by omega))) hP hD hS (lv_sub hl [0, 1, 2, 3, 4, 5, 6] rfl)
                        · have dc48 : y39_4.toInt < r43.toInt := nleC rfl rfl c48
                          refine lv_aload_n hx hb dX10_plan_133 rfl (lv_at hl 0 rfl) ?_
                          refine va_get (D := (dC, dI)) (ci := 10) (v := .ref (b 18)) (C := RX10) (T := TX10) (N := 39) hx hb hts inX10 hown hK hP 0 rfl rfl 18 (by decide) lf59 (fun _ h9 => h9) rfl dX10_plan_134 ?_
                          refine lv_iload hx hb dX10_plan_137 (lv_at hl 7 rfl) ?_
                          refine lv_aload_n hx hb dX10_plan_139 rfl (lv_at hl 0 rfl) ?_
                          refine va_get (D := (dC, dI)) (ci := 10) (v := .ref (b 17)) (C := RX10) (T := TX10) (N := 39) hx hb hts inX10 hown hK hP 0 rfl rfl 17 (by decide) lf56 (fun _ h9 => h9) rfl dX10_plan_140 ?_
                          refine lv_iload hx hb dX10_plan_143 (lv_at hl 7 rfl) ?_
                          have b49 : vp_in y120_7 5 := inC rfl (by omega) (by omega)
                          refine va_iald hx hb hK hP 14 0 rfl rfl b49 dX10_plan_145 ?_
                          have g50 : -1 ≤ (mcho_u40 y120_7.toNatClampNeg).toInt ∧ (mcho_u40 y120_7.toNatClampNeg).toInt ≤ 9 := rg_at rmcho_u40 b49
                          refine lv_topi (fun x51 ex51 => ?_)
                          have ix51 : x51.toInt = (mcho_u40 y120_7.toNatClampNeg).toInt := by rw [ex51]
                          have b52 : vp_in y120_7 4 := inC rfl (by omega) (by omega)
                          refine va_iast hx hb hK hP hD hS 15 0 rfl rfl b52 dX10_plan_146 (fun H locs hP hD hS => ?_)
                          obtain ⟨mbes_u53, embes_u53⟩ : ∃ f : Nat → Int32, f = upd mbes_120 y120_7.toNatClampNeg x51 := ⟨_, rfl⟩
                          have hP : va_P (dC, dI) vwCl (wMod cI cZ cQ b mday mdoo mdA mdB mfar_c36 mmar mtel mgai mfal mtop mstr mgho mfai mpto mwal mahd_c34 mahf_c35 mcho_u40 mbes_u53 mbyt mtxt mpos mtka mtok mdig mnum mfau mrdm mrea mlin mlne mthg mord mbor mbsm mans mand manr mali) H := by rw [embes_u53]; exact hP
                          have hD : va_D A (wMod cI cZ cQ b mday mdoo mdA mdB mfar_c36 mmar mtel mgai mfal mtop mstr mgho mfai mpto mwal mahd_c34 mahf_c35 mcho_u40 mbes_u53 mbyt mtxt mpos mtka mtok mdig mnum mfau mrdm mrea mlin mlne mthg mord mbor mbsm mans mand manr mali) := by rw [embes_u53]; exact hD
                          obtain ⟨z54, ez54⟩ : ∃ y : Int32, y = y120_7 + 1 := ⟨_, rfl⟩
                          have iz54 : z54.toInt = y120_7.toInt + 1 := by rw [ez54]; exact addC rfl rfl (by omega) (by omega)
                          refine lv_iinc (v := z54) (lv' := [(7, .int z54), (0, .ref (b 39)), (1, .int n), (2, .int mi), (3, .int wh), (4, .int y39_4), (5, .int z37), (6, .int r43)]) hx hb dX10_plan_147 hl (k := 7) rfl (by rw [ez54]; rfl) (by decide) rfl (fun ls hl => ?_)
                          refine lv_goto (tgt := 120) hx hb dX10_plan_150 (by decide) ?_
                          exact ih120 z54 mbes_u53 _ _ _ (by omega) (by omega) (by (first | exact bc_s i120_2 (by assumption) (by assumption) (by omega) (by omega) (by omega) | exact bc_0 (by first | rfl | omega))) (by omega) hP hD hS (lv_sub hl [1, 2, 3, 4, 5, 6, 7, 0] rfl)
                  have kc55 : (0 : Int32).toInt = 0 := rfl
                  exact L120 _ 0 mbes_39 _ _ _ (by omega) (by omega) (by (first | exact bc_s i120_2 (by assumption) (by assumption) (by omega) (by omega) (by omega) | exact bc_0 (by first | rfl | omega))) (Nat.lt_succ_self _) hP hD hS (lv_sub hl [3, 4, 5, 6, 7, 2, 1, 0] rfl)
              · refine lv_if_eq (tgt := 39) hx hb dX10_plan_87 (by decide) (fun _ => ?_) (fun c9 => absurd (by decide) c9)
                exact ih39 y39_4 y39_5 mahd_c34 mahf_c35 mfar_c36 mcho_u23 mbes_39 _ _ _ h32_0 h32_1 rmcho_u23 (by omega) (by omega) (by omega) (by (first | exact ok_down3 emcho_u23 i39_3 rfl (by omega) (by omega) | exact ok_same3 emcho_u23 i39_3 rfl (by omega) (by omega) (by omega) | exact ok_up3 emcho_u23 (by assumption) i39_3 (by omega) rfl (by omega) (by omega) (by omega) (by omega) rfl (by omega) | exact ok_back3 emcho_u23 (by assumption) i39_3 rfl (by omega) (by omega) (by omega) (by omega) (by omega) | exact ok_init3 emcho_u23 rfl rfl (by omega))) (by (first | exact pq_l (pq_R i39_4 (by assumption) (by assumption) (by omega) (by omega) (by assumption) (by omega) (by omega) (by omega) rfl) (by omega) (by assumption) (by omega) (by omega) i153_0 (by omega) i169_0 (by omega) (by omega) | exact pq_d (pq_R i39_4 (by assumption) (by assumption) (by omega) (by omega) (by assumption) (by omega) (by omega) (by omega) rfl) (by assumption) (by omega) (by omega) (by omega) (by omega) | exact pq_n i39_4 (by assumption) (by omega) (by assumption) (by assumption) (by omega) (by omega) | exact pq_a i39_4 (by assumption) (by omega) (by omega) (by omega) (by omega) (by omega) | exact pq_0 (by assumption) (by omega) (by assumption) (by first | rfl | omega) (by first | rfl | omega))) (by (refine Nat.lt_of_lt_of_le ?_ (Nat.le_of_lt_succ hm39); first | exact om_down3 emcho_u23 (by decide) rfl (by omega) (by omega) (by omega) | exact om_same3 emcho_u23 (by decide) rfl (by omega) (by omega) (by omega) | exact om_up3 emcho_u23 (by assumption) (by omega) rfl (by omega) (by omega) (by omega) (by omega) (by omega) rfl (by omega) | exact om_back3 emcho_u23 (by assumption) (by decide) rfl (by omega) (by omega) (by omega) (by omega) (by omega))) hP hD hS (lv_sub hl [0, 1, 2, 3, 4, 5] rfl)
            · have dc27 : 8 < (mcho_u23 y39_5.toNatClampNeg).toInt := nleC rfl (show (8 : Int32).toInt = 8 from rfl) c27
              obtain ⟨z56, ez56⟩ : ∃ y : Int32, y = y39_5 + (-1) := ⟨_, rfl⟩
              have iz56 : z56.toInt = y39_5.toInt + (-1) := by rw [ez56]; exact addC rfl rfl (by omega) (by omega)
              refine lv_iinc (v := z56) (lv' := [(5, .int z56), (0, .ref (b 39)), (1, .int n), (2, .int mi), (3, .int wh), (4, .int y39_4)]) hx hb dX10_plan_67 hl (k := 5) rfl (by rw [ez56]; rfl) (by decide) rfl (fun ls hl => ?_)
              refine lv_goto (tgt := 39) hx hb dX10_plan_70 (by decide) ?_
              exact ih39 y39_4 z56 mahd_39 mahf_39 mfar_39 mcho_u23 mbes_39 _ _ _ r_mahd_39 r_mahf_39 rmcho_u23 (by omega) (by omega) (by omega) (by (first | exact ok_down3 emcho_u23 i39_3 rfl (by omega) (by omega) | exact ok_same3 emcho_u23 i39_3 rfl (by omega) (by omega) (by omega) | exact ok_up3 emcho_u23 (by assumption) i39_3 (by omega) rfl (by omega) (by omega) (by omega) (by omega) rfl (by omega) | exact ok_back3 emcho_u23 (by assumption) i39_3 rfl (by omega) (by omega) (by omega) (by omega) (by omega) | exact ok_init3 emcho_u23 rfl rfl (by omega))) (by (first | exact pq_l (pq_R i39_4 (by assumption) (by assumption) (by omega) (by omega) (by assumption) (by omega) (by omega) (by omega) rfl) (by omega) (by assumption) (by omega) (by omega) i153_0 (by omega) i169_0 (by omega) (by omega) | exact pq_d (pq_R i39_4 (by assumption) (by assumption) (by omega) (by omega) (by assumption) (by omega) (by omega) (by omega) rfl) (by assumption) (by omega) (by omega) (by omega) (by omega) | exact pq_n i39_4 (by assumption) (by omega) (by assumption) (by assumption) (by omega) (by omega) | exact pq_a i39_4 (by assumption) (by omega) (by omega) (by omega) (by omega) (by omega) | exact pq_0 (by assumption) (by omega) (by assumption) (by first | rfl | omega) (by first | rfl | omega))) (by (refine Nat.lt_of_lt_of_le ?_ (Nat.le_of_lt_succ hm39); first | exact om_down3 emcho_u23 (by decide) rfl (by omega) (by omega) (by omega) | exact om_same3 emcho_u23 (by decide) rfl (by omega) (by omega) (by omega) | exact om_up3 emcho_u23 (by assumption) (by omega) rfl (by omega) (by omega) (by omega) (by omega) (by omega) rfl (by omega) | exact om_back3 emcho_u23 (by assumption) (by decide) rfl (by omega) (by omega) (by omega) (by omega) (by omega))) hP hD hS (lv_sub hl [1, 2, 3, 4, 5, 0] rfl)
      have kc57 : ((-1) : Int32).toInt = -1 := rfl
      have kc58 : (0 : Int32).toInt = 0 := rfl
      exact L39 _ (-1) 0 mahd_c9 mahf_c10 mfar mcho_u13 mbes _ _ _ h7_1 h7_2 rmcho_u13 (by omega) (by omega) (by omega) (by (first | exact ok_init3 emcho_u13 rfl rfl (by omega) | exact ok_down3 emcho_u13 i39_3 rfl (by omega) (by omega) | exact ok_same3 emcho_u13 i39_3 rfl (by omega) (by omega) (by omega) | exact ok_up3 emcho_u13 (by assumption) i39_3 (by omega) rfl (by omega) (by omega) (by omega) (by omega) rfl (by omega) | exact ok_back3 emcho_u13 (by assumption) i39_3 rfl (by omega) (by omega) (by omega) (by omega) (by omega))) (by (first | exact pq_l (pq_R i39_4 (by assumption) (by assumption) (by omega) (by omega) (by assumption) (by omega) (by omega) (by omega) rfl) (by omega) (by assumption) (by omega) (by omega) i153_0 (by omega) i169_0 (by omega) (by omega) | exact pq_d (pq_R i39_4 (by assumption) (by assumption) (by omega) (by omega) (by assumption) (by omega) (by omega) (by omega) rfl) (by assumption) (by omega) (by omega) (by omega) (by omega) | exact pq_n i39_4 (by assumption) (by omega) (by assumption) (by assumption) (by omega) (by omega) | exact pq_a i39_4 (by assumption) (by omega) (by omega) (by omega) (by omega) (by omega) | exact pq_0 (by assumption) (by omega) (by assumption) (by first | rfl | omega) (by first | rfl | omega))) (Nat.lt_succ_self _) hP hD hS (lv_sub hl [2, 3, 4, 5, 1, 0] rfl)
    · refine lv_if_ne (tgt := 22) hx hb dX10_plan_16 (by decide) (fun c9 => absurd (by decide) c9) (fun _ => ?_)
      refine lv_bipush (v := (-3)) hx hb dX10_plan_19 (by decide) ?_
      exact W.iret (v := (-3)) hx hb hr (fun tq ht hW => ⟨⟨(-3), (uS [mahd, mahf, mfar, mcho, mbes] 0 (fun _ => 0)), rfl, ⟨(show spPlnM mdA mdB mmar mfal mtop mstr mdoo.toInt mtel mgai.toInt n mi wh ((-3) : Int32) from by (try rw [show ((-3) : Int32).toInt = (-3) from (show ((-3) : Int32).toInt = (-3) from rfl)]); (first | exact Or.inl ⟨bl_m (by assumption), rfl⟩ | exact Or.inl ⟨Or.inr (Or.inl (by omega)), rfl⟩ | exact pl_mE ⟨by omega, by omega⟩ ⟨by omega, by omega⟩ (by assumption) i39_4 (by omega) (an_s (by omega)) | exact pl_mE ⟨by omega, by omega⟩ ⟨by omega, by omega⟩ (by assumption) i39_4 (by omega) (an_b (by omega) rfl))), r_mahd, r_mahf, r_mcho⟩, by rw [ht]; exact hP, hD⟩, hS.F ht⟩) hS.2.2 dX10_plan_21
  · refine lv_if_eq (tgt := 19) hx hb dX10_plan_5 (by decide) (fun _ => ?_) (fun c9 => absurd (by decide) c9)
    refine lv_bipush (v := (-3)) hx hb dX10_plan_19 (by decide) ?_
    exact W.iret (v := (-3)) hx hb hr (fun tq ht hW => ⟨⟨(-3), (uS [mahd, mahf, mfar, mcho, mbes] 0 (fun _ => 0)), rfl, ⟨(show spPlnM mdA mdB mmar mfal mtop mstr mdoo.toInt mtel mgai.toInt n mi wh ((-3) : Int32) from by (try rw [show ((-3) : Int32).toInt = (-3) from (show ((-3) : Int32).toInt = (-3) from rfl)]); (first | exact Or.inl ⟨bl_m (by assumption), rfl⟩ | exact Or.inl ⟨Or.inr (Or.inl (by omega)), rfl⟩ | exact pl_mE ⟨by omega, by omega⟩ ⟨by omega, by omega⟩ (by assumption) i39_4 (by omega) (an_s (by omega)) | exact pl_mE ⟨by omega, by omega⟩ ⟨by omega, by omega⟩ (by assumption) i39_4 (by omega) (an_b (by omega) rfl))), r_mahd, r_mahf, r_mcho⟩, by rw [ht]; exact hP, hD⟩, hS.F ht⟩) hS.2.2 dX10_plan_21
