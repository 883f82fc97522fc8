-- ===== numbers: values of Int32 by their toInt =====
theorem ka_bmod {x : Int} (h1 : -2147483648 ≤ x) (h2 : x ≤ 2147483647) : x.bmod (2 ^ 32) = x := Int.bmod_eq_of_le (by omega) (by omega)
theorem addC {a b : Int32} {A B : Int} (ha : a.toInt = A) (hb : b.toInt = B) (h1 : -2147483648 ≤ A + B) (h2 : A + B ≤ 2147483647) : (a + b).toInt = A + B := by
  subst ha; subst hb
  rw [Int32.toInt_add]; exact ka_bmod h1 h2
theorem subC {a b : Int32} {A B : Int} (ha : a.toInt = A) (hb : b.toInt = B) (h1 : -2147483648 ≤ A - B) (h2 : A - B ≤ 2147483647) : (a - b).toInt = A - B := by
  subst ha; subst hb
  rw [Int32.toInt_sub]; exact ka_bmod h1 h2
theorem mulC {a b : Int32} {A B : Int} (ha : a.toInt = A) (hb : b.toInt = B) (h1 : -2147483648 ≤ A * B) (h2 : A * B ≤ 2147483647) : (a * b).toInt = A * B := by
  subst ha; subst hb
  rw [Int32.toInt_mul]; exact ka_bmod h1 h2
theorem mulB {a b : Int32} {A B p q : Int} (ha : a.toInt = A) (hb : b.toInt = B) (h1 : 0 ≤ A) (h2 : A ≤ p) (h3 : 0 ≤ B) (h4 : B ≤ q) (h5 : p * q ≤ 2147483647) : (a * b).toInt = A * B ∧ 0 ≤ A * B ∧ A * B ≤ A * q := by
  have e1 : 0 ≤ A * B := Int.mul_nonneg h1 h3
  have e2 : A * B ≤ A * q := Int.mul_le_mul_of_nonneg_left h4 h1
  have e3 : A * q ≤ p * q := Int.mul_le_mul_of_nonneg_right h2 (by omega)
  exact ⟨mulC ha hb (by omega) (by omega), e1, e2⟩
theorem divC {a b : Int32} {A B : Int} (ha : a.toInt = A) (hb : b.toInt = B) (h1 : 0 ≤ A) (h2 : 0 < B) : (a / b).toInt = A / B := by
  have hl := a.toInt_lt
  subst ha; subst hb
  rw [Int32.toInt_div, Int.tdiv_eq_ediv_of_nonneg h1]
  have h3 : 0 ≤ a.toInt / b.toInt := Int.ediv_nonneg h1 (Int.le_of_lt h2)
  have h4 : a.toInt / b.toInt ≤ a.toInt := Int.ediv_le_self _ h1
  exact ka_bmod (by omega) (by omega)
theorem remC {a b : Int32} {A B : Int} (ha : a.toInt = A) (hb : b.toInt = B) (h1 : 0 ≤ A) (h2 : 0 < B) : (a - a / b * b).toInt = A % B := by
  have hl := a.toInt_lt
  have hd := divC ha hb h1 h2
  have h3 : 0 ≤ A / B := Int.ediv_nonneg h1 (Int.le_of_lt h2)
  have h5 : A % B = A - B * (A / B) := Int.emod_def A B
  have h6 : 0 ≤ A % B := Int.emod_nonneg _ (by omega)
  have h7 : A / B * B = B * (A / B) := Int.mul_comm _ _
  have h8 : 0 ≤ A / B * B := Int.mul_nonneg h3 (Int.le_of_lt h2)
  have hm : (a / b * b).toInt = A / B * B := mulC hd hb (by omega) (by omega)
  rw [subC ha hm (by omega) (by omega)]
  omega
theorem andR {a m : Int32} {M : Int} (hm : m.toInt = M) (h : 0 ≤ M) : 0 ≤ (a &&& m).toInt ∧ (a &&& m).toInt ≤ M := by
  subst hm
  have h0 : (a &&& m).toBitVec = a.toBitVec &&& m.toBitVec := rfl
  have hmt : m.toInt = m.toBitVec.toInt := rfl
  have hat : (a &&& m).toInt = (a &&& m).toBitVec.toInt := rfl
  have h1 : (a.toBitVec &&& m.toBitVec).toNat ≤ m.toBitVec.toNat := by rw [BitVec.toNat_and]; exact Nat.and_le_right
  rw [hat, h0]
  rw [hmt] at h ⊢
  rw [BitVec.toInt_eq_toNat_cond] at h ⊢
  rw [BitVec.toInt_eq_toNat_cond]
  have hb := m.toBitVec.isLt
  split at h <;> split <;> omega
theorem l2iM (x : Int64) (m : Nat) (hm : m < 2 ^ 31) : 0 ≤ ((x &&& Int64.ofNat m).toInt32).toInt ∧ ((x &&& Int64.ofNat m).toInt32).toInt ≤ m := by
  have h0 : (x &&& Int64.ofNat m).toInt32.toBitVec = ((x.toBitVec &&& BitVec.ofNat 64 m)).signExtend 32 := rfl
  have h1 : (x.toBitVec &&& BitVec.ofNat 64 m).toNat ≤ m := by
    rw [BitVec.toNat_and]
    refine Nat.le_trans Nat.and_le_right ?_
    rw [BitVec.toNat_ofNat]; exact Nat.mod_le _ _
  have h2 : ((x &&& Int64.ofNat m).toInt32.toBitVec).toNat = (x.toBitVec &&& BitVec.ofNat 64 m).toNat := by
    rw [h0, BitVec.signExtend_eq_setWidth_of_le _ (by decide), BitVec.toNat_setWidth]
    exact Nat.mod_eq_of_lt (by omega)
  have hat : ((x &&& Int64.ofNat m).toInt32).toInt = ((x &&& Int64.ofNat m).toInt32.toBitVec).toInt := rfl
  rw [hat, BitVec.toInt_eq_toNat_cond, h2]
  split <;> omega
theorem l2iM31 (x : Int64) : 0 ≤ ((x &&& 31).toInt32).toInt ∧ ((x &&& 31).toInt32).toInt ≤ 31 := l2iM x 31 (by decide)
theorem l2iM255 (x : Int64) : 0 ≤ ((x &&& 255).toInt32).toInt ∧ ((x &&& 255).toInt32).toInt ≤ 255 := l2iM x 255 (by decide)
theorem ka_shl : ∀ j, j < 31 → (1 : Int32) <<< (nI j &&& 31) = nI (2 ^ j) := by decide +kernel
theorem shl1 {y : Int32} {Y : Int} (hy : y.toInt = Y) (h0 : 0 ≤ Y) (k : Nat) (h1 : Y ≤ k) (hk : k ≤ 30) : 1 ≤ ((1 : Int32) <<< (y &&& 31)).toInt ∧ ((1 : Int32) <<< (y &&& 31)).toInt ≤ ((2 ^ k : Nat) : Int) := by
  obtain ⟨j, hj, rfl⟩ := vp_in_of (x := y) (n := 31) (vp_in_iff.mpr ⟨by omega, by omega⟩) (by decide)
  rw [nI_toInt (by omega)] at hy
  have hjk : j ≤ k := by omega
  have hp : 2 ^ j ≤ 2 ^ k := Nat.pow_le_pow_right (by decide) hjk
  have hp2 : 2 ^ k ≤ 2 ^ 30 := Nat.pow_le_pow_right (by decide) hk
  have hp3 : 1 ≤ 2 ^ j := Nat.one_le_two_pow
  rw [ka_shl j (by omega), nI_toInt (by omega)]
  omega
theorem ka_nn {a : Int32} (h : 0 ≤ a.toInt) : a.toInt = (a.toBitVec.toNat : Int) := by
  have e : a.toInt = a.toBitVec.toInt := rfl
  rw [e] at h ⊢
  rw [BitVec.toInt_eq_toNat_cond] at h ⊢
  have := a.toBitVec.isLt
  split at h <;> rename_i q <;> simp only [q, if_true, if_false] at * <;> omega
theorem orB {a b : Int32} {A B : Int} (ha : a.toInt = A) (hb : b.toInt = B) (k : Nat) (h1 : 0 ≤ A) (h2 : A ≤ ((2 ^ k - 1 : Nat) : Int)) (h3 : 0 ≤ B) (h4 : B ≤ ((2 ^ k - 1 : Nat) : Int)) (hk : k ≤ 24) : 0 ≤ (a ||| b).toInt ∧ (a ||| b).toInt ≤ ((2 ^ k - 1 : Nat) : Int) := by
  subst ha; subst hb
  have hk1 : 1 ≤ 2 ^ k := Nat.one_le_two_pow
  have hk2 : 2 ^ k ≤ 2 ^ 24 := Nat.pow_le_pow_right (by decide) hk
  have ea := ka_nn h1
  have eb := ka_nn h3
  have h0 : (a ||| b).toBitVec = a.toBitVec ||| b.toBitVec := rfl
  have hn : (a ||| b).toBitVec.toNat < 2 ^ k := by
    rw [h0, BitVec.toNat_or]
    exact Nat.or_lt_two_pow (by omega) (by omega)
  have e : (a ||| b).toInt = (a ||| b).toBitVec.toInt := rfl
  rw [e, BitVec.toInt_eq_toNat_cond]
  split <;> omega
theorem ltC {a b : Int32} {A B : Int} (ha : a.toInt = A) (hb : b.toInt = B) (h : a < b) : A < B := by subst ha; subst hb; exact Int32.lt_iff_toInt_lt.mp h
theorem leC {a b : Int32} {A B : Int} (ha : a.toInt = A) (hb : b.toInt = B) (h : a ≤ b) : A ≤ B := by subst ha; subst hb; exact Int32.le_iff_toInt_le.mp h
theorem eqC {a b : Int32} {A B : Int} (ha : a.toInt = A) (hb : b.toInt = B) (h : a = b) : A = B := by subst ha; subst hb; exact congrArg _ h
theorem nltC {a b : Int32} {A B : Int} (ha : a.toInt = A) (hb : b.toInt = B) (h : ¬ a < b) : B ≤ A := by subst ha; subst hb; exact Int.not_lt.mp (fun q => h (Int32.lt_iff_toInt_lt.mpr q))
theorem nleC {a b : Int32} {A B : Int} (ha : a.toInt = A) (hb : b.toInt = B) (h : ¬ a ≤ b) : B < A := by subst ha; subst hb; exact Int.not_le.mp (fun q => h (Int32.le_iff_toInt_le.mpr q))
theorem neC {a b : Int32} {A B : Int} (ha : a.toInt = A) (hb : b.toInt = B) (h : ¬ a = b) : A ≠ B := by subst ha; subst hb; exact fun q => h (Int32.toInt_inj.mp q)
theorem maxC {a b : Int32} {A B : Int} (ha : a.toInt = A) (hb : b.toInt = B) : (if a < b then b else a).toInt = max A B := by
  subst ha; subst hb
  split
  · rename_i h; have := Int32.lt_iff_toInt_lt.mp h; omega
  · rename_i h; have : b.toInt ≤ a.toInt := Int.not_lt.mp (fun q => h (Int32.lt_iff_toInt_lt.mpr q)); omega
theorem minC {a b : Int32} {A B : Int} (ha : a.toInt = A) (hb : b.toInt = B) : (if b < a then b else a).toInt = min A B := by
  subst ha; subst hb
  split
  · rename_i h; have := Int32.lt_iff_toInt_lt.mp h; omega
  · rename_i h; have : a.toInt ≤ b.toInt := Int.not_lt.mp (fun q => h (Int32.lt_iff_toInt_lt.mpr q)); omega
theorem inC {x : Int32} {n : Nat} {X : Int} (hx : x.toInt = X) (h1 : 0 ≤ X) (h2 : X < n) : vp_in x n := by subst hx; exact vp_in_iff.mpr ⟨h1, h2⟩
theorem clC {x : Int32} {X : Int} (hx : x.toInt = X) : x.toNatClampNeg = X.toNat := by subst hx; rfl
theorem n0C {x : Int32} {X : Int} (hx : x.toInt = X) (h : X ≠ 0) : ¬ x = 0 := fun q => by subst q; exact h (hx.symm.trans Int32.toInt_zero)
theorem ci2 {x : Int32} {X : Int} (hx : x.toInt = X) (h : X = 0 ∨ X = 1) : x = 0 ∨ x = 1 := by
  subst hx; rcases h with h | h
  · exact Or.inl (Int32.toInt_inj.mp h)
  · exact Or.inr (Int32.toInt_inj.mp h)
theorem ci4 {x : Int32} {X : Int} (hx : x.toInt = X) (h : X = 0 ∨ X = 1 ∨ X = 2 ∨ X = 3) : x = 0 ∨ x = 1 ∨ x = 2 ∨ x = 3 := by
  subst hx; rcases h with h | h | h | h
  · exact Or.inl (Int32.toInt_inj.mp h)
  · exact Or.inr (Or.inl (Int32.toInt_inj.mp h))
  · exact Or.inr (Or.inr (Or.inl (Int32.toInt_inj.mp h)))
  · exact Or.inr (Or.inr (Or.inr (Int32.toInt_inj.mp h)))
-- ===== rows of numbers within bounds =====
def rg (n : Nat) (lo hi : Int) (f : Nat → Int32) : Prop := ∀ j, j < n → lo ≤ (f j).toInt ∧ (f j).toInt ≤ hi
theorem rg_at {n : Nat} {lo hi : Int} {f : Nat → Int32} (h : rg n lo hi f) {i : Int32} (b : vp_in i n) : lo ≤ (f i.toNatClampNeg).toInt ∧ (f i.toNatClampNeg).toInt ≤ hi := h _ (Nat.not_le.mp fun q => b (Or.inr q))
theorem rg_upd {n : Nat} {lo hi : Int} {f : Nat → Int32} (h : rg n lo hi f) {k : Nat} {v : Int32} {V : Int} (hv : v.toInt = V) (h1 : lo ≤ V) (h2 : V ≤ hi) : rg n lo hi (upd f k v) := by
  intro j hj
  by_cases e : j = k
  · subst e; rw [pk_us, hv]; exact ⟨h1, h2⟩
  · rw [pk_un e]; exact h j hj
theorem rg_cpy {n : Nat} {lo hi : Int} {f g : Nat → Int32} {m k : Nat} (hf : rg m lo hi f) (hg : rg n lo hi g) (hk : k ≤ m) : rg n lo hi (va_cpy f g 0 0 k) := by
  intro j hj
  unfold va_cpy
  split
  · rename_i h; have h2 := hf (0 + (j - 0)) (by omega); exact h2
  · exact hg j hj
-- ===== words of private members, carried =====
def nw_is (w : Cond) : Bool := match w with
  | .fieldLinkNest .. => true
  | .methodLinkNest .. => true
  | _ => false
theorem nw_on {w : Cond} (h : nw_is w = true) : w.onTables = true := by
  cases w <;> first | rfl | (exact absurd h (by simp [nw_is]))
theorem nw_warm {w : Cond} {s U : State} (h : nw_is w = true) (hW : s.WarmedH U.vm) (hZ : va_Nw w s) : va_Nw w U := by
  cases w <;> first | exact va_Nw.warmF hW hZ | exact va_Nw.warmM hW hZ | (exact absurd h (by simp [nw_is]))
def NWs : List Cond := [.fieldLinkNest "PalaceOfRooms" 91 "PalaceOfRooms$Ways" "doors" "I" "PalaceOfRooms", .fieldLinkNest "PalaceOfRooms" 110 "PalaceOfRooms$Pictures" "marksOf" "[I" "PalaceOfRooms", .fieldLinkNest "PalaceOfRooms" 131 "PalaceOfRooms$Corners" "top" "[I" "PalaceOfRooms", .fieldLinkNest "PalaceOfRooms$Planner" 79 "PalaceOfRooms$Corners" "top" "[I" "PalaceOfRooms", .fieldLinkNest "PalaceOfRooms" 141 "PalaceOfRooms$Corners" "strength" "[I" "PalaceOfRooms", .fieldLinkNest "PalaceOfRooms" 144 "PalaceOfRooms$Corners" "ghost" "[I" "PalaceOfRooms", .fieldLinkNest "PalaceOfRooms" 147 "PalaceOfRooms$Corners" "ghostStrength" "[I" "PalaceOfRooms", .fieldLinkNest "PalaceOfRooms" 150 "PalaceOfRooms$Corners" "putOn" "[I" "PalaceOfRooms", .fieldLinkNest "PalaceOfRooms" 128 "PalaceOfRooms$Corners" "placeOf" "[I" "PalaceOfRooms", .fieldLinkNest "PalaceOfRooms" 306 "PalaceOfRooms$Corners" "walkedOn" "[I" "PalaceOfRooms", .fieldLinkNest "PalaceOfRooms" 122 "PalaceOfRooms$Corners" "fallOf" "[I" "PalaceOfRooms", .fieldLinkNest "PalaceOfRooms" 116 "PalaceOfRooms$Corners" "tell" "I" "PalaceOfRooms", .fieldLinkNest "PalaceOfRooms" 119 "PalaceOfRooms$Corners" "gain" "I" "PalaceOfRooms", .fieldLinkNest "PalaceOfRooms" 153 "PalaceOfRooms$Corners" "day" "I" "PalaceOfRooms", .fieldLinkNest "PalaceOfRooms" 163 "PalaceOfRooms$Text" "length" "I" "PalaceOfRooms", .fieldLinkNest "PalaceOfRooms" 212 "PalaceOfRooms$Planner" "best" "[I" "PalaceOfRooms", .fieldLinkNest "PalaceOfRooms" 209 "PalaceOfRooms$Planner" "bestStrength" "I" "PalaceOfRooms", .fieldLinkNest "PalaceOfRooms" 197 "PalaceOfRooms$Speech" "order" "[I" "PalaceOfRooms", .fieldLinkNest "PalaceOfRooms" 269 "PalaceOfRooms$Codes" "best" "[I" "PalaceOfRooms", .fieldLinkNest "PalaceOfRooms" 266 "PalaceOfRooms$Codes" "bestHarm" "I" "PalaceOfRooms", .fieldLinkNest "PalaceOfRooms" 236 "PalaceOfRooms$Pupil" "answers" "I" "PalaceOfRooms", .fieldLinkNest "PalaceOfRooms$Text" 68 "PalaceOfRooms$RuleBook" "mostIn" "[I" "PalaceOfRooms", .fieldLinkNest "PalaceOfRooms" 288 "PalaceOfRooms$RuleBook" "mostIn" "[I" "PalaceOfRooms", .fieldLinkNest "PalaceOfRooms$Text" 73 "PalaceOfRooms$RuleBook" "walkEvery" "[I" "PalaceOfRooms", .fieldLinkNest "PalaceOfRooms" 303 "PalaceOfRooms$RuleBook" "walkEvery" "[I" "PalaceOfRooms", .fieldLinkNest "PalaceOfRooms$Text" 57 "PalaceOfRooms$RuleBook" "again" "I" "PalaceOfRooms", .fieldLinkNest "PalaceOfRooms" 294 "PalaceOfRooms$RuleBook" "again" "I" "PalaceOfRooms", .fieldLinkNest "PalaceOfRooms$Text" 61 "PalaceOfRooms$RuleBook" "apart" "I" "PalaceOfRooms", .fieldLinkNest "PalaceOfRooms" 297 "PalaceOfRooms$RuleBook" "apart" "I" "PalaceOfRooms", .fieldLinkNest "PalaceOfRooms$Text" 36 "PalaceOfRooms$RuleBook" "lines" "I" "PalaceOfRooms", .fieldLinkNest "PalaceOfRooms" 174 "PalaceOfRooms$RuleBook" "lines" "I" "PalaceOfRooms", .methodLinkNest "PalaceOfRooms" 18 ⟨"PalaceOfRooms$Pictures", "<init>", "()V"⟩ "PalaceOfRooms", .methodLinkNest "PalaceOfRooms" 34 ⟨"PalaceOfRooms$Text", "<init>", "()V"⟩ "PalaceOfRooms", .methodLinkNest "PalaceOfRooms" 68 ⟨"PalaceOfRooms$Pupil", "<init>", "()V"⟩ "PalaceOfRooms", .methodLinkNest "PalaceOfRooms$Text" 80 ⟨"PalaceOfRooms", "within", "(III)Z"⟩ "PalaceOfRooms", .methodLinkNest "PalaceOfRooms$Planner" 53 ⟨"PalaceOfRooms", "isRoom", "(I)Z"⟩ "PalaceOfRooms"]
theorem NWs_is : NWs.all nw_is = true := by decide +kernel
def NW (U : State) : Prop := ∀ w ∈ NWs, va_Nw w U
theorem NW.warm {s U : State} (hW : s.WarmedH U.vm) (h : NW s) : NW U := fun w hw => nw_warm (List.all_eq_true.mp NWs_is w hw) hW (h w hw)
theorem NW.same {u U : State} (hv : u.vm = U.vm) (h : NW u) : NW U := fun w hw => va_Nw.same (nw_on (List.all_eq_true.mp NWs_is w hw)) hv (h w hw)
theorem NW.use {U : State} (h : NW U) {w : Cond} (hw : w ∈ NWs) (A : Array Value) : w.before A U = true := va_Nw.use (nw_on (List.all_eq_true.mp NWs_is w hw)) (h w hw)
-- ===== contracts of two kinds: a reader (the heap stays), a writer (its cells change) =====
abbrev US : Type := (Nat → Nat → Int32) × Int64 × (Nat → Nat)
abbrev uS (l : List (Nat → Int32)) (t : Int64) (ad : Nat → Nat) : US := (fun k => l.getD k (fun _ => 0), t, ad)
abbrev TY (cI cZ cQ : ClassId) : List (ClassId × FieldType) := [(cI, .int), (cZ, .boolean), (cQ, .object "PalaceOfRooms$Pupil")]
def PcR (D : va_G) (tys : List (ClassId × FieldType)) (wc : va_W) (av : List Value) : Array Value → State → Prop := va_Pc av (fun U => va_P D vwCl wc U.heap ∧ va_K D vwCl tys U ∧ NW U)
def QR (post : Int32 → Prop) : Array Value → State → Outcome → State → Prop := fun _ st oc t => ∃ r : Int32, oc = .returned (some (.int r)) ∧ post r ∧ t.heap = st.heap
abbrev KR (l : Launch) (y : MethodName) (ws : List Cond) (rm : Room) (D : va_G) (tys : List (ClassId × FieldType)) (wc : va_W) (av : List Value) (post : Int32 → Prop) : Prop := Met l y ws rm (PcR D tys wc av) (QR post) 0 0 (fun _ => False)
def PcW (D : va_G) (tys : List (ClassId × FieldType)) (wc : va_W) (av : List Value) (sz : Nat) : Array Value → State → Prop := va_Pc av (fun U => U.heap.size = sz ∧ va_P D vwCl wc U.heap ∧ va_K D vwCl tys U ∧ va_D (fun _ => True) wc ∧ NW U)
def Bw (D : va_G) (A : Nat → Prop) {S : Type} (w1 : S → va_W) (u : S) (t : State) : Prop := va_P D vwCl (w1 u) t.heap ∧ va_D A (w1 u)
abbrev KW (l : Launch) (y : MethodName) (ws : List Cond) (rm : Room) (D : va_G) (tys : List (ClassId × FieldType)) (wc : va_W) (av : List Value) (sz mc ms : Nat) {S : Type} (post : Int32 → S → Prop) (w1 : S → va_W) : Prop := Met l y ws rm (PcW D tys wc av sz) (va_Qi post (Bw D (va_A wc sz) w1) (va_A wc sz)) mc ms (va_A wc sz)
abbrev KV (l : Launch) (y : MethodName) (ws : List Cond) (rm : Room) (D : va_G) (tys : List (ClassId × FieldType)) (wc : va_W) (av : List Value) (sz mc ms : Nat) {S : Type} (post : S → Prop) (w1 : S → va_W) : Prop := Met l y ws rm (PcW D tys wc av sz) (va_Qv post (Bw D (va_A wc sz) w1) (va_A wc sz)) mc ms (va_A wc sz)
theorem PcR_blind {D : va_G} {tys : List (ClassId × FieldType)} {wc : va_W} {av : List Value} : FrameBlind (PcR D tys wc av) := by
  intro a U g mk q
  obtain ⟨q0, q1, q2, q3⟩ := q
  exact ⟨q0, q1, va_K.moved (u := U) (U := U.calling g mk a) (Vm.Alike.refl U.vm) q2, NW.same (u := U) rfl q3⟩
theorem PcW_blind {D : va_G} {tys : List (ClassId × FieldType)} {wc : va_W} {av : List Value} {sz : Nat} : FrameBlind (PcW D tys wc av sz) := by
  intro a U g mk q
  obtain ⟨q0, q1, q2, q3, q4, q5⟩ := q
  exact ⟨q0, q1, q2, va_K.moved (u := U) (U := U.calling g mk a) (Vm.Alike.refl U.vm) q3, q4, NW.same (u := U) rfl q5⟩
theorem ka_fm {ws ws' : va_W} {is : List Nat} (h : is.map (fun i => ws[i]?) = ws'.map some) : is.filterMap (fun i => ws[i]?) = ws' := by
  have h2 : is.filterMap (fun i => ws[i]?) = (is.map (fun i => ws[i]?)).filterMap id := by rw [List.filterMap_map]; rfl
  rw [h2, h, List.filterMap_map]
  show ws'.filterMap some = ws'
  exact List.filterMap_some
section KC
variable {p : Program} {l : Launch} {e : Env} {R : Room} {s : State} {m : MethodId} {args : Array Value} {below : List Frame} {meth : Method} {c : Code} {H H0 : Heap} {locs : List Loc} {cells slots : Nat} {Q : State → Prop}
variable {pc : Nat} {ls : Array Slot} {rest st0 : List Value} {cc bytes : ByteArray} {nL maxL n index : Nat} {own C : String} {y : MethodName} {ret : Option FieldType} {ws Ts : List Cond} {rm : Room} {D : va_G} {tys : List (ClassId × FieldType)} {w wc wr : va_W} {A : Nat → Prop}
theorem rd_run {post : Int32 → Prop} {a : Array Value} (hr : va_Run p l e R s m args below meth c H locs cells slots 0 0 (F0 m pc ls st0) rest (QR post a) (fun _ => False))
    (kk : ∀ r : Int32, post r → W p l e R s m args below meth c H locs cells slots Q (F0 m (pc + 3) ls (.int r :: rest))) : W p l e R s m args below meth c H locs cells slots Q (F0 m pc ls st0) := by
  intro T hT X
  obtain ⟨v, st₀, t, T', L, h0, X', hL, e1, -, ⟨r, hv, hp, hh⟩, st⟩ := hr T hT X
  cases hv
  obtain ⟨t2, a1, b1⟩ := kk r hp T' (by rw [e1, hh, h0]) (Stand.forget X' (fun q h => (hL q h).elim))
  exact ⟨t2, st t2 a1, b1⟩
theorem preR (hP : va_P D vwCl w H) (hK : va_K D vwCl tys s) (hN : NW s) (ps : List Nat) (hps : ps.map (fun i => w[i]?) = wc.map some) (av : List Value) : PreS s H (PcR D tys wc av) av :=
  ⟨PcR_blind, fun U hU hW => ⟨rfl, by rw [hU]; exact hP.sub ps (ka_fm hps), va_K.moved hW.alike hK, hN.warm hW⟩⟩
theorem preW (hP : va_P D vwCl w H) (hD : va_D A w) (hK : va_K D vwCl tys s) (hN : NW s) (ps : List Nat) (hps : ps.map (fun i => w[i]?) = wc.map some) (hnd : va_nd ps = true) (av : List Value) : PreS s H (PcW D tys wc av H.size) av :=
  ⟨PcW_blind, fun U hU hW => ⟨rfl, by rw [hU], by rw [hU]; exact hP.sub ps (ka_fm hps), va_K.moved hW.alike hK, (hD.sub ps hnd hps).weaken (fun _ _ _ _ => trivial), hN.warm hW⟩⟩
/-- a reader called by invokevirtual -/
theorem rdV (S : CallFix p m c cc nL s args Ts own) {post : Int32 → Prop} {b : Addr} {As : List Value} (hM : KR l y ws rm D tys wc (.ref b :: As) post) (cw : CallW R s args own C index y bytes maxL ret ws rm 0 0 n)
    (hP : va_P D vwCl w H) (hK : va_K D vwCl tys s) (hN : NW s) (ps : List Nat) (hps : ps.map (fun i => w[i]?) = wc.map some) (q0 ci : Nat) {T : u_T} {N : Nat} {fs : List Value} (hc : vwCl[ci]? = some (C, T, N)) (he : w[q0]? = some (b, .inr (ci, fs)))
    (hn : As.length = n) (hsize : ls.size = nL) (hstack : st0 = As.reverse ++ .ref b :: rest) (hW : (rest.map fun v => v.category).sum ≤ 8) (hdg : decode cc pc = .ok (.invokevirtual index, 3)) (hf : cells + 0 ≤ R.cells ∧ slots + 0 ≤ R.slots)
    (kk : ∀ r : Int32, post r → W p l e R s m args below meth c H locs cells slots Q (F0 m (pc + 3) ls (.int r :: rest))) : W p l e R s m args below meth c H locs cells slots Q (F0 m pc ls st0) := by
  have hp := preR (av := .ref b :: As) hP hK hN ps hps
  exact rd_run (va_runV S hM cw ⟨hp.1, va_recv (q0 := q0) hK hP hc he, hp.2⟩ rfl hn hsize hstack (lv_room hW) hdg hf) kk
/-- a reader called by invokestatic -/
theorem rdS (S : CallFix p m c cc nL s args Ts own) {post : Int32 → Prop} {As : List Value} (hM : KR l y ws rm D tys wc As post) (cw : CallB R s args own index y bytes maxL ret ws rm 0 0 n ∧ (Cond.static y).before args s = true)
    (hP : va_P D vwCl w H) (hK : va_K D vwCl tys s) (hN : NW s) (ps : List Nat) (hps : ps.map (fun i => w[i]?) = wc.map some)
    (hn : As.length = n) (hsize : ls.size = nL) (hstack : st0 = As.reverse ++ rest) (hW : (rest.map fun v => v.category).sum ≤ 8) (hdg : decode cc pc = .ok (.invokestatic index, 3)) (hf : cells + 0 ≤ R.cells ∧ slots + 0 ≤ R.slots)
    (kk : ∀ r : Int32, post r → W p l e R s m args below meth c H locs cells slots Q (F0 m (pc + 3) ls (.int r :: rest))) : W p l e R s m args below meth c H locs cells slots Q (F0 m pc ls st0) :=
  rd_run (va_runS S hM cw (preR hP hK hN ps hps As) rfl hn hsize hstack (lv_room hW) hdg hf) kk
/-- a reader of a nest mate called by invokestatic -/
theorem rdSN {host : String} (S : CallFix p m c cc nL s args Ts own) {post : Int32 → Prop} {As : List Value} (hM : KR l y ws rm D tys wc As post) (cw : va_CN R s args own index y host bytes maxL ret ws rm 0 0 n ∧ (Cond.static y).before args s = true ∧ True)
    (hP : va_P D vwCl w H) (hK : va_K D vwCl tys s) (hN : NW s) (ps : List Nat) (hps : ps.map (fun i => w[i]?) = wc.map some)
    (hn : As.length = n) (hsize : ls.size = nL) (hstack : st0 = As.reverse ++ rest) (hW : (rest.map fun v => v.category).sum ≤ 8) (hdg : decode cc pc = .ok (.invokestatic index, 3)) (hf : cells + 0 ≤ R.cells ∧ slots + 0 ≤ R.slots)
    (kk : ∀ r : Int32, post r → W p l e R s m args below meth c H locs cells slots Q (F0 m (pc + 3) ls (.int r :: rest))) : W p l e R s m args below meth c H locs cells slots Q (F0 m pc ls st0) :=
  rd_run (va_runSN S hM cw (preR hP hK hN ps hps As) rfl hn hsize hstack (lv_room hW) hdg hf) kk
/-- what a writer left, beside the rest, in the world's own order -/
theorem wr_back {S : Type} {w1 w2 : S → va_W} {H1 : Heap} (u : S) (hP : va_P D vwCl w H) (hD : va_D A w) (hFc : ∀ q, va_A wc H.size q → A q) (isC isR pm : List Nat) (hC : isC.map (fun i => w[i]?) = wc.map some) (hR : isR.map (fun i => w[i]?) = wr.map some) (hn2 : va_nd isR = true) (hdis : ∀ i ∈ isR, i ∉ isC) (hpm : ∀ u, pm.map (fun i => (wr ++ w1 u)[i]?) = (w2 u).map some) (hnp : va_nd pm = true)
    (t : State) (ht : t.heap = H1) (hB : Bw D (va_A wc H.size) w1 u t) (hk : ∀ q : Nat, q < H.size → ¬ va_A wc H.size q → H1[q]? = H[q]?) : va_P D vwCl (w2 u) H1 ∧ va_D A (w2 u) := by
  obtain ⟨hP1, hD1⟩ := hB
  rw [ht] at hP1
  obtain ⟨a1, a2⟩ := va_join (wr := wr) hP hD isC isR hC hR hn2 hdis hk hFc hP1 hD1
  exact ⟨a1.sub pm (ka_fm (hpm u)), a2.sub pm hnp (hpm u)⟩
/-- a writer with an int answer called by invokevirtual -/
theorem wrV (S : CallFix p m c cc nL s args Ts own) {mc ms : Nat} {post : Int32 → US → Prop} {w1 w2 : US → va_W} {b : Addr} {As : List Value} (hM : KW l y ws rm D tys wc (.ref b :: As) H.size mc ms post w1) (cw : CallW R s args own C index y bytes maxL ret ws rm mc ms n)
    (hP : va_P D vwCl w H) (hD : va_D A w) (hS : va_S A H0 H locs) (hA : ∀ q, H0.size ≤ q → A q) (hK : va_K D vwCl tys s) (hN : NW s) (isC isR pm : List Nat) (hC : isC.map (fun i => w[i]?) = wc.map some) (hR : isR.map (fun i => w[i]?) = wr.map some) (hn1 : va_nd isC = true) (hn2 : va_nd isR = true) (hdis : ∀ i ∈ isR, i ∉ isC) (hpm : ∀ u, pm.map (fun i => (wr ++ w1 u)[i]?) = (w2 u).map some) (hnp : va_nd pm = true) (q0 ci : Nat) {T : u_T} {N : Nat} {fs : List Value} (hc : vwCl[ci]? = some (C, T, N)) (he : w[q0]? = some (b, .inr (ci, fs)))
    (hn : As.length = n) (hsize : ls.size = nL) (hstack : st0 = As.reverse ++ .ref b :: rest) (hW : (rest.map fun v => v.category).sum ≤ 8) (hdg : decode cc pc = .ok (.invokevirtual index, 3)) (hf : cells + mc ≤ R.cells ∧ slots + ms ≤ R.slots)
    (kk : ∀ (r : Int32) (u : US) (H1 : Heap) (locs1 : List Loc), post r u → va_P D vwCl (w2 u) H1 → va_D A (w2 u) → va_S A H0 H1 locs1 → W p l e R s m args below meth c H1 locs1 (cells + mc) (slots + ms) Q (F0 m (pc + 3) ls (.int r :: rest))) : W p l e R s m args below meth c H locs cells slots Q (F0 m pc ls st0) := by
  have hp := preW (av := .ref b :: As) hP hD hK hN isC hC hn1
  have hFc := va_free (wc := wc) hD hS hA isC hC
  refine va_calli (va_runV S hM cw ⟨hp.1, va_recv (q0 := q0) hK hP hc he, hp.2⟩ rfl hn hsize hstack (lv_room hW) hdg hf) hS (fun q _ h => hFc q h) hFc (fun r u t H1 locs1 ht hvm hw hB hz1 hk1 hS1 => ?_)
  obtain ⟨a1, a2⟩ := wr_back (w2 := w2) u hP hD hFc isC isR pm hC hR hn2 hdis hpm hnp t ht hB hk1
  exact kk r u H1 locs1 hw a1 a2 hS1
/-- a writer without an answer called by invokevirtual -/
theorem wvV (S : CallFix p m c cc nL s args Ts own) {mc ms : Nat} {post : US → Prop} {w1 w2 : US → va_W} {b : Addr} {As : List Value} (hM : KV l y ws rm D tys wc (.ref b :: As) H.size mc ms post w1) (cw : CallW R s args own C index y bytes maxL ret ws rm mc ms n)
    (hP : va_P D vwCl w H) (hD : va_D A w) (hS : va_S A H0 H locs) (hA : ∀ q, H0.size ≤ q → A q) (hK : va_K D vwCl tys s) (hN : NW s) (isC isR pm : List Nat) (hC : isC.map (fun i => w[i]?) = wc.map some) (hR : isR.map (fun i => w[i]?) = wr.map some) (hn1 : va_nd isC = true) (hn2 : va_nd isR = true) (hdis : ∀ i ∈ isR, i ∉ isC) (hpm : ∀ u, pm.map (fun i => (wr ++ w1 u)[i]?) = (w2 u).map some) (hnp : va_nd pm = true) (q0 ci : Nat) {T : u_T} {N : Nat} {fs : List Value} (hc : vwCl[ci]? = some (C, T, N)) (he : w[q0]? = some (b, .inr (ci, fs)))
    (hn : As.length = n) (hsize : ls.size = nL) (hstack : st0 = As.reverse ++ .ref b :: rest) (hW : (rest.map fun v => v.category).sum ≤ 8) (hdg : decode cc pc = .ok (.invokevirtual index, 3)) (hf : cells + mc ≤ R.cells ∧ slots + ms ≤ R.slots)
    (kk : ∀ (u : US) (H1 : Heap) (locs1 : List Loc), post u → va_P D vwCl (w2 u) H1 → va_D A (w2 u) → va_S A H0 H1 locs1 → W p l e R s m args below meth c H1 locs1 (cells + mc) (slots + ms) Q (F0 m (pc + 3) ls rest)) : W p l e R s m args below meth c H locs cells slots Q (F0 m pc ls st0) := by
  have hp := preW (av := .ref b :: As) hP hD hK hN isC hC hn1
  have hFc := va_free (wc := wc) hD hS hA isC hC
  refine va_callv (va_runV S hM cw ⟨hp.1, va_recv (q0 := q0) hK hP hc he, hp.2⟩ rfl hn hsize hstack (lv_room hW) hdg hf) hS (fun q _ h => hFc q h) hFc (fun u t H1 locs1 ht hvm hw hB hz1 hk1 hS1 => ?_)
  obtain ⟨a1, a2⟩ := wr_back (w2 := w2) u hP hD hFc isC isR pm hC hR hn2 hdis hpm hnp t ht hB hk1
  exact kk u H1 locs1 hw a1 a2 hS1
/-- a writer without an answer called by invokestatic -/
theorem wvS (S : CallFix p m c cc nL s args Ts own) {mc ms : Nat} {post : US → Prop} {w1 w2 : US → va_W} {As : List Value} (hM : KV l y ws rm D tys wc As H.size mc ms post w1) (cw : CallB R s args own index y bytes maxL ret ws rm mc ms n ∧ (Cond.static y).before args s = true)
    (hP : va_P D vwCl w H) (hD : va_D A w) (hS : va_S A H0 H locs) (hA : ∀ q, H0.size ≤ q → A q) (hK : va_K D vwCl tys s) (hN : NW s) (isC isR pm : List Nat) (hC : isC.map (fun i => w[i]?) = wc.map some) (hR : isR.map (fun i => w[i]?) = wr.map some) (hn1 : va_nd isC = true) (hn2 : va_nd isR = true) (hdis : ∀ i ∈ isR, i ∉ isC) (hpm : ∀ u, pm.map (fun i => (wr ++ w1 u)[i]?) = (w2 u).map some) (hnp : va_nd pm = true)
    (hn : As.length = n) (hsize : ls.size = nL) (hstack : st0 = As.reverse ++ rest) (hW : (rest.map fun v => v.category).sum ≤ 8) (hdg : decode cc pc = .ok (.invokestatic index, 3)) (hf : cells + mc ≤ R.cells ∧ slots + ms ≤ R.slots)
    (kk : ∀ (u : US) (H1 : Heap) (locs1 : List Loc), post u → va_P D vwCl (w2 u) H1 → va_D A (w2 u) → va_S A H0 H1 locs1 → W p l e R s m args below meth c H1 locs1 (cells + mc) (slots + ms) Q (F0 m (pc + 3) ls rest)) : W p l e R s m args below meth c H locs cells slots Q (F0 m pc ls st0) := by
  have hp := preW (av := As) hP hD hK hN isC hC hn1
  have hFc := va_free (wc := wc) hD hS hA isC hC
  refine va_callv (va_runS S hM cw hp rfl hn hsize hstack (lv_room hW) hdg hf) hS (fun q _ h => hFc q h) hFc (fun u t H1 locs1 ht hvm hw hB hz1 hk1 hS1 => ?_)
  obtain ⟨a1, a2⟩ := wr_back (w2 := w2) u hP hD hFc isC isR pm hC hR hn2 hdis hpm hnp t ht hB hk1
  exact kk u H1 locs1 hw a1 a2 hS1
end KC
