-- ===== the next THING beside: a scan of one ROOM =====
def scn (T : Nat → Int32) (lo s : Int) : Nat → Int → Int32
  | 0, _ => -1
  | n + 1, k => if k < lo ∨ lo + 6 ≤ k then -1 else if T k.toNat = -1 then scn T lo s n (k + s) else T k.toNat
theorem scn_out {T : Nat → Int32} {lo s k : Int} {N : Nat} {R : Int32} (h : scn T lo s N k = R) (hN : 1 ≤ N) (ho : k < lo ∨ lo + 6 ≤ k) : -1 = R := by
  obtain ⟨n, rfl⟩ : ∃ n, N = n + 1 := ⟨N - 1, by omega⟩
  rw [← h]; show _ = if _ then _ else _
  rw [if_pos ho]
theorem scn_end {T : Nat → Int32} {lo s k : Int} {N : Nat} {R : Int32} (h : scn T lo s N k = R) (hN : N = 0) : -1 = R := by
  subst hN; exact h
theorem scn_hit {T : Nat → Int32} {lo s : Int} {N : Nat} {R y v : Int32} (h : scn T lo s N y.toInt = R) (hN : 1 ≤ N) (h1 : lo ≤ y.toInt) (h2 : y.toInt < lo + 6) (hv : v = T y.toNatClampNeg) (hn : ¬ v = -1) : v = R := by
  obtain ⟨n, rfl⟩ : ∃ n, N = n + 1 := ⟨N - 1, by omega⟩
  rw [← h]; show _ = if _ then _ else _
  rw [clC (x := y) rfl] at hv
  rw [if_neg (by omega), ← hv, if_neg hn]
theorem scn_step {T : Nat → Int32} {lo s k' : Int} {N N' : Nat} {R y : Int32} (h : scn T lo s N y.toInt = R) (hN : N = N' + 1) (h1 : lo ≤ y.toInt) (h2 : y.toInt < lo + 6) (hv : T y.toNatClampNeg = -1) (hk : k' = y.toInt + s) : scn T lo s N' k' = R := by
  subst hN; subst hk
  rw [← h]; show _ = if _ then _ else _
  rw [clC (x := y) rfl] at hv
  rw [if_neg (by omega), if_pos hv]
theorem scn_eq {T G : Nat → Int32} {lo s : Int} (h : ∀ j, j < 48 → T j = G j) (h0 : 0 ≤ lo) (h1 : lo + 6 ≤ 48) : ∀ (n : Nat) (k : Int), scn T lo s n k = scn G lo s n k
  | 0, _ => rfl
  | n + 1, k => by
    show (if _ then _ else _) = (if _ then _ else _)
    by_cases q : k < lo ∨ lo + 6 ≤ k
    · rw [if_pos q, if_pos q]
    · rw [if_neg q, if_neg q, h k.toNat (by omega), scn_eq h h0 h1 n]
def bes (T : Nat → Int32) (c s r : Int32) : Prop := (c = -1 ∧ r = -1) ∨ (c ≠ -1 ∧ r = scn T (c.toInt - c.toInt % 6) (if s = 1 then 1 else -1) 6 (c.toInt + (if s = 1 then 1 else -1)))
def spBeside (T : Nat → Int32) (t s r : Int32) : Prop := ((t.toInt < 0 ∨ 23 < t.toInt) ∧ r = -2) ∨ ((0 ≤ t.toInt ∧ t.toInt ≤ 23) ∧ (s.toInt < 0 ∨ 1 < s.toInt) ∧ r = -3) ∨ ((0 ≤ t.toInt ∧ t.toInt ≤ 23) ∧ (0 ≤ s.toInt ∧ s.toInt ≤ 1) ∧ ∃ c : Int32, whu T t c ∧ bes T c s r)
def spBesideM (T : Nat → Int32) (t s r : Int32) : Prop := ((t.toInt < 0 ∨ 23 < t.toInt) ∧ r = -2) ∨ ((0 ≤ t.toInt ∧ t.toInt ≤ 23) ∧ (s.toInt < 0 ∨ 1 < s.toInt) ∧ r = -3) ∨ ((0 ≤ t.toInt ∧ t.toInt ≤ 23) ∧ (0 ≤ s.toInt ∧ s.toInt ≤ 1) ∧ ∃ c : Int32, whr T t c ∧ bes T c s r)
theorem whu_whr {f g : Nat → Int32} {t c d : Int32} (h : ∀ j, j < 48 → f j = g j) (h1 : whu f t c) (h2 : whr g t d) : c = d ∧ (c = -1 ∨ (0 ≤ c.toInt ∧ c.toInt ≤ 47)) := by
  rcases h1 with ⟨rfl, b⟩ | ⟨j, hj, rfl, e, hu⟩
  · rcases h2 with ⟨rfl, b2⟩ | ⟨j, hj, rfl, e⟩
    · exact ⟨rfl, Or.inl rfl⟩
    · exact absurd ((h j hj).trans e) (b j hj)
  · have hb : (nI j).toInt = j := nI_toInt (by omega)
    rcases h2 with ⟨rfl, b2⟩ | ⟨k, hk, rfl, e2⟩
    · exact absurd ((h j hj).symm.trans e) (b2 j hj)
    · rw [hu k hk ((h k hk).trans e2)]
      exact ⟨rfl, Or.inr (by omega)⟩
theorem spBeside_rel {f g : Nat → Int32} {t s r r2 : Int32} (h : ∀ j, j < 48 → f j = g j) (h1 : spBeside f t s r) (h2 : spBesideM g t s r2) : r = r2 := by
  unfold spBeside at h1
  unfold spBesideM at h2
  rcases h1 with ⟨a, rfl⟩ | ⟨a, b, rfl⟩ | ⟨a, b, c, hc, hb⟩
  · rcases h2 with ⟨a2, rfl⟩ | ⟨a2, b2, rfl⟩ | ⟨a2, b2, -⟩ <;> first | rfl | (exfalso; omega)
  · rcases h2 with ⟨a2, rfl⟩ | ⟨a2, b2, rfl⟩ | ⟨a2, b2, -⟩ <;> first | rfl | (exfalso; omega)
  · rcases h2 with ⟨a2, rfl⟩ | ⟨a2, b2, rfl⟩ | ⟨a2, b2, d, hd, hb2⟩
    · exfalso; omega
    · exfalso; omega
    · obtain ⟨e, hr⟩ := whu_whr h hc hd
      subst e
      unfold bes at hb hb2
      rcases hb with ⟨e1, rfl⟩ | ⟨e1, rfl⟩
      · rcases hb2 with ⟨-, rfl⟩ | ⟨e2, -⟩
        · rfl
        · exact absurd e1 e2
      · rcases hb2 with ⟨e2, -⟩ | ⟨-, rfl⟩
        · exact absurd e2 e1
        · rcases hr with hr | hr
          · exact absurd hr e1
          · exact scn_eq h (by omega) (by omega) _ _
theorem bes_at {T : Nat → Int32} {c s w r : Int32} (hc : ¬ c = -1) (hs : (s = 1 ∧ w.toInt = 1) ∨ (¬ s = 1 ∧ w.toInt = -1)) (h : r = scn T (c.toInt - c.toInt % 6) w.toInt 6 (c.toInt + w.toInt)) : bes T c s r := by
  refine Or.inr ⟨hc, ?_⟩
  rcases hs with ⟨e, e2⟩ | ⟨e, e2⟩
  · rw [e2] at h; rw [if_pos e]; exact h
  · rw [e2] at h; rw [if_neg e]; exact h
/-- the model's loop: found already, or still to be found -/
def bsk (T : Nat → Int32) (lo s : Int) (N : Nat) (k : Int) (f R : Int32) : Prop := (f = -1 ∧ scn T lo s N k = R) ∨ (¬ f = -1 ∧ f = R)
theorem bsk_step {T : Nat → Int32} {lo s k' : Int} {N N' : Nat} {R y v f : Int32} (h : bsk T lo s N y.toInt f R) (hf : f = -1) (hN : N = N' + 1) (h1 : lo ≤ y.toInt) (h2 : y.toInt < lo + 6) (hv : v = T y.toNatClampNeg) (hk : k' = y.toInt + s) : bsk T lo s N' k' v R := by
  rcases h with ⟨-, h⟩ | ⟨q, -⟩
  · by_cases e : v = -1
    · exact Or.inl ⟨e, scn_step h hN h1 h2 (hv.symm.trans e) hk⟩
    · exact Or.inr ⟨e, scn_hit h (by omega) h1 h2 hv e⟩
  · exact absurd hf q
theorem bsk_end {T : Nat → Int32} {lo s k : Int} {N : Nat} {R f : Int32} (h : bsk T lo s N k f R) (hN : 1 ≤ N) (ho : k < lo ∨ lo + 6 ≤ k ∨ ¬ f = -1) : f = R := by
  rcases h with ⟨e, h⟩ | ⟨-, e⟩
  · rw [e]
    exact scn_out h hN (by rcases ho with q | q | q <;> first | exact Or.inl q | exact Or.inr q | exact absurd e q)
  · exact e
theorem pl_ux {top pla : Nat → Int32} {x t : Int32} (h : plOK top pla) (h0 : 0 ≤ t.toInt) (h1 : t.toInt ≤ 23) (hx : x = pla t.toNatClampNeg) : whu top t x := by rw [hx]; exact pl_u h h0 h1
theorem bsk_0 {T : Nat → Int32} {lo s k k0 : Int} {N : Nat} (hk : k = k0) (hN : N = 6) : bsk T lo s N k (-1) (scn T lo s 6 k0) := Or.inl ⟨rfl, by rw [hk, hN]⟩
theorem bes_0 {T : Nat → Int32} {c r : Int32} (hc : ¬ c = -1) (h : r = scn T (c.toInt - c.toInt % 6) (-1) 6 (c.toInt + (-1))) : bes T c 0 r := Or.inr ⟨hc, by rw [if_neg (by decide)]; exact h⟩
theorem bes_1 {T : Nat → Int32} {c r : Int32} (hc : ¬ c = -1) (h : r = scn T (c.toInt - c.toInt % 6) 1 6 (c.toInt + 1)) : bes T c 1 r := Or.inr ⟨hc, by rw [if_pos rfl]; exact h⟩
theorem d66e {r : Int32} (h0 : 0 ≤ r.toInt) (h1 : r.toInt ≤ 47) : (r / 6 * 6).toInt = r.toInt - r.toInt % 6 := by
  have f := divC (a := r) (b := 6) rfl (show (6 : Int32).toInt = 6 from rfl) h0 (by decide)
  have g := mulC f (show (6 : Int32).toInt = 6 from rfl) (by omega) (by omega)
  rw [g]; omega
theorem d66 {r : Int32} (h0 : 0 ≤ r.toInt) (h1 : r.toInt ≤ 47) : 0 ≤ (r / 6 * 6).toInt ∧ (r / 6 * 6).toInt ≤ 42 := by
  have f := divC (a := r) (b := 6) rfl (show (6 : Int32).toInt = 6 from rfl) h0 (by decide)
  have g := mulC f (show (6 : Int32).toInt = 6 from rfl) (by omega) (by omega)
  rw [g]; omega
set_option maxHeartbeats 4000000 in
set_option maxRecDepth 100000 in
theorem k_X1_nextOnTop2 (l : Launch) (dC : Nat → ClassId) (dI : Nat → Nat → Nat) (cI cZ cQ : ClassId) (a : Nat → Nat) (top : Nat → Int32) (str : Nat → Int32) (gho : Nat → Int32) (ghs : Nat → Int32) (pto : Nat → Int32) (cro : Nat → Int32) (pla : Nat → Int32) (wal : Nat → Int32) (fal : Nat → Int32) (tel : Int32) (gai : Int32) (day : Int32) (mar : Nat → Int32) (pl : Int32) (st : Int32) (r_top : rg 48 (-1) (23) top) (r_str : rg 48 (0) (100) str) (r_gho : rg 48 (-1) (23) gho) (r_ghs : rg 48 (0) (100) ghs) (r_cro : rg 48 (0) (6) cro) (r_pla : rg 24 (-1) (47) pla) (r_fal : rg 11 (0) (30) fal) (r_gai : 0 ≤ gai.toInt ∧ gai.toInt ≤ 100) (r_day : 0 ≤ day.toInt ∧ day.toInt ≤ 400) (r_mar : rg 24 (0) (255) mar) (q0 : 0 ≤ pl.toInt) (q1 : pl.toInt ≤ 47) (q2 : st.toInt = 1 ∨ st.toInt = -1) (q3 : -1 ≤ st.toInt) (q4 : st.toInt ≤ 1) : KR l yX1_nextOnTop wsX1_nextOnTop { frames := 0, cells := 0, slots := 0, locals := 0 } (dC, dI) (TY cI cZ cQ) (wCor cI cZ cQ a top str gho ghs pto cro pla wal fal tel gai day mar) [.ref (a 4), .int pl, .int st] (fun r : Int32 => (-1 ≤ r.toInt) ∧ (r.toInt ≤ 23) ∧ (r = scn top (pl.toInt - pl.toInt % 6) st.toInt 6 (pl.toInt + st.toInt))) := by
  refine Met.ofW (cc := cX1_nextOnTop) (maxL := 6) (ret := (some .int)) (by decide) rfl ?_
  intro p e s m args below meth c s₁ B hml hv
  obtain ⟨rfl, hP, hK, hN⟩ := hv
  have hx := B.exec
  have hb := B.bytes
  have hr := B.returns
  have hts := atoms_spec (ws := wsX1_nextOnTop) B.pre
  have hown : s.vm.findClass RX1 = some m.cls := findClass_of_methodNamed B.named
  have hlocks := B.notSynchronized
  have lf9 := hts (.fieldLink RX1 9 "PalaceOfRooms$Corners" "top" "[I") (by decide +kernel)
  have inX1 : ∀ w ∈ wsX10, w ∈ wsX1_nextOnTop := by decide +kernel
  have hl := lv_entry ([.ref (a 4), .int pl, .int st]) (n := 6) (Nat.le_of_ble_eq_true rfl)
  rw [lg_entry_eq]
  generalize (lg_sl ([.ref (a 4), .int pl, .int st]) ++ List.replicate (6 - (lg_sl ([.ref (a 4), .int pl, .int st])).length) Slot.unset).toArray = ls at hl ⊢
  have hl : lv_has ls 6 [(0, .ref (a 4)), (1, .int pl), (2, .int st)] := hl
  refine lv_iload_n hx hb dX1_nextOnTop_0 rfl (lv_at hl 1 rfl) ?_
  refine lv_iload_n hx hb dX1_nextOnTop_1 rfl (lv_at hl 1 rfl) ?_
  refine lv_bipush (v := 6) hx hb dX1_nextOnTop_2 (by decide) ?_
  refine lv_irem hx hb dX1_nextOnTop_4 (by decide) ?_
  have f1 : (pl - pl / 6 * 6).toInt = (pl.toInt) % (6) := remC rfl (show (6 : Int32).toInt = 6 from rfl) (by omega) (by omega)
  refine lv_isub hx hb dX1_nextOnTop_5 ?_
  have f2 : (pl - (pl - pl / 6 * 6)).toInt = (pl.toInt) - ((pl.toInt) % (6)) := subC rfl f1 (by omega) (by omega)
  refine lv_topi (fun x3 ex3 => ?_)
  have ix3 : x3.toInt = (pl.toInt) - ((pl.toInt) % (6)) := by rw [ex3]; exact f2
  refine lv_istore_n (lv' := [(3, .int x3), (0, .ref (a 4)), (1, .int pl), (2, .int st)]) hx hb dX1_nextOnTop_6 rfl hl (by decide) rfl (fun ls hl => ?_)
  refine lv_iload_n hx hb dX1_nextOnTop_7 rfl (lv_at hl 2 rfl) ?_
  refine lv_iload_n hx hb dX1_nextOnTop_8 rfl (lv_at hl 3 rfl) ?_
  refine lv_iadd hx hb dX1_nextOnTop_9 ?_
  have f4 : (pl + st).toInt = (pl.toInt) + (st.toInt) := addC rfl rfl (by omega) (by omega)
  refine lv_topi (fun x5 ex5 => ?_)
  have ix5 : x5.toInt = (pl.toInt) + (st.toInt) := by rw [ex5]; exact f4
  refine lv_istore (lv' := [(4, .int x5), (3, .int x3), (0, .ref (a 4)), (1, .int pl), (2, .int st)]) hx hb dX1_nextOnTop_10 hl (by decide) rfl (fun ls hl => ?_)
  refine lv_iconst (v := 0) hx hb dX1_nextOnTop_12 (by decide) ?_
  refine lv_istore (lv' := [(5, .int 0), (4, .int x5), (3, .int x3), (0, .ref (a 4)), (1, .int pl), (2, .int st)]) hx hb dX1_nextOnTop_13 hl (by decide) rfl (fun ls hl => ?_)
  have L15 : ∀ (nn : Nat) (y15_4 : Int32) (y15_5 : Int32) (ls : Array Slot), (0 ≤ (y15_5.toInt)) → ((y15_5.toInt) ≤ 6) → (-1 ≤ (y15_4.toInt)) → ((y15_4.toInt) ≤ 48) → (scn top (pl.toInt - pl.toInt % 6) st.toInt (6 - (y15_5.toInt)).toNat (y15_4.toInt) = scn top (pl.toInt - pl.toInt % 6) st.toInt 6 (pl.toInt + st.toInt)) → (6 - (y15_5.toInt)).toNat < nn → lv_has ls 6 [(0, .ref (a 4)), (2, .int st), (3, .int x3), (4, .int y15_4), (5, .int y15_5)] → W p l e (headSpec wsX1_nextOnTop { frames := 0, cells := 0, slots := 0, locals := 0 }).room s m ([.ref (a 4), .int pl, .int st] : List Value).toArray below meth c s.heap [] 0 0 (MQ below (QR (fun r : Int32 => (-1 ≤ r.toInt) ∧ (r.toInt ≤ 23) ∧ (r = scn top (pl.toInt - pl.toInt % 6) st.toInt 6 (pl.toInt + st.toInt)))) ([.ref (a 4), .int pl, .int st] : List Value).toArray s 0 0 (fun _ => False)) (F0 m 15 ls []) := by
    intro nn
    induction nn with
    | zero =>
      intro y15_4 y15_5 ls i15_0 i15_1 i15_2 i15_3 i15_4 hm15
      exact absurd hm15 (Nat.not_lt_zero _)
    | succ nn ih15 =>
      intro y15_4 y15_5 ls i15_0 i15_1 i15_2 i15_3 i15_4 hm15 hl
      refine lv_iload hx hb dX1_nextOnTop_15 (lv_at hl 4 rfl) ?_
      refine lv_bipush (v := 6) hx hb dX1_nextOnTop_17 (by decide) ?_
      refine lv_icmp_ge (tgt := 70) hx hb dX1_nextOnTop_19 (by decide) (fun c6 => ?_) (fun c6 => ?_)
      · have dc6 : 6 ≤ y15_5.toInt := leC (show (6 : Int32).toInt = 6 from rfl) rfl c6
        refine lv_iconst (v := (-1)) hx hb dX1_nextOnTop_70 (by decide) ?_
        exact W.iret (v := (-1)) hx hb hr (fun tq ht hW => ⟨(-1), rfl, ⟨(show -1 ≤ ((-1) : Int32).toInt from by (try rw [show ((-1) : Int32).toInt = (-1) from (show ((-1) : Int32).toInt = (-1) from rfl)]); omega), (show ((-1) : Int32).toInt ≤ 23 from by (try rw [show ((-1) : Int32).toInt = (-1) from (show ((-1) : Int32).toInt = (-1) from rfl)]); omega), (show ((-1) : Int32) = scn top (pl.toInt - pl.toInt % 6) st.toInt 6 (pl.toInt + st.toInt) from by (try rw [show ((-1) : Int32).toInt = (-1) from (show ((-1) : Int32).toInt = (-1) from rfl)]); (first | exact scn_out i15_4 (by omega) (by omega) | exact scn_hit i15_4 (by omega) (by omega) (by omega) rfl (by assumption) | exact scn_end i15_4 (by omega)))⟩, ht⟩) (fun q h => by cases h) dX1_nextOnTop_71
      · have dc6 : y15_5.toInt < 6 := nleC (show (6 : Int32).toInt = 6 from rfl) rfl c6
        refine lv_iload hx hb dX1_nextOnTop_22 (lv_at hl 3 rfl) ?_
        refine lv_iload_n hx hb dX1_nextOnTop_24 rfl (lv_at hl 2 rfl) ?_
        refine lv_icmp_lt (tgt := 37) hx hb dX1_nextOnTop_25 (by decide) (fun c7 => ?_) (fun c7 => ?_)
        · have dc7 : y15_4.toInt < x3.toInt := ltC rfl rfl c7
          refine lv_iconst (v := (-1)) hx hb dX1_nextOnTop_37 (by decide) ?_
          exact W.iret (v := (-1)) hx hb hr (fun tq ht hW => ⟨(-1), rfl, ⟨(show -1 ≤ ((-1) : Int32).toInt from by (try rw [show ((-1) : Int32).toInt = (-1) from (show ((-1) : Int32).toInt = (-1) from rfl)]); omega), (show ((-1) : Int32).toInt ≤ 23 from by (try rw [show ((-1) : Int32).toInt = (-1) from (show ((-1) : Int32).toInt = (-1) from rfl)]); omega), (show ((-1) : Int32) = scn top (pl.toInt - pl.toInt % 6) st.toInt 6 (pl.toInt + st.toInt) from by (try rw [show ((-1) : Int32).toInt = (-1) from (show ((-1) : Int32).toInt = (-1) from rfl)]); (first | exact scn_out i15_4 (by omega) (by omega) | exact scn_hit i15_4 (by omega) (by omega) (by omega) rfl (by assumption) | exact scn_end i15_4 (by omega)))⟩, ht⟩) (fun q h => by cases h) dX1_nextOnTop_38
        · have dc7 : x3.toInt ≤ y15_4.toInt := nltC rfl rfl c7
          refine lv_iload hx hb dX1_nextOnTop_28 (lv_at hl 3 rfl) ?_
          refine lv_iload_n hx hb dX1_nextOnTop_30 rfl (lv_at hl 2 rfl) ?_
          refine lv_bipush (v := 6) hx hb dX1_nextOnTop_31 (by decide) ?_
          refine lv_iadd hx hb dX1_nextOnTop_33 ?_
          have f8 : (x3 + 6).toInt = (x3.toInt) + (6) := addC rfl (show (6 : Int32).toInt = 6 from rfl) (by omega) (by omega)
          refine lv_icmp_lt (tgt := 39) hx hb dX1_nextOnTop_34 (by decide) (fun c9 => ?_) (fun c9 => ?_)
          · have dc9 : y15_4.toInt < (x3.toInt) + (6) := ltC rfl f8 c9
            refine lv_aload_n hx hb dX1_nextOnTop_39 rfl (lv_at hl 0 rfl) ?_
            refine va_get (D := (dC, dI)) (ci := 1) (v := .ref (a 5)) (C := RX1) (T := TX1) (N := 13) hx hb hts inX1 hown hK hP 0 rfl rfl 1 (by decide) lf9 (fun _ h9 => h9) rfl dX1_nextOnTop_40 ?_
            refine lv_iload hx hb dX1_nextOnTop_43 (lv_at hl 3 rfl) ?_
            have b10 : vp_in y15_4 48 := inC rfl (by omega) (by omega)
            refine va_iald hx hb hK hP 1 0 rfl rfl b10 dX1_nextOnTop_45 ?_
            have g11 : -1 ≤ (top y15_4.toNatClampNeg).toInt ∧ (top y15_4.toNatClampNeg).toInt ≤ 23 := rg_at r_top b10
            refine lv_iconst (v := (-1)) hx hb dX1_nextOnTop_46 (by decide) ?_
            refine lv_icmp_eq (tgt := 58) hx hb dX1_nextOnTop_47 (by decide) (fun c12 => ?_) (fun c12 => ?_)
            · have dc12 : (top y15_4.toNatClampNeg).toInt = (-1) := eqC rfl (show ((-1) : Int32).toInt = (-1) from rfl) c12
              refine lv_iload hx hb dX1_nextOnTop_58 (lv_at hl 3 rfl) ?_
              refine lv_iload_n hx hb dX1_nextOnTop_60 rfl (lv_at hl 1 rfl) ?_
              refine lv_iadd hx hb dX1_nextOnTop_61 ?_
              have f13 : (y15_4 + st).toInt = (y15_4.toInt) + (st.toInt) := addC rfl rfl (by omega) (by omega)
              refine lv_topi (fun x14 ex14 => ?_)
              have ix14 : x14.toInt = (y15_4.toInt) + (st.toInt) := by rw [ex14]; exact f13
              refine lv_istore (lv' := [(4, .int x14), (0, .ref (a 4)), (2, .int st), (3, .int x3), (5, .int y15_5)]) hx hb dX1_nextOnTop_62 hl (by decide) rfl (fun ls hl => ?_)
              obtain ⟨z15, ez15⟩ : ∃ y : Int32, y = y15_5 + 1 := ⟨_, rfl⟩
              have iz15 : z15.toInt = y15_5.toInt + 1 := by rw [ez15]; exact addC rfl rfl (by omega) (by omega)
              refine lv_iinc (v := z15) (lv' := [(5, .int z15), (4, .int x14), (0, .ref (a 4)), (2, .int st), (3, .int x3)]) hx hb dX1_nextOnTop_64 hl (k := 4) rfl (by rw [ez15]; rfl) (by decide) rfl (fun ls hl => ?_)
              refine lv_goto (tgt := 15) hx hb dX1_nextOnTop_67 (by decide) ?_
              exact ih15 x14 z15 _ (by omega) (by omega) (by omega) (by omega) (by (first | exact scn_step i15_4 (by omega) (by omega) (by omega) (by assumption) (by omega) | (rw [show (x14.toInt) = pl.toInt + st.toInt from by omega]; rfl))) (by omega) (lv_sub hl [2, 3, 4, 1, 0] rfl)
            · have dc12 : 0 ≤ (top y15_4.toNatClampNeg).toInt := ka_lo (by omega) (neC rfl (show ((-1) : Int32).toInt = (-1) from rfl) c12)
              refine lv_aload_n hx hb dX1_nextOnTop_50 rfl (lv_at hl 0 rfl) ?_
              refine va_get (D := (dC, dI)) (ci := 1) (v := .ref (a 5)) (C := RX1) (T := TX1) (N := 13) hx hb hts inX1 hown hK hP 0 rfl rfl 1 (by decide) lf9 (fun _ h9 => h9) rfl dX1_nextOnTop_51 ?_
              refine lv_iload hx hb dX1_nextOnTop_54 (lv_at hl 3 rfl) ?_
              have b16 : vp_in y15_4 48 := inC rfl (by omega) (by omega)
              refine va_iald hx hb hK hP 1 0 rfl rfl b16 dX1_nextOnTop_56 ?_
              have g17 : -1 ≤ (top y15_4.toNatClampNeg).toInt ∧ (top y15_4.toNatClampNeg).toInt ≤ 23 := rg_at r_top b16
              exact W.iret (v := top y15_4.toNatClampNeg) hx hb hr (fun tq ht hW => ⟨top y15_4.toNatClampNeg, rfl, ⟨(show -1 ≤ (top y15_4.toNatClampNeg).toInt from by omega), (show (top y15_4.toNatClampNeg).toInt ≤ 23 from by omega), (show (top y15_4.toNatClampNeg) = scn top (pl.toInt - pl.toInt % 6) st.toInt 6 (pl.toInt + st.toInt) from by (first | exact scn_out i15_4 (by omega) (by omega) | exact scn_hit i15_4 (by omega) (by omega) (by omega) rfl (by assumption) | exact scn_end i15_4 (by omega)))⟩, ht⟩) (fun q h => by cases h) dX1_nextOnTop_57
          · have dc9 : (x3.toInt) + (6) ≤ y15_4.toInt := nltC rfl f8 c9
            refine lv_iconst (v := (-1)) hx hb dX1_nextOnTop_37 (by decide) ?_
            exact W.iret (v := (-1)) hx hb hr (fun tq ht hW => ⟨(-1), rfl, ⟨(show -1 ≤ ((-1) : Int32).toInt from by (try rw [show ((-1) : Int32).toInt = (-1) from (show ((-1) : Int32).toInt = (-1) from rfl)]); omega), (show ((-1) : Int32).toInt ≤ 23 from by (try rw [show ((-1) : Int32).toInt = (-1) from (show ((-1) : Int32).toInt = (-1) from rfl)]); omega), (show ((-1) : Int32) = scn top (pl.toInt - pl.toInt % 6) st.toInt 6 (pl.toInt + st.toInt) from by (try rw [show ((-1) : Int32).toInt = (-1) from (show ((-1) : Int32).toInt = (-1) from rfl)]); (first | exact scn_out i15_4 (by omega) (by omega) | exact scn_hit i15_4 (by omega) (by omega) (by omega) rfl (by assumption) | exact scn_end i15_4 (by omega)))⟩, ht⟩) (fun q h => by cases h) dX1_nextOnTop_38
  have kc18 : (0 : Int32).toInt = 0 := rfl
  exact L15 _ x5 0 _ (by omega) (by omega) (by omega) (by omega) (by (first | exact scn_step i15_4 (by omega) (by omega) (by omega) (by assumption) (by omega) | (rw [show (x5.toInt) = pl.toInt + st.toInt from by omega]; rfl))) (Nat.lt_succ_self _) (lv_sub hl [3, 5, 2, 1, 0] rfl)
