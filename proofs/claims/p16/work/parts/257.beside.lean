-- ===== the next THING beside: a scan of one ROOM =====
def scn (T : Nat → Int32) (lo s : Int) : Nat → Int → Int32
  | 0, _ => -1
  | n + 1, k => if k < lo ∨ lo + 6 ≤ k then -1 else if T k.toNat = -1 then scn T lo s n (k + s) else T k.toNat
theorem scn_out {T : Nat → Int32} {lo s k : Int} {N : Nat} {R : Int32} (h : scn T lo s N k = R) (hN : 1 ≤ N) (ho : k < lo ∨ lo + 6 ≤ k) : -1 = R := by
  obtain ⟨n, rfl⟩ : ∃ n, N = n + 1 := ⟨N - 1, by omega⟩
  rw [← h]; show _ = if _ then _ else _
  rw [if_pos ho]
theorem scn_end {T : Nat → Int32} {lo s k : Int} {N : Nat} {R : Int32} (h : scn T lo s N k = R) (hN : N = 0) : -1 = R := by
  subst hN; exact h
theorem scn_hit {T : Nat → Int32} {lo s : Int} {N : Nat} {R y v : Int32} (h : scn T lo s N y.toInt = R) (hN : 1 ≤ N) (h1 : lo ≤ y.toInt) (h2 : y.toInt < lo + 6) (hv : v = T y.toNatClampNeg) (hn : ¬ v = -1) : v = R := by
  obtain ⟨n, rfl⟩ : ∃ n, N = n + 1 := ⟨N - 1, by omega⟩
  rw [← h]; show _ = if _ then _ else _
  rw [clC (x := y) rfl] at hv
  rw [if_neg (by omega), ← hv, if_neg hn]
theorem scn_step {T : Nat → Int32} {lo s k' : Int} {N N' : Nat} {R y : Int32} (h : scn T lo s N y.toInt = R) (hN : N = N' + 1) (h1 : lo ≤ y.toInt) (h2 : y.toInt < lo + 6) (hv : T y.toNatClampNeg = -1) (hk : k' = y.toInt + s) : scn T lo s N' k' = R := by
  subst hN; subst hk
  rw [← h]; show _ = if _ then _ else _
  rw [clC (x := y) rfl] at hv
  rw [if_neg (by omega), if_pos hv]
theorem scn_eq {T G : Nat → Int32} {lo s : Int} (h : ∀ j, j < 48 → T j = G j) (h0 : 0 ≤ lo) (h1 : lo + 6 ≤ 48) : ∀ (n : Nat) (k : Int), scn T lo s n k = scn G lo s n k
  | 0, _ => rfl
  | n + 1, k => by
    show (if _ then _ else _) = (if _ then _ else _)
    by_cases q : k < lo ∨ lo + 6 ≤ k
    · rw [if_pos q, if_pos q]
    · rw [if_neg q, if_neg q, h k.toNat (by omega), scn_eq h h0 h1 n]
def bes (T : Nat → Int32) (c s r : Int32) : Prop := (c = -1 ∧ r = -1) ∨ (c ≠ -1 ∧ r = scn T (c.toInt - c.toInt % 6) (if s = 1 then 1 else -1) 6 (c.toInt + (if s = 1 then 1 else -1)))
def spBeside (T : Nat → Int32) (t s r : Int32) : Prop := ((t.toInt < 0 ∨ 23 < t.toInt) ∧ r = -2) ∨ ((0 ≤ t.toInt ∧ t.toInt ≤ 23) ∧ (s.toInt < 0 ∨ 1 < s.toInt) ∧ r = -3) ∨ ((0 ≤ t.toInt ∧ t.toInt ≤ 23) ∧ (0 ≤ s.toInt ∧ s.toInt ≤ 1) ∧ ∃ c : Int32, whu T t c ∧ bes T c s r)
def spBesideM (T : Nat → Int32) (t s r : Int32) : Prop := ((t.toInt < 0 ∨ 23 < t.toInt) ∧ r = -2) ∨ ((0 ≤ t.toInt ∧ t.toInt ≤ 23) ∧ (s.toInt < 0 ∨ 1 < s.toInt) ∧ r = -3) ∨ ((0 ≤ t.toInt ∧ t.toInt ≤ 23) ∧ (0 ≤ s.toInt ∧ s.toInt ≤ 1) ∧ ∃ c : Int32, whr T t c ∧ bes T c s r)
theorem whu_whr {f g : Nat → Int32} {t c d : Int32} (h : ∀ j, j < 48 → f j = g j) (h1 : whu f t c) (h2 : whr g t d) : c = d ∧ (c = -1 ∨ (0 ≤ c.toInt ∧ c.toInt ≤ 47)) := by
  rcases h1 with ⟨rfl, b⟩ | ⟨j, hj, rfl, e, hu⟩
  · rcases h2 with ⟨rfl, b2⟩ | ⟨j, hj, rfl, e⟩
    · exact ⟨rfl, Or.inl rfl⟩
    · exact absurd ((h j hj).trans e) (b j hj)
  · have hb : (nI j).toInt = j := nI_toInt (by omega)
    rcases h2 with ⟨rfl, b2⟩ | ⟨k, hk, rfl, e2⟩
    · exact absurd ((h j hj).symm.trans e) (b2 j hj)
    · rw [hu k hk ((h k hk).trans e2)]
      exact ⟨rfl, Or.inr (by omega)⟩
theorem spBeside_rel {f g : Nat → Int32} {t s r r2 : Int32} (h : ∀ j, j < 48 → f j = g j) (h1 : spBeside f t s r) (h2 : spBesideM g t s r2) : r = r2 := by
  unfold spBeside at h1
  unfold spBesideM at h2
  rcases h1 with ⟨a, rfl⟩ | ⟨a, b, rfl⟩ | ⟨a, b, c, hc, hb⟩
  · rcases h2 with ⟨a2, rfl⟩ | ⟨a2, b2, rfl⟩ | ⟨a2, b2, -⟩ <;> first | rfl | (exfalso; omega)
  · rcases h2 with ⟨a2, rfl⟩ | ⟨a2, b2, rfl⟩ | ⟨a2, b2, -⟩ <;> first | rfl | (exfalso; omega)
  · rcases h2 with ⟨a2, rfl⟩ | ⟨a2, b2, rfl⟩ | ⟨a2, b2, d, hd, hb2⟩
    · exfalso; omega
    · exfalso; omega
    · obtain ⟨e, hr⟩ := whu_whr h hc hd
      subst e
      unfold bes at hb hb2
      rcases hb with ⟨e1, rfl⟩ | ⟨e1, rfl⟩
      · rcases hb2 with ⟨-, rfl⟩ | ⟨e2, -⟩
        · rfl
        · exact absurd e1 e2
      · rcases hb2 with ⟨e2, -⟩ | ⟨-, rfl⟩
        · exact absurd e2 e1
        · rcases hr with hr | hr
          · exact absurd hr e1
          · exact scn_eq h (by omega) (by omega) _ _
theorem bes_at {T : Nat → Int32} {c s w r : Int32} (hc : ¬ c = -1) (hs : (s = 1 ∧ w.toInt = 1) ∨ (¬ s = 1 ∧ w.toInt = -1)) (h : r = scn T (c.toInt - c.toInt % 6) w.toInt 6 (c.toInt + w.toInt)) : bes T c s r := by
  refine Or.inr ⟨hc, ?_⟩
  rcases hs with ⟨e, e2⟩ | ⟨e, e2⟩
  · rw [e2] at h; rw [if_pos e]; exact h
  · rw [e2] at h; rw [if_neg e]; exact h
/-- the model's loop: found already, or still to be found -/
def bsk (T : Nat → Int32) (lo s : Int) (N : Nat) (k : Int) (f R : Int32) : Prop := (f = -1 ∧ scn T lo s N k = R) ∨ (¬ f = -1 ∧ f = R)
theorem bsk_step {T : Nat → Int32} {lo s k' : Int} {N N' : Nat} {R y v f : Int32} (h : bsk T lo s N y.toInt f R) (hf : f = -1) (hN : N = N' + 1) (h1 : lo ≤ y.toInt) (h2 : y.toInt < lo + 6) (hv : v = T y.toNatClampNeg) (hk : k' = y.toInt + s) : bsk T lo s N' k' v R := by
  rcases h with ⟨-, h⟩ | ⟨q, -⟩
  · by_cases e : v = -1
    · exact Or.inl ⟨e, scn_step h hN h1 h2 (hv.symm.trans e) hk⟩
    · exact Or.inr ⟨e, scn_hit h (by omega) h1 h2 hv e⟩
  · exact absurd hf q
theorem bsk_end {T : Nat → Int32} {lo s k : Int} {N : Nat} {R f : Int32} (h : bsk T lo s N k f R) (hN : 1 ≤ N) (ho : k < lo ∨ lo + 6 ≤ k ∨ ¬ f = -1) : f = R := by
  rcases h with ⟨e, h⟩ | ⟨-, e⟩
  · rw [e]
    exact scn_out h hN (by rcases ho with q | q | q <;> first | exact Or.inl q | exact Or.inr q | exact absurd e q)
  · exact e
theorem pl_ux {top pla : Nat → Int32} {x t : Int32} (h : plOK top pla) (h0 : 0 ≤ t.toInt) (h1 : t.toInt ≤ 23) (hx : x = pla t.toNatClampNeg) : whu top t x := by rw [hx]; exact pl_u h h0 h1
theorem bsk_0 {T : Nat → Int32} {lo s k k0 : Int} {N : Nat} (hk : k = k0) (hN : N = 6) : bsk T lo s N k (-1) (scn T lo s 6 k0) := Or.inl ⟨rfl, by rw [hk, hN]⟩
theorem bes_0 {T : Nat → Int32} {c r : Int32} (hc : ¬ c = -1) (h : r = scn T (c.toInt - c.toInt % 6) (-1) 6 (c.toInt + (-1))) : bes T c 0 r := Or.inr ⟨hc, by rw [if_neg (by decide)]; exact h⟩
theorem bes_1 {T : Nat → Int32} {c r : Int32} (hc : ¬ c = -1) (h : r = scn T (c.toInt - c.toInt % 6) 1 6 (c.toInt + 1)) : bes T c 1 r := Or.inr ⟨hc, by rw [if_pos rfl]; exact h⟩
theorem d66e {r : Int32} (h0 : 0 ≤ r.toInt) (h1 : r.toInt ≤ 47) : (r / 6 * 6).toInt = r.toInt - r.toInt % 6 := by
  have f := divC (a := r) (b := 6) rfl (show (6 : Int32).toInt = 6 from rfl) h0 (by decide)
  have g := mulC f (show (6 : Int32).toInt = 6 from rfl) (by omega) (by omega)
  rw [g]; omega
theorem d66 {r : Int32} (h0 : 0 ≤ r.toInt) (h1 : r.toInt ≤ 47) : 0 ≤ (r / 6 * 6).toInt ∧ (r / 6 * 6).toInt ≤ 42 := by
  have f := divC (a := r) (b := 6) rfl (show (6 : Int32).toInt = 6 from rfl) h0 (by decide)
  have g := mulC f (show (6 : Int32).toInt = 6 from rfl) (by omega) (by omega)
  rw [g]; omega
set_option maxHeartbeats 4000000 in
set_option maxRecDepth 100000 in
theorem k_X1_nextOnTop2 (l : Launch) (dC : Nat → ClassId) (dI : Nat → Nat → Nat) (cI cZ cQ : ClassId) (a : Nat → Nat) (top : Nat → Int32) (str : Nat → Int32) (gho : Nat → Int32) (ghs : Nat → Int32) (pto : Nat → Int32) (cro : Nat → Int32) (pla : Nat → Int32) (wal : Nat → Int32) (fal : Nat → Int32) (tel : Int32) (gai : Int32) (day : Int32) (mar : Nat → Int32) (pl : Int32) (st : Int32) (r_top : rg 48 (-1) (23) top) (r_str : rg 48 (0) (100) str) (r_gho : rg 48 (-1) (23) gho) (r_ghs : rg 48 (0) (100) ghs) (r_cro : rg 48 (0) (6) cro) (r_pla : rg 24 (-1) (47) pla) (r_fal : rg 11 (0) (30) fal) (r_gai : 0 ≤ gai.toInt ∧ gai.toInt ≤ 100) (r_day : 0 ≤ day.toInt ∧ day.toInt ≤ 400) (r_mar : rg 24 (0) (255) mar) (q0 : 0 ≤ pl.toInt) (q1 : pl.toInt ≤ 47) (q2 : st.toInt = 1 ∨ st.toInt = -1) (q3 : -1 ≤ st.toInt) (q4 : st.toInt ≤ 1) : KR l yX1_nextOnTop wsX1_nextOnTop { frames := 0, cells := 0, slots := 0, locals := 0 } (dC, dI) (TY cI cZ cQ) (wCor cI cZ cQ a top str gho ghs pto cro pla wal fal tel gai day mar) [.ref (a 4), .int pl, .int st] (fun r : Int32 => (-1 ≤ r.toInt) ∧ (r.toInt ≤ 23) ∧ (r = scn top (pl.toInt - pl.toInt % 6) st.toInt 6 (pl.toInt + st.toInt))) := by
  refine Met.ofW (cc := cX1_nextOnTop) (maxL := 6) (ret := (some .int)) (by decide) rfl ?_
  intro p e s m args below meth c s₁ B hml hv
  obtain ⟨rfl, hP, hK, hN⟩ := hv
  have hx := B.exec
  have hb := B.bytes
  have hr := B.returns
  have hts := atoms_spec (ws := wsX1_nextOnTop) B.pre
  have hown : s.vm.findClass RX1 = some m.cls := findClass_of_methodNamed B.named
  have hlocks := B.notSynchronized
  have lf9 := hts (.fieldLink RX1 9 "PalaceOfRooms$Corners" "top" "[I") (List.mem_cons_of_mem _ (List.mem_append_left _ (List.mem_of_getElem? (i := 0) rfl)))
  have inX1 : ∀ w ∈ wsX10, w ∈ wsX1_nextOnTop := fun w h => List.mem_cons_of_mem _ (List.mem_append_right _ h)
  have hl := lv_entry ([.ref (a 4), .int pl, .int st]) (n := 6) (Nat.le_of_ble_eq_true rfl)
  rw [lg_entry_eq]
  generalize (lg_sl ([.ref (a 4), .int pl, .int st]) ++ List.replicate (6 - (lg_sl ([.ref (a 4), .int pl, .int st])).length) Slot.unset).toArray = ls at hl ⊢
  have hl : lv_has ls 6 [(0, .ref (a 4)), (1, .int pl), (2, .int st)] := hl
  refine lv_iload_n hx hb dX1_nextOnTop_0 rfl (lv_at hl 1 rfl) ?_
  refine lv_iload_n hx hb dX1_nextOnTop_1 rfl (lv_at hl 1 rfl) ?_
  refine lv_bipush (v := 6) hx hb dX1_nextOnTop_2 (by decide) ?_
  refine lv_irem hx hb dX1_nextOnTop_4 (by decide) ?_
  have f1 : (pl - pl / 6 * 6).toInt = (pl.toInt) % (6) := remC rfl (show (6 : Int32).toInt = 6 from rfl) (by omega) (by omega)
  refine lv_isub hx hb dX1_nextOnTop_5 ?_
  have f2 : (pl - (pl - pl / 6 * 6)).toInt = (pl.toInt) - ((pl.toInt) % (6)) := subC rfl f1 (by omega) (by omega)
  refine lv_topi (fun x3 ex3 => ?_)
  have ix3 : x3.toInt = (pl.toInt) - ((pl.toInt) % (6)) := by rw [ex3]; exact f2
  refine lv_istore_n (lv' := [(3, .int x3), (0, .ref (a 4)), (1, .int pl), (2, .int st)]) hx hb dX1_nextOnTop_6 rfl hl (by decide) rfl (fun ls hl => ?_)
  refine lv_iload_n hx hb dX1_nextOnTop_7 rfl (lv_at hl 2 rfl) ?_
  refine lv_iload_n hx hb dX1_nextOnTop_8 rfl (lv_at hl 3 rfl) ?_
  refine lv_iadd hx hb dX1_nextOnTop_9 ?_
  have f4 : (pl + st).toInt = (pl.toInt) + (st.toInt) := addC rfl rfl (by omega) (by omega)
  refine lv_topi (fun x5 ex5 => ?_)
  have ix5 : x5.toInt = (pl.toInt) + (st.toInt) := by rw [ex5]; exact f4
  refine lv_istore (lv' := [(4, .int x5), (3, .int x3), (0, .ref (a 4)), (1, .int pl), (2, .int st)]) hx hb dX1_nextOnTop_10 hl (by decide) rfl (fun ls hl => ?_)
  refine lv_iconst (v := 0) hx hb dX1_nextOnTop_12 (by decide) ?_
  refine lv_istore (lv' := [(5, .int 0), (4, .int x5), (3, .int x3), (0, .ref (a 4)), (1, .int pl), (2, .int st)]) hx hb dX1_nextOnTop_13 hl (by decide) rfl (fun ls hl => ?_)
  have L15 : ∀ (nn : Nat) (y15_4 : Int32) (y15_5 : Int32) (ls : Array Slot), (0 ≤ (y15_5.toInt)) → ((y15_5.toInt) ≤ 6) → (-1 ≤ (y15_4.toInt)) → ((y15_4.toInt) ≤ 48) → (scn top (pl.toInt - pl.toInt % 6) st.toInt (6 - (y15_5.toInt)).toNat (y15_4.toInt) = scn top (pl.toInt - pl.toInt % 6) st.toInt 6 (pl.toInt + st.toInt)) → (6 - (y15_5.toInt)).toNat < nn → lv_has ls 6 [(0, .ref (a 4)), (2, .int st), (3, .int x3), (4, .int y15_4), (5, .int y15_5)] → W p l e (headSpec wsX1_nextOnTop { frames := 0, cells := 0, slots := 0, locals := 0 }).room s m ([.ref (a 4), .int pl, .int st] : List Value).toArray below meth c s.heap [] 0 0 (MQ below (QR (fun r : Int32 => (-1 ≤ r.toInt) ∧ (r.toInt ≤ 23) ∧ (r = scn top (pl.toInt - pl.toInt % 6) st.toInt 6 (pl.toInt + st.toInt)))) ([.ref (a 4), .int pl, .int st] : List Value).toArray s 0 0 (fun _ => False)) (F0 m 15 ls []) := by
    intro nn
    induction nn with
    | zero =>
      intro y15_4 y15_5 ls i15_0 i15_1 i15_2 i15_3 i15_4 hm15
      exact absurd hm15 (Nat.not_lt_zero _)
    | succ nn ih15 =>
      intro y15_4 y15_5 ls i15_0 i15_1 i15_2 i15_3 i15_4 hm15 hl
      refine lv_iload hx hb dX1_nextOnTop_15 (lv_at hl 4 rfl) ?_
      refine lv_bipush (v := 6) hx hb dX1_nextOnTop_17 (by decide) ?_
      refine lv_icmp_ge (tgt := 70) hx hb dX1_nextOnTop_19 (by decide) (fun c6 => ?_) (fun c6 => ?_)
      · have dc6 : 6 ≤ y15_5.toInt := leC (show (6 : Int32).toInt = 6 from rfl) rfl c6
        refine lv_iconst (v := (-1)) hx hb dX1_nextOnTop_70 (by decide) ?_
        exact W.iret (v := (-1)) hx hb hr (fun tq ht hW => ⟨(-1), rfl, ⟨(show -1 ≤ ((-1) : Int32).toInt from by (try rw [show ((-1) : Int32).toInt = (-1) from (show ((-1) : Int32).toInt = (-1) from rfl)]); omega), (show ((-1) : Int32).toInt ≤ 23 from by (try rw [show ((-1) : Int32).toInt = (-1) from (show ((-1) : Int32).toInt = (-1) from rfl)]); omega), (show ((-1) : Int32) = scn top (pl.toInt - pl.toInt % 6) st.toInt 6 (pl.toInt + st.toInt) from by (try rw [show ((-1) : Int32).toInt = (-1) from (show ((-1) : Int32).toInt = (-1) from rfl)]); (first | exact scn_out i15_4 (by omega) (by omega) | exact scn_hit i15_4 (by omega) (by omega) (by omega) rfl (by assumption) | exact scn_end i15_4 (by omega)))⟩, ht⟩) (fun q h => by cases h) dX1_nextOnTop_71
      · have dc6 : y15_5.toInt < 6 := nleC (show (6 : Int32).toInt = 6 from rfl) rfl c6
        refine lv_iload hx hb dX1_nextOnTop_22 (lv_at hl 3 rfl) ?_
        refine lv_iload_n hx hb dX1_nextOnTop_24 rfl (lv_at hl 2 rfl) ?_
        refine lv_icmp_lt (tgt := 37) hx hb dX1_nextOnTop_25 (by decide) (fun c7 => ?_) (fun c7 => ?_)
        · have dc7 : y15_4.toInt < x3.toInt := ltC rfl rfl c7
          refine lv_iconst (v := (-1)) hx hb dX1_nextOnTop_37 (by decide) ?_
          exact W.iret (v := (-1)) hx hb hr (fun tq ht hW => ⟨(-1), rfl, ⟨(show -1 ≤ ((-1) : Int32).toInt from by (try rw [show ((-1) : Int32).toInt = (-1) from (show ((-1) : Int32).toInt = (-1) from rfl)]); omega), (show ((-1) : Int32).toInt ≤ 23 from by (try rw [show ((-1) : Int32).toInt = (-1) from (show ((-1) : Int32).toInt = (-1) from rfl)]); omega), (show ((-1) : Int32) = scn top (pl.toInt - pl.toInt % 6) st.toInt 6 (pl.toInt + st.toInt) from by (try rw [show ((-1) : Int32).toInt = (-1) from (show ((-1) : Int32).toInt = (-1) from rfl)]); (first | exact scn_out i15_4 (by omega) (by omega) | exact scn_hit i15_4 (by omega) (by omega) (by omega) rfl (by assumption) | exact scn_end i15_4 (by omega)))⟩, ht⟩) (fun q h => by cases h) dX1_nextOnTop_38
        · have dc7 : x3.toInt ≤ y15_4.toInt := nltC rfl rfl c7
          refine lv_iload hx hb dX1_nextOnTop_28 (lv_at hl 3 rfl) ?_
          refine lv_iload_n hx hb dX1_nextOnTop_30 rfl (lv_at hl 2 rfl) ?_
          refine lv_bipush (v := 6) hx hb dX1_nextOnTop_31 (by decide) ?_
          refine lv_iadd hx hb dX1_nextOnTop_33 ?_
          have f8 : (x3 + 6).toInt = (x3.toInt) + (6) := addC rfl (show (6 : Int32).toInt = 6 from rfl) (by omega) (by omega)
          refine lv_icmp_lt (tgt := 39) hx hb dX1_nextOnTop_34 (by decide) (fun c9 => ?_) (fun c9 => ?_)
          · have dc9 : y15_4.toInt < (x3.toInt) + (6) := ltC rfl f8 c9
            refine lv_aload_n hx hb dX1_nextOnTop_39 rfl (lv_at hl 0 rfl) ?_
            refine va_get (D := (dC, dI)) (ci := 1) (v := .ref (a 5)) (C := RX1) (T := TX1) (N := 13) hx hb hts inX1 hown hK hP 0 rfl rfl 1 (by decide) lf9 (fun _ h9 => h9) rfl dX1_nextOnTop_40 ?_
            refine lv_iload hx hb dX1_nextOnTop_43 (lv_at hl 3 rfl) ?_
            have b10 : vp_in y15_4 48 := inC rfl (by omega) (by omega)
            refine va_iald hx hb hK hP 1 0 rfl rfl b10 dX1_nextOnTop_45 ?_
            have g11 : -1 ≤ (top y15_4.toNatClampNeg).toInt ∧ (top y15_4.toNatClampNeg).toInt ≤ 23 := rg_at r_top b10
            refine lv_iconst (v := (-1)) hx hb dX1_nextOnTop_46 (by decide) ?_
            refine lv_icmp_eq (tgt := 58) hx hb dX1_nextOnTop_47 (by decide) (fun c12 => ?_) (fun c12 => ?_)
            · have dc12 : (top y15_4.toNatClampNeg).toInt = (-1) := eqC rfl (show ((-1) : Int32).toInt = (-1) from rfl) c12
              refine lv_iload hx hb dX1_nextOnTop_58 (lv_at hl 3 rfl) ?_
              refine lv_iload_n hx hb dX1_nextOnTop_60 rfl (lv_at hl 1 rfl) ?_
              refine lv_iadd hx hb dX1_nextOnTop_61 ?_
              have f13 : (y15_4 + st).toInt = (y15_4.toInt) + (st.toInt) := addC rfl rfl (by omega) (by omega)
              refine lv_topi (fun x14 ex14 => ?_)
              have ix14 : x14.toInt = (y15_4.toInt) + (st.toInt) := by rw [ex14]; exact f13
              refine lv_istore (lv' := [(4, .int x14), (0, .ref (a 4)), (2, .int st), (3, .int x3), (5, .int y15_5)]) hx hb dX1_nextOnTop_62 hl (by decide) rfl (fun ls hl => ?_)
              obtain ⟨z15, ez15⟩ : ∃ y : Int32, y = y15_5 + 1 := ⟨_, rfl⟩
              have iz15 : z15.toInt = y15_5.toInt + 1 := by rw [ez15]; exact addC rfl rfl (by omega) (by omega)
              refine lv_iinc (v := z15) (lv' := [(5, .int z15), (4, .int x14), (0, .ref (a 4)), (2, .int st), (3, .int x3)]) hx hb dX1_nextOnTop_64 hl (k := 4) rfl (by rw [ez15]; rfl) (by decide) rfl (fun ls hl => ?_)
              refine lv_goto (tgt := 15) hx hb dX1_nextOnTop_67 (by decide) ?_
              exact ih15 x14 z15 _ (by omega) (by omega) (by omega) (by omega) (by (first | exact scn_step i15_4 (by omega) (by omega) (by omega) (by assumption) (by omega) | (rw [show (x14.toInt) = pl.toInt + st.toInt from by omega]; rfl))) (by omega) (lv_sub hl [2, 3, 4, 1, 0] rfl)
            · have dc12 : 0 ≤ (top y15_4.toNatClampNeg).toInt := ka_lo (by omega) (neC rfl (show ((-1) : Int32).toInt = (-1) from rfl) c12)
              refine lv_aload_n hx hb dX1_nextOnTop_50 rfl (lv_at hl 0 rfl) ?_
              refine va_get (D := (dC, dI)) (ci := 1) (v := .ref (a 5)) (C := RX1) (T := TX1) (N := 13) hx hb hts inX1 hown hK hP 0 rfl rfl 1 (by decide) lf9 (fun _ h9 => h9) rfl dX1_nextOnTop_51 ?_
              refine lv_iload hx hb dX1_nextOnTop_54 (lv_at hl 3 rfl) ?_
              have b16 : vp_in y15_4 48 := inC rfl (by omega) (by omega)
              refine va_iald hx hb hK hP 1 0 rfl rfl b16 dX1_nextOnTop_56 ?_
              have g17 : -1 ≤ (top y15_4.toNatClampNeg).toInt ∧ (top y15_4.toNatClampNeg).toInt ≤ 23 := rg_at r_top b16
              exact W.iret (v := top y15_4.toNatClampNeg) hx hb hr (fun tq ht hW => ⟨top y15_4.toNatClampNeg, rfl, ⟨(show -1 ≤ (top y15_4.toNatClampNeg).toInt from by omega), (show (top y15_4.toNatClampNeg).toInt ≤ 23 from by omega), (show (top y15_4.toNatClampNeg) = scn top (pl.toInt - pl.toInt % 6) st.toInt 6 (pl.toInt + st.toInt) from by (first | exact scn_out i15_4 (by omega) (by omega) | exact scn_hit i15_4 (by omega) (by omega) (by omega) rfl (by assumption) | exact scn_end i15_4 (by omega)))⟩, ht⟩) (fun q h => by cases h) dX1_nextOnTop_57
          · have dc9 : (x3.toInt) + (6) ≤ y15_4.toInt := nltC rfl f8 c9
            refine lv_iconst (v := (-1)) hx hb dX1_nextOnTop_37 (by decide) ?_
            exact W.iret (v := (-1)) hx hb hr (fun tq ht hW => ⟨(-1), rfl, ⟨(show -1 ≤ ((-1) : Int32).toInt from by (try rw [show ((-1) : Int32).toInt = (-1) from (show ((-1) : Int32).toInt = (-1) from rfl)]); omega), (show ((-1) : Int32).toInt ≤ 23 from by (try rw [show ((-1) : Int32).toInt = (-1) from (show ((-1) : Int32).toInt = (-1) from rfl)]); omega), (show ((-1) : Int32) = scn top (pl.toInt - pl.toInt % 6) st.toInt 6 (pl.toInt + st.toInt) from by (try rw [show ((-1) : Int32).toInt = (-1) from (show ((-1) : Int32).toInt = (-1) from rfl)]); (first | exact scn_out i15_4 (by omega) (by omega) | exact scn_hit i15_4 (by omega) (by omega) (by omega) rfl (by assumption) | exact scn_end i15_4 (by omega)))⟩, ht⟩) (fun q h => by cases h) dX1_nextOnTop_38
  have kc18 : (0 : Int32).toInt = 0 := rfl
  exact L15 _ x5 0 _ (by omega) (by omega) (by omega) (by omega) (by (first | exact scn_step i15_4 (by omega) (by omega) (by omega) (by assumption) (by omega) | (rw [show (x5.toInt) = pl.toInt + st.toInt from by omega]; rfl))) (Nat.lt_succ_self _) (lv_sub hl [3, 5, 2, 1, 0] rfl)
set_option maxHeartbeats 4000000 in
set_option maxRecDepth 100000 in
theorem k_X9_beside2 (l : Launch) (dC : Nat → ClassId) (dI : Nat → Nat → Nat) (cI cZ cQ : ClassId) (a : Nat → Nat) (rb0 : Nat) (rb1 : Nat) (rb2 : Nat) (db0 : Nat) (db1 : Nat) (db2 : Nat) (top : Nat → Int32) (str : Nat → Int32) (gho : Nat → Int32) (ghs : Nat → Int32) (pto : Nat → Int32) (cro : Nat → Int32) (pla : Nat → Int32) (wal : Nat → Int32) (fal : Nat → Int32) (tel : Int32) (gai : Int32) (day : Int32) (mar : Nat → Int32) (t : Int32) (si : Int32) (r_top : rg 48 (-1) (23) top) (r_str : rg 48 (0) (100) str) (r_gho : rg 48 (-1) (23) gho) (r_ghs : rg 48 (0) (100) ghs) (r_cro : rg 48 (0) (6) cro) (r_pla : rg 24 (-1) (47) pla) (r_fal : rg 11 (0) (30) fal) (r_gai : 0 ≤ gai.toInt ∧ gai.toInt ≤ 100) (r_day : 0 ≤ day.toInt ∧ day.toInt ≤ 400) (r_mar : rg 24 (0) (255) mar) (q0 : plOK top pla) : KR l yX9_beside wsX9_beside { frames := 2, cells := 0, slots := 0, locals := 42 } (dC, dI) (TY cI cZ cQ) (wsC cI cZ cQ a rb0 rb1 rb2 db0 db1 db2 top str gho ghs pto cro pla wal fal tel gai day mar) [.ref (a 43), .int t, .int si] (fun r : Int32 => (spBeside top t si r)) := by
  refine Met.ofW (cc := cX9_beside) (maxL := 4) (ret := (some .int)) (by decide) rfl ?_
  intro p e s m args below meth c s₁ B hml hv
  obtain ⟨rfl, hP, hK, hN⟩ := hv
  have hx := B.exec
  have hb := B.bytes
  have hr := B.returns
  have hts := atoms_spec (ws := wsX9_beside) B.pre
  have hown : s.vm.findClass RX9 = some m.cls := findClass_of_methodNamed B.named
  have hlocks := B.notSynchronized
  have lf28 := hts (.fieldLink RX9 28 "PalaceOfRooms" "corners" "LPalaceOfRooms$Corners;") (List.mem_cons_of_mem _ (List.mem_append_left _ (List.mem_append_left _ (List.mem_of_getElem? (i := 0) rfl))))
  have inX9 : ∀ w ∈ wsX90, w ∈ wsX9_beside := fun w h => List.mem_cons_of_mem _ (List.mem_append_left _ (List.mem_append_right _ h))
  have lf128 := hN.use (w := .fieldLinkNest "PalaceOfRooms" 128 "PalaceOfRooms$Corners" "placeOf" "[I" "PalaceOfRooms") (List.mem_of_getElem? (i := 8) rfl) ([.ref (a 43), .int t, .int si] : List Value).toArray
  have inX1 : ∀ w ∈ wsX10, w ∈ wsX9_beside := fun w h => List.mem_cons_of_mem _ (List.mem_append_right _ h)
  have hl := lv_entry ([.ref (a 43), .int t, .int si]) (n := 4) (Nat.le_of_ble_eq_true rfl)
  rw [lg_entry_eq]
  generalize (lg_sl ([.ref (a 43), .int t, .int si]) ++ List.replicate (4 - (lg_sl ([.ref (a 43), .int t, .int si])).length) Slot.unset).toArray = ls at hl ⊢
  have hl : lv_has ls 4 [(0, .ref (a 43)), (1, .int t), (2, .int si)] := hl
  refine lv_iload_n hx hb dX9_beside_0 rfl (lv_at hl 1 rfl) ?_
  refine rdS (As := [.int t]) (rest := []) ⟨hx, hb, hml, hown, hts⟩ (k_X9_isThing l dC dI cI cZ cQ t) (va_cwS 1 hts gX9_beside_X9_isThing rfl rfl rfl (by decide +kernel) ⟨Nat.le_of_ble_eq_true rfl, Nat.le_of_ble_eq_true rfl⟩) hP hK hN [] rfl rfl hl.1 rfl (Nat.le_of_ble_eq_true rfl) dX9_beside_1 ⟨Nat.le_of_ble_eq_true rfl, Nat.le_of_ble_eq_true rfl⟩ (fun r1 h2 => ?_)
  have h2 : ((((r1 = 1) ∧ (0 ≤ t.toInt) ∧ (t.toInt ≤ 23)) ∨ ((r1 = 0) ∧ (t.toInt < 0 ∨ 23 < t.toInt)))) := h2
  rcases h2 with (⟨rfl, h2_a0, h2_a1⟩ | ⟨rfl, h2_a0⟩)
  · refine lv_if_ne (tgt := 10) hx hb dX9_beside_4 (by decide) (fun _ => ?_) (fun c9 => absurd c9 (by decide))
    refine lv_iload_n hx hb dX9_beside_10 rfl (lv_at hl 2 rfl) ?_
    refine lv_iconst (v := 0) hx hb dX9_beside_11 (by decide) ?_
    refine lv_iconst (v := 1) hx hb dX9_beside_12 (by decide) ?_
    refine rdS (As := [.int si, .int 0, .int 1]) (rest := []) ⟨hx, hb, hml, hown, hts⟩ (k_X9_within l dC dI cI cZ cQ si (0 : Int32) (1 : Int32)) (va_cwS 3 hts gX9_beside_X9_within rfl rfl rfl (by decide +kernel) ⟨Nat.le_of_ble_eq_true rfl, Nat.le_of_ble_eq_true rfl⟩) hP hK hN [] rfl rfl hl.1 rfl (Nat.le_of_ble_eq_true rfl) dX9_beside_13 ⟨Nat.le_of_ble_eq_true rfl, Nat.le_of_ble_eq_true rfl⟩ (fun r3 h4 => ?_)
    have h4 : ((((r3 = 1) ∧ ((0) ≤ si.toInt) ∧ (si.toInt ≤ (1))) ∨ ((r3 = 0) ∧ (si.toInt < (0) ∨ (1) < si.toInt)))) := h4
    rcases h4 with (⟨rfl, h4_a0, h4_a1⟩ | ⟨rfl, h4_a0⟩)
    · refine lv_if_ne (tgt := 22) hx hb dX9_beside_16 (by decide) (fun _ => ?_) (fun c9 => absurd c9 (by decide))
      refine lv_aload_n hx hb dX9_beside_22 rfl (lv_at hl 0 rfl) ?_
      refine va_get (D := (dC, dI)) (ci := 9) (v := .ref (a 4)) (C := RX9) (T := TX9) (N := 11) hx hb hts inX9 hown hK hP 0 rfl rfl 2 (by decide) lf28 (fun _ h9 => h9) rfl dX9_beside_23 ?_
      refine va_getN (D := (dC, dI)) (ci := 1) (v := .ref (a 11)) (C := RX1) (T := TX1) (N := 13) hx hb hts inX1 hown hK hP 1 rfl rfl 7 (by decide) lf128 (fun _ h9 => h9) rfl dX9_beside_26 ?_
      refine lv_iload_n hx hb dX9_beside_29 rfl (lv_at hl 1 rfl) ?_
      have b5 : vp_in t 24 := inC rfl (by omega) (by omega)
      refine va_iald hx hb hK hP 8 0 rfl rfl b5 dX9_beside_30 ?_
      have g6 : -1 ≤ (pla t.toNatClampNeg).toInt ∧ (pla t.toNatClampNeg).toInt ≤ 47 := rg_at r_pla b5
      refine lv_topi (fun x7 ex7 => ?_)
      have ix7 : x7.toInt = (pla t.toNatClampNeg).toInt := by rw [ex7]
      refine lv_istore_n (lv' := [(3, .int x7), (0, .ref (a 43)), (1, .int t), (2, .int si)]) hx hb dX9_beside_31 rfl hl (by decide) rfl (fun ls hl => ?_)
      refine lv_iload_n hx hb dX9_beside_32 rfl (lv_at hl 0 rfl) ?_
      refine lv_iconst (v := (-1)) hx hb dX9_beside_33 (by decide) ?_
      refine lv_icmp_ne (tgt := 41) hx hb dX9_beside_34 (by decide) (fun c8 => ?_) (fun c8 => ?_)
      · have dc8 : 0 ≤ x7.toInt := ka_lo (by omega) (neC rfl (show ((-1) : Int32).toInt = (-1) from rfl) c8)
        refine lv_aload_n hx hb dX9_beside_41 rfl (lv_at hl 1 rfl) ?_
        refine va_get (D := (dC, dI)) (ci := 9) (v := .ref (a 4)) (C := RX9) (T := TX9) (N := 11) hx hb hts inX9 hown hK hP 0 rfl rfl 2 (by decide) lf28 (fun _ h9 => h9) rfl dX9_beside_42 ?_
        refine lv_iload_n hx hb dX9_beside_45 rfl (lv_at hl 0 rfl) ?_
        have L56 : ∀ (t56_0 : Int32) (ls : Array Slot), ((t56_0.toInt) = 1 ∨ (t56_0.toInt) = -1) → (-1 ≤ (t56_0.toInt)) → ((t56_0.toInt) ≤ 1) → ((si = 1 ∧ (t56_0.toInt) = 1) ∨ (¬ si = 1 ∧ (t56_0.toInt) = -1)) → lv_has ls 4 [] → W p l e (headSpec wsX9_beside { frames := 2, cells := 0, slots := 0, locals := 42 }).room s m ([.ref (a 43), .int t, .int si] : List Value).toArray below meth c s.heap [] 0 0 (MQ below (QR (fun r : Int32 => (spBeside top t si r))) ([.ref (a 43), .int t, .int si] : List Value).toArray s 0 0 (fun _ => False)) (F0 m 56 ls [.int t56_0, .int x7, .ref (a 4)]) := by
          intro t56_0 ls i56_0 i56_1 i56_2 i56_3 hl
          refine rdV (As := [.int x7, .int t56_0]) (rest := []) ⟨hx, hb, hml, hown, hts⟩ (k_X1_nextOnTop2 l dC dI cI cZ cQ a top str gho ghs pto cro pla wal fal tel gai day mar x7 t56_0 r_top r_str r_gho r_ghs r_cro r_pla r_fal r_gai r_day r_mar (by omega) (by omega) (by omega) (by omega) (by omega)) (cwV 2 hts gX9_beside_X1_nextOnTop rfl rfl rfl (by decide +kernel) ⟨Nat.le_of_ble_eq_true rfl, Nat.le_of_ble_eq_true rfl⟩) hP hK hN [1, 2, 3, 4, 5, 6, 7, 8, 9, 10, 11, 12] rfl 1 1 rfl rfl rfl hl.1 rfl (Nat.le_of_ble_eq_true rfl) dX9_beside_56 ⟨Nat.le_of_ble_eq_true rfl, Nat.le_of_ble_eq_true rfl⟩ (fun r9 h10 => ?_)
          have h10 : (-1 ≤ r9.toInt) ∧ (r9.toInt ≤ 23) ∧ (r9 = scn top (x7.toInt - x7.toInt % 6) t56_0.toInt 6 (x7.toInt + t56_0.toInt)) := h10
          obtain ⟨h10_0, h10_1, h10_2⟩ := h10
          exact W.iret (v := r9) hx hb hr (fun tq ht hW => ⟨r9, rfl, (show spBeside top t si r9 from by (first | exact Or.inl ⟨by omega, rfl⟩ | exact Or.inr (Or.inl ⟨by omega, by omega, rfl⟩) | exact Or.inr (Or.inr ⟨by omega, by omega, _, pl_ux q0 (by omega) (by omega) (by assumption), Or.inl ⟨by assumption, rfl⟩⟩) | exact Or.inr (Or.inr ⟨by omega, by omega, _, pl_ux q0 (by omega) (by omega) (by assumption), bes_at (by assumption) (by assumption) (by assumption)⟩))), ht⟩) (fun q h => by cases h) dX9_beside_59
        refine lv_iload_n hx hb dX9_beside_46 rfl (lv_at hl 3 rfl) ?_
        refine lv_iconst (v := 1) hx hb dX9_beside_47 (by decide) ?_
        refine lv_icmp_ne (tgt := 55) hx hb dX9_beside_48 (by decide) (fun c11 => ?_) (fun c11 => ?_)
        · have dc11 : si.toInt ≤ 0 := ka_hi (by omega) (neC rfl (show (1 : Int32).toInt = 1 from rfl) c11)
          refine lv_iconst (v := (-1)) hx hb dX9_beside_55 (by decide) ?_
          have kc12 : ((-1) : Int32).toInt = -1 := rfl
          exact L56 (-1) _ (by omega) (by omega) (by omega) (by (first | exact Or.inl ⟨by assumption, rfl⟩ | exact Or.inr ⟨by assumption, rfl⟩)) (lv_sub hl [] rfl)
        · have dc11 : si.toInt = 1 := eqC rfl (show (1 : Int32).toInt = 1 from rfl) c11
          refine lv_iconst (v := 1) hx hb dX9_beside_51 (by decide) ?_
          refine lv_goto (tgt := 56) hx hb dX9_beside_52 (by decide) ?_
          have kc13 : (1 : Int32).toInt = 1 := rfl
          exact L56 1 _ (by omega) (by omega) (by omega) (by (first | exact Or.inl ⟨by assumption, rfl⟩ | exact Or.inr ⟨by assumption, rfl⟩)) (lv_sub hl [] rfl)
      · have dc8 : x7.toInt = (-1) := eqC rfl (show ((-1) : Int32).toInt = (-1) from rfl) c8
        refine lv_iconst (v := (-1)) hx hb dX9_beside_37 (by decide) ?_
        refine lv_goto (tgt := 59) hx hb dX9_beside_38 (by decide) ?_
        exact W.iret (v := (-1)) hx hb hr (fun tq ht hW => ⟨(-1), rfl, (show spBeside top t si ((-1) : Int32) from by (try rw [show ((-1) : Int32).toInt = (-1) from (show ((-1) : Int32).toInt = (-1) from rfl)]); (first | exact Or.inl ⟨by omega, rfl⟩ | exact Or.inr (Or.inl ⟨by omega, by omega, rfl⟩) | exact Or.inr (Or.inr ⟨by omega, by omega, _, pl_ux q0 (by omega) (by omega) (by assumption), Or.inl ⟨by assumption, rfl⟩⟩) | exact Or.inr (Or.inr ⟨by omega, by omega, _, pl_ux q0 (by omega) (by omega) (by assumption), bes_at (by assumption) (by assumption) (by assumption)⟩))), ht⟩) (fun q h => by cases h) dX9_beside_59
    · refine lv_if_ne (tgt := 22) hx hb dX9_beside_16 (by decide) (fun c9 => absurd (by decide) c9) (fun _ => ?_)
      refine lv_bipush (v := (-3)) hx hb dX9_beside_19 (by decide) ?_
      exact W.iret (v := (-3)) hx hb hr (fun tq ht hW => ⟨(-3), rfl, (show spBeside top t si ((-3) : Int32) from by (try rw [show ((-3) : Int32).toInt = (-3) from (show ((-3) : Int32).toInt = (-3) from rfl)]); (first | exact Or.inl ⟨by omega, rfl⟩ | exact Or.inr (Or.inl ⟨by omega, by omega, rfl⟩) | exact Or.inr (Or.inr ⟨by omega, by omega, _, pl_ux q0 (by omega) (by omega) (by assumption), Or.inl ⟨by assumption, rfl⟩⟩) | exact Or.inr (Or.inr ⟨by omega, by omega, _, pl_ux q0 (by omega) (by omega) (by assumption), bes_at (by assumption) (by assumption) (by assumption)⟩))), ht⟩) (fun q h => by cases h) dX9_beside_21
  · refine lv_if_ne (tgt := 10) hx hb dX9_beside_4 (by decide) (fun c9 => absurd (by decide) c9) (fun _ => ?_)
    refine lv_bipush (v := (-2)) hx hb dX9_beside_7 (by decide) ?_
    exact W.iret (v := (-2)) hx hb hr (fun tq ht hW => ⟨(-2), rfl, (show spBeside top t si ((-2) : Int32) from by (try rw [show ((-2) : Int32).toInt = (-2) from (show ((-2) : Int32).toInt = (-2) from rfl)]); (first | exact Or.inl ⟨by omega, rfl⟩ | exact Or.inr (Or.inl ⟨by omega, by omega, rfl⟩) | exact Or.inr (Or.inr ⟨by omega, by omega, _, pl_ux q0 (by omega) (by omega) (by assumption), Or.inl ⟨by assumption, rfl⟩⟩) | exact Or.inr (Or.inr ⟨by omega, by omega, _, pl_ux q0 (by omega) (by omega) (by assumption), bes_at (by assumption) (by assumption) (by assumption)⟩))), ht⟩) (fun q h => by cases h) dX9_beside_9
set_option maxHeartbeats 4000000 in
set_option maxRecDepth 100000 in
theorem k_X10_beside2 (l : Launch) (dC : Nat → ClassId) (dI : Nat → Nat → Nat) (cI cZ cQ : ClassId) (b : Nat → Nat) (mday : Int32) (mdoo : Int32) (mdA : Nat → Int32) (mdB : Nat → Int32) (mfar : Nat → Int32) (mmar : Nat → Int32) (mtel : Int32) (mgai : Int32) (mfal : Nat → Int32) (mtop : Nat → Int32) (mstr : Nat → Int32) (mgho : Nat → Int32) (mfai : Nat → Int32) (mpto : Nat → Int32) (mwal : Nat → Int32) (mahd : Nat → Int32) (mahf : Nat → Int32) (mcho : Nat → Int32) (mbes : Nat → Int32) (mbyt : Int32) (mtxt : Nat → Int32) (mpos : Int32) (mtka : Int32) (mtok : Int64) (mdig : Int32) (mnum : Int32) (mfau : Int32) (mrdm : Int32) (mrea : Nat → Int32) (mlin : Int32) (mlne : Nat → Int32) (mthg : Nat → Int32) (mord : Nat → Int32) (mbor : Nat → Int32) (mbsm : Int32) (mans : Nat → Int32) (mand : Nat → Int32) (manr : Nat → Int32) (mali : Nat → Int32) (t : Int32) (si : Int32) (r_mday : 0 ≤ mday.toInt ∧ mday.toInt ≤ 400) (r_mdoo : 0 ≤ mdoo.toInt ∧ mdoo.toInt ≤ 14) (r_mdA : rg 14 (0) (7) mdA) (r_mdB : rg 14 (0) (7) mdB) (r_mmar : rg 24 (0) (255) mmar) (r_mgai : 0 ≤ mgai.toInt ∧ mgai.toInt ≤ 100) (r_mfal : rg 11 (0) (30) mfal) (r_mtop : rg 48 (-1) (23) mtop) (r_mstr : rg 48 (0) (100) mstr) (r_mgho : rg 48 (-1) (23) mgho) (r_mfai : rg 48 (0) (100) mfai) (r_mahd : rg 240 (0) (100) mahd) (r_mahf : rg 240 (0) (100) mahf) (r_mcho : rg 5 (-1) (9) mcho) (r_mbyt : 0 ≤ mbyt.toInt ∧ mbyt.toInt ≤ 160) (r_mpos : 0 ≤ mpos.toInt ∧ mpos.toInt ≤ 160) (r_mrdm : 0 ≤ mrdm.toInt ∧ mrdm.toInt ≤ 10) (r_mlin : 0 ≤ mlin.toInt ∧ mlin.toInt ≤ 10) (r_mthg : rg 8 (0) (31) mthg) (r_mord : rg 8 (-1) (8) mord) (r_mans : rg 4 (0) (12) mans) : KR l yX10_beside wsX10_beside { frames := 2, cells := 0, slots := 0, locals := 42 } (dC, dI) (TY cI cZ cQ) (wMod cI cZ cQ b mday mdoo mdA mdB mfar mmar mtel mgai mfal mtop mstr mgho mfai mpto mwal mahd mahf mcho mbes mbyt mtxt mpos mtka mtok mdig mnum mfau mrdm mrea mlin mlne mthg mord mbor mbsm mans mand manr mali) [.ref (b 39), .int t, .int si] (fun r : Int32 => (spBesideM mtop t si r)) := by
  refine Met.ofW (cc := cX10_beside) (maxL := 6) (ret := (some .int)) (by decide) rfl ?_
  intro p e s m args below meth c s₁ B hml hv
  obtain ⟨rfl, hP, hK, hN⟩ := hv
  have hx := B.exec
  have hb := B.bytes
  have hr := B.returns
  have hts := atoms_spec (ws := wsX10_beside) B.pre
  have hown : s.vm.findClass RX10 = some m.cls := findClass_of_methodNamed B.named
  have hlocks := B.notSynchronized
  have lf32 := hts (.fieldLink RX10 32 "PalaceOfRoomsModel" "top" "[I") (List.mem_cons_of_mem _ (List.mem_append_left _ (List.mem_of_getElem? (i := 0) rfl)))
  have inX10 : ∀ w ∈ wsX100, w ∈ wsX10_beside := fun w h => List.mem_cons_of_mem _ (List.mem_append_right _ h)
  have hl := lv_entry ([.ref (b 39), .int t, .int si]) (n := 6) (Nat.le_of_ble_eq_true rfl)
  rw [lg_entry_eq]
  generalize (lg_sl ([.ref (b 39), .int t, .int si]) ++ List.replicate (6 - (lg_sl ([.ref (b 39), .int t, .int si])).length) Slot.unset).toArray = ls at hl ⊢
  have hl : lv_has ls 6 [(0, .ref (b 39)), (1, .int t), (2, .int si)] := hl
  refine lv_iload_n hx hb dX10_beside_0 rfl (lv_at hl 1 rfl) ?_
  refine rdS (As := [.int t]) (rest := []) ⟨hx, hb, hml, hown, hts⟩ (k_X10_isThing l dC dI cI cZ cQ t) (va_cwS 1 hts gX10_beside_X10_isThing rfl rfl rfl (by decide +kernel) ⟨Nat.le_of_ble_eq_true rfl, Nat.le_of_ble_eq_true rfl⟩) hP hK hN [] rfl rfl hl.1 rfl (Nat.le_of_ble_eq_true rfl) dX10_beside_1 ⟨Nat.le_of_ble_eq_true rfl, Nat.le_of_ble_eq_true rfl⟩ (fun r1 h2 => ?_)
  have h2 : ((((r1 = 1) ∧ (0 ≤ t.toInt) ∧ (t.toInt ≤ 23)) ∨ ((r1 = 0) ∧ (t.toInt < 0 ∨ 23 < t.toInt)))) := h2
  rcases h2 with (⟨rfl, h2_a0, h2_a1⟩ | ⟨rfl, h2_a0⟩)
  · refine lv_if_ne (tgt := 10) hx hb dX10_beside_4 (by decide) (fun _ => ?_) (fun c9 => absurd c9 (by decide))
    refine lv_iload_n hx hb dX10_beside_10 rfl (lv_at hl 2 rfl) ?_
    refine lv_iconst (v := 0) hx hb dX10_beside_11 (by decide) ?_
    refine lv_iconst (v := 1) hx hb dX10_beside_12 (by decide) ?_
    refine rdS (As := [.int si, .int 0, .int 1]) (rest := []) ⟨hx, hb, hml, hown, hts⟩ (k_X10_in l dC dI cI cZ cQ si (0 : Int32) (1 : Int32)) (va_cwS 3 hts gX10_beside_X10_in rfl rfl rfl (by decide +kernel) ⟨Nat.le_of_ble_eq_true rfl, Nat.le_of_ble_eq_true rfl⟩) hP hK hN [] rfl rfl hl.1 rfl (Nat.le_of_ble_eq_true rfl) dX10_beside_13 ⟨Nat.le_of_ble_eq_true rfl, Nat.le_of_ble_eq_true rfl⟩ (fun r3 h4 => ?_)
    have h4 : ((((r3 = 1) ∧ ((0) ≤ si.toInt) ∧ (si.toInt ≤ (1))) ∨ ((r3 = 0) ∧ (si.toInt < (0) ∨ (1) < si.toInt)))) := h4
    rcases h4 with (⟨rfl, h4_a0, h4_a1⟩ | ⟨rfl, h4_a0⟩)
    · refine lv_if_ne (tgt := 22) hx hb dX10_beside_16 (by decide) (fun _ => ?_) (fun c9 => absurd c9 (by decide))
      refine lv_aload_n hx hb dX10_beside_22 rfl (lv_at hl 0 rfl) ?_
      refine lv_iload_n hx hb dX10_beside_23 rfl (lv_at hl 1 rfl) ?_
      refine rdV (As := [.int t]) (rest := []) ⟨hx, hb, hml, hown, hts⟩ (k_X10_cornerOf2 l dC dI cI cZ cQ b mday mdoo mdA mdB mfar mmar mtel mgai mfal mtop mstr mgho mfai mpto mwal mahd mahf mcho mbes mbyt mtxt mpos mtka mtok mdig mnum mfau mrdm mrea mlin mlne mthg mord mbor mbsm mans mand manr mali t r_mday r_mdoo r_mdA r_mdB r_mmar r_mgai r_mfal r_mtop r_mstr r_mgho r_mfai r_mahd r_mahf r_mcho r_mbyt r_mpos r_mrdm r_mlin r_mthg r_mord r_mans) (cwV 1 hts gX10_beside_X10_cornerOf rfl rfl rfl (by decide +kernel) ⟨Nat.le_of_ble_eq_true rfl, Nat.le_of_ble_eq_true rfl⟩) hP hK hN [0, 1, 2, 3, 4, 5, 6, 7, 8, 9, 10, 11, 12, 13, 14, 15, 16, 17, 18, 19, 20, 21, 22, 23, 24, 25] rfl 0 10 rfl rfl rfl hl.1 rfl (Nat.le_of_ble_eq_true rfl) dX10_beside_24 ⟨Nat.le_of_ble_eq_true rfl, Nat.le_of_ble_eq_true rfl⟩ (fun r5 h6 => ?_)
      have h6 : (-1 ≤ r5.toInt) ∧ (r5.toInt ≤ 47) ∧ (whr mtop t r5) := h6
      obtain ⟨h6_0, h6_1, h6_2⟩ := h6
      refine lv_istore_n (lv' := [(3, .int r5), (0, .ref (b 39)), (1, .int t), (2, .int si)]) hx hb dX10_beside_27 rfl hl (by decide) rfl (fun ls hl => ?_)
      refine lv_iconst (v := (-1)) hx hb dX10_beside_28 (by decide) ?_
      refine lv_istore (lv' := [(4, .int (-1)), (3, .int r5), (0, .ref (b 39)), (1, .int t), (2, .int si)]) hx hb dX10_beside_29 hl (by decide) rfl (fun ls hl => ?_)
      refine lv_iload_n hx hb dX10_beside_31 rfl (lv_at hl 1 rfl) ?_
      refine lv_iconst (v := (-1)) hx hb dX10_beside_32 (by decide) ?_
      refine lv_icmp_eq (tgt := 108) hx hb dX10_beside_33 (by decide) (fun c7 => ?_) (fun c7 => ?_)
      · have dc7 : r5.toInt = (-1) := eqC rfl (show ((-1) : Int32).toInt = (-1) from rfl) c7
        refine lv_iload hx hb dX10_beside_108 (lv_at hl 0 rfl) ?_
        exact W.iret (v := (-1)) hx hb hr (fun tq ht hW => ⟨(-1), rfl, (show spBesideM mtop t si ((-1) : Int32) from by (try rw [show ((-1) : Int32).toInt = (-1) from (show ((-1) : Int32).toInt = (-1) from rfl)]); (first | exact Or.inr (Or.inr ⟨by omega, by omega, _, by assumption, bes_0 (by assumption) (bsk_end i49_6 (by omega) (by first | exact Or.inl (by omega) | exact Or.inr (Or.inl (by omega)) | exact Or.inr (Or.inr (by assumption))))⟩) | exact Or.inr (Or.inr ⟨by omega, by omega, _, by assumption, bes_1 (by assumption) (bsk_end i49_6 (by omega) (by first | exact Or.inl (by omega) | exact Or.inr (Or.inl (by omega)) | exact Or.inr (Or.inr (by assumption))))⟩) | exact Or.inl ⟨by omega, rfl⟩ | exact Or.inr (Or.inl ⟨by omega, by omega, rfl⟩) | exact Or.inr (Or.inr ⟨by omega, by omega, _, by assumption, Or.inl ⟨by assumption, rfl⟩⟩))), ht⟩) (fun q h => by cases h) dX10_beside_110
      · have dc7 : 0 ≤ r5.toInt := ka_lo (by omega) (neC rfl (show ((-1) : Int32).toInt = (-1) from rfl) c7)
        have hc8 : si = 0 ∨ si = 1 := by exact ci2 rfl (by omega)
        rcases hc8 with rfl | rfl
        · have kc9 : (0 : Int32).toInt = 0 := rfl
          refine lv_iload_n hx hb dX10_beside_36 rfl (lv_at hl 1 rfl) ?_
          refine lv_iload_n hx hb dX10_beside_37 rfl (lv_at hl 4 rfl) ?_
          refine lv_if_ne (tgt := 45) hx hb dX10_beside_38 (by decide) (fun c9 => absurd (by decide) c9) (fun _ => ?_)
          refine lv_iconst (v := (-1)) hx hb dX10_beside_41 (by decide) ?_
          refine lv_goto (tgt := 46) hx hb dX10_beside_42 (by decide) ?_
          refine lv_iadd hx hb dX10_beside_46 ?_
          refine lv_topi (fun x10 ex10 => ?_)
          have ix10 : x10.toInt = (r5.toInt) + ((-1)) := by rw [ex10]; exact addC rfl (show ((-1) : Int32).toInt = (-1) from rfl) (by omega) (by omega)
          refine lv_istore (lv' := [(5, .int x10), (4, .int (-1)), (3, .int r5), (0, .ref (b 39)), (1, .int t), (2, .int 0)]) hx hb dX10_beside_47 hl (by decide) rfl (fun ls hl => ?_)
          have L49 : ∀ (nn : Nat) (y49_4 : Int32) (y49_5 : Int32) (ls : Array Slot), (-1 ≤ (y49_5.toInt)) → ((y49_5.toInt) ≤ 48) → (-1 ≤ (y49_4.toInt)) → ((y49_4.toInt) ≤ 23) → ((r5.toInt) - (r5.toInt) % 6 - 1 ≤ (y49_5.toInt)) → ((y49_5.toInt) ≤ (r5.toInt) - 1) → (bsk mtop ((r5.toInt) - (r5.toInt) % 6) (-1) ((y49_5.toInt) - (r5.toInt) + 7).toNat (y49_5.toInt) y49_4 (scn mtop ((r5.toInt) - (r5.toInt) % 6) (-1) 6 ((r5.toInt) + (-1)))) → ((y49_5.toInt) + 1).toNat < nn → lv_has ls 6 [(0, .ref (b 39)), (2, .int 0), (3, .int r5), (4, .int y49_4), (5, .int y49_5)] → W p l e (headSpec wsX10_beside { frames := 2, cells := 0, slots := 0, locals := 42 }).room s m ([.ref (b 39), .int t, .int (0 : Int32)] : List Value).toArray below meth c s.heap [] 0 0 (MQ below (QR (fun r : Int32 => (spBesideM mtop t (0 : Int32) r))) ([.ref (b 39), .int t, .int (0 : Int32)] : List Value).toArray s 0 0 (fun _ => False)) (F0 m 49 ls []) := by
            intro nn
            induction nn with
            | zero =>
              intro y49_4 y49_5 ls i49_0 i49_1 i49_2 i49_3 i49_4 i49_5 i49_6 hm49
              exact absurd hm49 (Nat.not_lt_zero _)
            | succ nn ih49 =>
              intro y49_4 y49_5 ls i49_0 i49_1 i49_2 i49_3 i49_4 i49_5 i49_6 hm49 hl
              refine lv_iload hx hb dX10_beside_49 (lv_at hl 4 rfl) ?_
              refine lv_iload_n hx hb dX10_beside_51 rfl (lv_at hl 2 rfl) ?_
              refine lv_bipush (v := 6) hx hb dX10_beside_52 (by decide) ?_
              refine lv_idiv hx hb dX10_beside_54 (by decide) ?_
              refine lv_bipush (v := 6) hx hb dX10_beside_55 (by decide) ?_
              refine lv_imul hx hb dX10_beside_57 ?_
              refine lv_topi (fun x11 ex11 => ?_)
              have ix11 : 0 ≤ x11.toInt ∧ x11.toInt ≤ 42 := by rw [ex11]; exact d66 dc7 h6_1
              have jx11 : x11.toInt = (r5.toInt) - (r5.toInt) % 6 := by rw [ex11]; exact d66e dc7 h6_1
              refine lv_icmp_lt (tgt := 108) hx hb dX10_beside_58 (by decide) (fun c12 => ?_) (fun c12 => ?_)
              · have dc12 : y49_5.toInt < x11.toInt := ltC rfl rfl c12
                refine lv_iload hx hb dX10_beside_108 (lv_at hl 3 rfl) ?_
                exact W.iret (v := y49_4) hx hb hr (fun tq ht hW => ⟨y49_4, rfl, (show spBesideM mtop t (0 : Int32) y49_4 from by (first | exact Or.inr (Or.inr ⟨by omega, by omega, _, by assumption, bes_0 (by assumption) (bsk_end i49_6 (by omega) (by first | exact Or.inl (by omega) | exact Or.inr (Or.inl (by omega)) | exact Or.inr (Or.inr (by assumption))))⟩) | exact Or.inr (Or.inr ⟨by omega, by omega, _, by assumption, bes_1 (by assumption) (bsk_end i49_6 (by omega) (by first | exact Or.inl (by omega) | exact Or.inr (Or.inl (by omega)) | exact Or.inr (Or.inr (by assumption))))⟩) | exact Or.inl ⟨by omega, rfl⟩ | exact Or.inr (Or.inl ⟨by omega, by omega, rfl⟩) | exact Or.inr (Or.inr ⟨by omega, by omega, _, by assumption, Or.inl ⟨by assumption, rfl⟩⟩))), ht⟩) (fun q h => by cases h) dX10_beside_110
              · have dc12 : x11.toInt ≤ y49_5.toInt := nltC rfl rfl c12
                refine lv_iload hx hb dX10_beside_61 (lv_at hl 4 rfl) ?_
                refine lv_iload_n hx hb dX10_beside_63 rfl (lv_at hl 2 rfl) ?_
                refine lv_bipush (v := 6) hx hb dX10_beside_64 (by decide) ?_
                refine lv_idiv hx hb dX10_beside_66 (by decide) ?_
                refine lv_bipush (v := 6) hx hb dX10_beside_67 (by decide) ?_
                refine lv_imul hx hb dX10_beside_69 ?_
                refine lv_topi (fun x13 ex13 => ?_)
                have ix13 : 0 ≤ x13.toInt ∧ x13.toInt ≤ 42 := by rw [ex13]; exact d66 dc7 h6_1
                have jx13 : x13.toInt = (r5.toInt) - (r5.toInt) % 6 := by rw [ex13]; exact d66e dc7 h6_1
                refine lv_bipush (v := 6) hx hb dX10_beside_70 (by decide) ?_
                refine lv_iadd hx hb dX10_beside_72 ?_
                have f14 : (x13 + 6).toInt = (x13.toInt) + (6) := addC rfl (show (6 : Int32).toInt = 6 from rfl) (by omega) (by omega)
                refine lv_icmp_ge (tgt := 108) hx hb dX10_beside_73 (by decide) (fun c15 => ?_) (fun c15 => ?_)
                · have dc15 : (x13.toInt) + (6) ≤ y49_5.toInt := leC f14 rfl c15
                  refine lv_iload hx hb dX10_beside_108 (lv_at hl 3 rfl) ?_
                  exact W.iret (v := y49_4) hx hb hr (fun tq ht hW => ⟨y49_4, rfl, (show spBesideM mtop t (0 : Int32) y49_4 from by (first | exact Or.inr (Or.inr ⟨by omega, by omega, _, by assumption, bes_0 (by assumption) (bsk_end i49_6 (by omega) (by first | exact Or.inl (by omega) | exact Or.inr (Or.inl (by omega)) | exact Or.inr (Or.inr (by assumption))))⟩) | exact Or.inr (Or.inr ⟨by omega, by omega, _, by assumption, bes_1 (by assumption) (bsk_end i49_6 (by omega) (by first | exact Or.inl (by omega) | exact Or.inr (Or.inl (by omega)) | exact Or.inr (Or.inr (by assumption))))⟩) | exact Or.inl ⟨by omega, rfl⟩ | exact Or.inr (Or.inl ⟨by omega, by omega, rfl⟩) | exact Or.inr (Or.inr ⟨by omega, by omega, _, by assumption, Or.inl ⟨by assumption, rfl⟩⟩))), ht⟩) (fun q h => by cases h) dX10_beside_110
                · have dc15 : y49_5.toInt < (x13.toInt) + (6) := nleC f14 rfl c15
                  refine lv_iload hx hb dX10_beside_76 (lv_at hl 3 rfl) ?_
                  refine lv_iconst (v := (-1)) hx hb dX10_beside_78 (by decide) ?_
                  refine lv_icmp_ne (tgt := 108) hx hb dX10_beside_79 (by decide) (fun c16 => ?_) (fun c16 => ?_)
                  · have dc16 : 0 ≤ y49_4.toInt := ka_lo (by omega) (neC rfl (show ((-1) : Int32).toInt = (-1) from rfl) c16)
                    refine lv_iload hx hb dX10_beside_108 (lv_at hl 3 rfl) ?_
                    exact W.iret (v := y49_4) hx hb hr (fun tq ht hW => ⟨y49_4, rfl, (show spBesideM mtop t (0 : Int32) y49_4 from by (first | exact Or.inr (Or.inr ⟨by omega, by omega, _, by assumption, bes_0 (by assumption) (bsk_end i49_6 (by omega) (by first | exact Or.inl (by omega) | exact Or.inr (Or.inl (by omega)) | exact Or.inr (Or.inr (by assumption))))⟩) | exact Or.inr (Or.inr ⟨by omega, by omega, _, by assumption, bes_1 (by assumption) (bsk_end i49_6 (by omega) (by first | exact Or.inl (by omega) | exact Or.inr (Or.inl (by omega)) | exact Or.inr (Or.inr (by assumption))))⟩) | exact Or.inl ⟨by omega, rfl⟩ | exact Or.inr (Or.inl ⟨by omega, by omega, rfl⟩) | exact Or.inr (Or.inr ⟨by omega, by omega, _, by assumption, Or.inl ⟨by assumption, rfl⟩⟩))), ht⟩) (fun q h => by cases h) dX10_beside_110
                  · have dc16 : y49_4.toInt = (-1) := eqC rfl (show ((-1) : Int32).toInt = (-1) from rfl) c16
                    refine lv_aload_n hx hb dX10_beside_82 rfl (lv_at hl 0 rfl) ?_
                    refine va_get (D := (dC, dI)) (ci := 10) (v := .ref (b 9)) (C := RX10) (T := TX10) (N := 39) hx hb hts inX10 hown hK hP 0 rfl rfl 9 (by decide) lf32 (fun _ h9 => h9) rfl dX10_beside_83 ?_
                    refine lv_iload hx hb dX10_beside_86 (lv_at hl 4 rfl) ?_
                    have b17 : vp_in y49_5 48 := inC rfl (by omega) (by omega)
                    refine va_iald hx hb hK hP 6 0 rfl rfl b17 dX10_beside_88 ?_
                    have g18 : -1 ≤ (mtop y49_5.toNatClampNeg).toInt ∧ (mtop y49_5.toNatClampNeg).toInt ≤ 23 := rg_at r_mtop b17
                    refine lv_topi (fun x19 ex19 => ?_)
                    have ix19 : x19.toInt = (mtop y49_5.toNatClampNeg).toInt := by rw [ex19]
                    refine lv_istore (lv' := [(4, .int x19), (0, .ref (b 39)), (2, .int 0), (3, .int r5), (5, .int y49_5)]) hx hb dX10_beside_89 hl (by decide) rfl (fun ls hl => ?_)
                    refine lv_iload hx hb dX10_beside_91 (lv_at hl 4 rfl) ?_
                    refine lv_iload_n hx hb dX10_beside_93 rfl (lv_at hl 2 rfl) ?_
                    refine lv_if_ne (tgt := 101) hx hb dX10_beside_94 (by decide) (fun c9 => absurd (by decide) c9) (fun _ => ?_)
                    refine lv_iconst (v := (-1)) hx hb dX10_beside_97 (by decide) ?_
                    refine lv_goto (tgt := 102) hx hb dX10_beside_98 (by decide) ?_
                    refine lv_iadd hx hb dX10_beside_102 ?_
                    refine lv_topi (fun x20 ex20 => ?_)
                    have ix20 : x20.toInt = (y49_5.toInt) + ((-1)) := by rw [ex20]; exact addC rfl (show ((-1) : Int32).toInt = (-1) from rfl) (by omega) (by omega)
                    refine lv_istore (lv' := [(5, .int x20), (4, .int x19), (0, .ref (b 39)), (2, .int 0), (3, .int r5)]) hx hb dX10_beside_103 hl (by decide) rfl (fun ls hl => ?_)
                    refine lv_goto (tgt := 49) hx hb dX10_beside_105 (by decide) ?_
                    exact ih49 x19 x20 _ (by omega) (by omega) (by omega) (by omega) (by omega) (by omega) (by (first | exact bsk_step i49_6 (by assumption) (by omega) (by omega) (by omega) (by assumption) (by omega) | exact bsk_0 (by omega) (by omega))) (by omega) (lv_sub hl [2, 3, 4, 1, 0] rfl)
          have kc21 : ((-1) : Int32).toInt = -1 := rfl
          exact L49 _ (-1) x10 _ (by omega) (by omega) (by omega) (by omega) (by omega) (by omega) (by (first | exact bsk_step i49_6 (by assumption) (by omega) (by omega) (by omega) (by assumption) (by omega) | exact bsk_0 (by omega) (by omega))) (Nat.lt_succ_self _) (lv_sub hl [3, 5, 2, 1, 0] rfl)
        · have kc22 : (1 : Int32).toInt = 1 := rfl
          refine lv_iload_n hx hb dX10_beside_36 rfl (lv_at hl 1 rfl) ?_
          refine lv_iload_n hx hb dX10_beside_37 rfl (lv_at hl 4 rfl) ?_
          refine lv_if_ne (tgt := 45) hx hb dX10_beside_38 (by decide) (fun _ => ?_) (fun c9 => absurd c9 (by decide))
          refine lv_iconst (v := 1) hx hb dX10_beside_45 (by decide) ?_
          refine lv_iadd hx hb dX10_beside_46 ?_
          have f23 : (r5 + 1).toInt = (r5.toInt) + (1) := addC rfl (show (1 : Int32).toInt = 1 from rfl) (by omega) (by omega)
          refine lv_topi (fun x24 ex24 => ?_)
          have ix24 : x24.toInt = (r5.toInt) + (1) := by rw [ex24]; exact f23
          refine lv_istore (lv' := [(5, .int x24), (4, .int (-1)), (3, .int r5), (0, .ref (b 39)), (1, .int t), (2, .int 1)]) hx hb dX10_beside_47 hl (by decide) rfl (fun ls hl => ?_)
          have L49 : ∀ (nn : Nat) (y49_4 : Int32) (y49_5 : Int32) (ls : Array Slot), (-1 ≤ (y49_5.toInt)) → ((y49_5.toInt) ≤ 48) → (-1 ≤ (y49_4.toInt)) → ((y49_4.toInt) ≤ 23) → ((r5.toInt) + 1 ≤ (y49_5.toInt)) → ((y49_5.toInt) ≤ (r5.toInt) - (r5.toInt) % 6 + 6) → (bsk mtop ((r5.toInt) - (r5.toInt) % 6) 1 (7 + (r5.toInt) - (y49_5.toInt)).toNat (y49_5.toInt) y49_4 (scn mtop ((r5.toInt) - (r5.toInt) % 6) 1 6 ((r5.toInt) + 1))) → (48 - (y49_5.toInt)).toNat < nn → lv_has ls 6 [(0, .ref (b 39)), (2, .int 1), (3, .int r5), (4, .int y49_4), (5, .int y49_5)] → W p l e (headSpec wsX10_beside { frames := 2, cells := 0, slots := 0, locals := 42 }).room s m ([.ref (b 39), .int t, .int (1 : Int32)] : List Value).toArray below meth c s.heap [] 0 0 (MQ below (QR (fun r : Int32 => (spBesideM mtop t (1 : Int32) r))) ([.ref (b 39), .int t, .int (1 : Int32)] : List Value).toArray s 0 0 (fun _ => False)) (F0 m 49 ls []) := by
            intro nn
            induction nn with
            | zero =>
              intro y49_4 y49_5 ls i49_0 i49_1 i49_2 i49_3 i49_4 i49_5 i49_6 hm49
              exact absurd hm49 (Nat.not_lt_zero _)
            | succ nn ih49 =>
              intro y49_4 y49_5 ls i49_0 i49_1 i49_2 i49_3 i49_4 i49_5 i49_6 hm49 hl
              refine lv_iload hx hb dX10_beside_49 (lv_at hl 4 rfl) ?_
              refine lv_iload_n hx hb dX10_beside_51 rfl (lv_at hl 2 rfl) ?_
              refine lv_bipush (v := 6) hx hb dX10_beside_52 (by decide) ?_
              refine lv_idiv hx hb dX10_beside_54 (by decide) ?_
              refine lv_bipush (v := 6) hx hb dX10_beside_55 (by decide) ?_
              refine lv_imul hx hb dX10_beside_57 ?_
              refine lv_topi (fun x25 ex25 => ?_)
              have ix25 : 0 ≤ x25.toInt ∧ x25.toInt ≤ 42 := by rw [ex25]; exact d66 dc7 h6_1
              have jx25 : x25.toInt = (r5.toInt) - (r5.toInt) % 6 := by rw [ex25]; exact d66e dc7 h6_1
              refine lv_icmp_lt (tgt := 108) hx hb dX10_beside_58 (by decide) (fun c26 => ?_) (fun c26 => ?_)
              · have dc26 : y49_5.toInt < x25.toInt := ltC rfl rfl c26
                refine lv_iload hx hb dX10_beside_108 (lv_at hl 3 rfl) ?_
                exact W.iret (v := y49_4) hx hb hr (fun tq ht hW => ⟨y49_4, rfl, (show spBesideM mtop t (1 : Int32) y49_4 from by (first | exact Or.inr (Or.inr ⟨by omega, by omega, _, by assumption, bes_0 (by assumption) (bsk_end i49_6 (by omega) (by first | exact Or.inl (by omega) | exact Or.inr (Or.inl (by omega)) | exact Or.inr (Or.inr (by assumption))))⟩) | exact Or.inr (Or.inr ⟨by omega, by omega, _, by assumption, bes_1 (by assumption) (bsk_end i49_6 (by omega) (by first | exact Or.inl (by omega) | exact Or.inr (Or.inl (by omega)) | exact Or.inr (Or.inr (by assumption))))⟩) | exact Or.inl ⟨by omega, rfl⟩ | exact Or.inr (Or.inl ⟨by omega, by omega, rfl⟩) | exact Or.inr (Or.inr ⟨by omega, by omega, _, by assumption, Or.inl ⟨by assumption, rfl⟩⟩))), ht⟩) (fun q h => by cases h) dX10_beside_110
              · have dc26 : x25.toInt ≤ y49_5.toInt := nltC rfl rfl c26
                refine lv_iload hx hb dX10_beside_61 (lv_at hl 4 rfl) ?_
                refine lv_iload_n hx hb dX10_beside_63 rfl (lv_at hl 2 rfl) ?_
                refine lv_bipush (v := 6) hx hb dX10_beside_64 (by decide) ?_
                refine lv_idiv hx hb dX10_beside_66 (by decide) ?_
                refine lv_bipush (v := 6) hx hb dX10_beside_67 (by decide) ?_
                refine lv_imul hx hb dX10_beside_69 ?_
                refine lv_topi (fun x27 ex27 => ?_)
                have ix27 : 0 ≤ x27.toInt ∧ x27.toInt ≤ 42 := by rw [ex27]; exact d66 dc7 h6_1
                have jx27 : x27.toInt = (r5.toInt) - (r5.toInt) % 6 := by rw [ex27]; exact d66e dc7 h6_1
                refine lv_bipush (v := 6) hx hb dX10_beside_70 (by decide) ?_
                refine lv_iadd hx hb dX10_beside_72 ?_
                have f28 : (x27 + 6).toInt = (x27.toInt) + (6) := addC rfl (show (6 : Int32).toInt = 6 from rfl) (by omega) (by omega)
                refine lv_icmp_ge (tgt := 108) hx hb dX10_beside_73 (by decide) (fun c29 => ?_) (fun c29 => ?_)
                · have dc29 : (x27.toInt) + (6) ≤ y49_5.toInt := leC f28 rfl c29
                  refine lv_iload hx hb dX10_beside_108 (lv_at hl 3 rfl) ?_
                  exact W.iret (v := y49_4) hx hb hr (fun tq ht hW => ⟨y49_4, rfl, (show spBesideM mtop t (1 : Int32) y49_4 from by (first | exact Or.inr (Or.inr ⟨by omega, by omega, _, by assumption, bes_0 (by assumption) (bsk_end i49_6 (by omega) (by first | exact Or.inl (by omega) | exact Or.inr (Or.inl (by omega)) | exact Or.inr (Or.inr (by assumption))))⟩) | exact Or.inr (Or.inr ⟨by omega, by omega, _, by assumption, bes_1 (by assumption) (bsk_end i49_6 (by omega) (by first | exact Or.inl (by omega) | exact Or.inr (Or.inl (by omega)) | exact Or.inr (Or.inr (by assumption))))⟩) | exact Or.inl ⟨by omega, rfl⟩ | exact Or.inr (Or.inl ⟨by omega, by omega, rfl⟩) | exact Or.inr (Or.inr ⟨by omega, by omega, _, by assumption, Or.inl ⟨by assumption, rfl⟩⟩))), ht⟩) (fun q h => by cases h) dX10_beside_110
                · have dc29 : y49_5.toInt < (x27.toInt) + (6) := nleC f28 rfl c29
                  refine lv_iload hx hb dX10_beside_76 (lv_at hl 3 rfl) ?_
                  refine lv_iconst (v := (-1)) hx hb dX10_beside_78 (by decide) ?_
                  refine lv_icmp_ne (tgt := 108) hx hb dX10_beside_79 (by decide) (fun c30 => ?_) (fun c30 => ?_)
                  · have dc30 : 0 ≤ y49_4.toInt := ka_lo (by omega) (neC rfl (show ((-1) : Int32).toInt = (-1) from rfl) c30)
                    refine lv_iload hx hb dX10_beside_108 (lv_at hl 3 rfl) ?_
                    exact W.iret (v := y49_4) hx hb hr (fun tq ht hW => ⟨y49_4, rfl, (show spBesideM mtop t (1 : Int32) y49_4 from by (first | exact Or.inr (Or.inr ⟨by omega, by omega, _, by assumption, bes_0 (by assumption) (bsk_end i49_6 (by omega) (by first | exact Or.inl (by omega) | exact Or.inr (Or.inl (by omega)) | exact Or.inr (Or.inr (by assumption))))⟩) | exact Or.inr (Or.inr ⟨by omega, by omega, _, by assumption, bes_1 (by assumption) (bsk_end i49_6 (by omega) (by first | exact Or.inl (by omega) | exact Or.inr (Or.inl (by omega)) | exact Or.inr (Or.inr (by assumption))))⟩) | exact Or.inl ⟨by omega, rfl⟩ | exact Or.inr (Or.inl ⟨by omega, by omega, rfl⟩) | exact Or.inr (Or.inr ⟨by omega, by omega, _, by assumption, Or.inl ⟨by assumption, rfl⟩⟩))), ht⟩) (fun q h => by cases h) dX10_beside_110
                  · have dc30 : y49_4.toInt = (-1) := eqC rfl (show ((-1) : Int32).toInt = (-1) from rfl) c30
                    refine lv_aload_n hx hb dX10_beside_82 rfl (lv_at hl 0 rfl) ?_
                    refine va_get (D := (dC, dI)) (ci := 10) (v := .ref (b 9)) (C := RX10) (T := TX10) (N := 39) hx hb hts inX10 hown hK hP 0 rfl rfl 9 (by decide) lf32 (fun _ h9 => h9) rfl dX10_beside_83 ?_
                    refine lv_iload hx hb dX10_beside_86 (lv_at hl 4 rfl) ?_
                    have b31 : vp_in y49_5 48 := inC rfl (by omega) (by omega)
                    refine va_iald hx hb hK hP 6 0 rfl rfl b31 dX10_beside_88 ?_
                    have g32 : -1 ≤ (mtop y49_5.toNatClampNeg).toInt ∧ (mtop y49_5.toNatClampNeg).toInt ≤ 23 := rg_at r_mtop b31
                    refine lv_topi (fun x33 ex33 => ?_)
                    have ix33 : x33.toInt = (mtop y49_5.toNatClampNeg).toInt := by rw [ex33]
                    refine lv_istore (lv' := [(4, .int x33), (0, .ref (b 39)), (2, .int 1), (3, .int r5), (5, .int y49_5)]) hx hb dX10_beside_89 hl (by decide) rfl (fun ls hl => ?_)
                    refine lv_iload hx hb dX10_beside_91 (lv_at hl 4 rfl) ?_
                    refine lv_iload_n hx hb dX10_beside_93 rfl (lv_at hl 2 rfl) ?_
                    refine lv_if_ne (tgt := 101) hx hb dX10_beside_94 (by decide) (fun _ => ?_) (fun c9 => absurd c9 (by decide))
                    refine lv_iconst (v := 1) hx hb dX10_beside_101 (by decide) ?_
                    refine lv_iadd hx hb dX10_beside_102 ?_
                    have f34 : (y49_5 + 1).toInt = (y49_5.toInt) + (1) := addC rfl (show (1 : Int32).toInt = 1 from rfl) (by omega) (by omega)
                    refine lv_topi (fun x35 ex35 => ?_)
                    have ix35 : x35.toInt = (y49_5.toInt) + (1) := by rw [ex35]; exact f34
                    refine lv_istore (lv' := [(5, .int x35), (4, .int x33), (0, .ref (b 39)), (2, .int 1), (3, .int r5)]) hx hb dX10_beside_103 hl (by decide) rfl (fun ls hl => ?_)
                    refine lv_goto (tgt := 49) hx hb dX10_beside_105 (by decide) ?_
                    exact ih49 x33 x35 _ (by omega) (by omega) (by omega) (by omega) (by omega) (by omega) (by (first | exact bsk_step i49_6 (by assumption) (by omega) (by omega) (by omega) (by assumption) (by omega) | exact bsk_0 (by omega) (by omega))) (by omega) (lv_sub hl [2, 3, 4, 1, 0] rfl)
          have kc36 : ((-1) : Int32).toInt = -1 := rfl
          exact L49 _ (-1) x24 _ (by omega) (by omega) (by omega) (by omega) (by omega) (by omega) (by (first | exact bsk_step i49_6 (by assumption) (by omega) (by omega) (by omega) (by assumption) (by omega) | exact bsk_0 (by omega) (by omega))) (Nat.lt_succ_self _) (lv_sub hl [3, 5, 2, 1, 0] rfl)
    · refine lv_if_ne (tgt := 22) hx hb dX10_beside_16 (by decide) (fun c9 => absurd (by decide) c9) (fun _ => ?_)
      refine lv_bipush (v := (-3)) hx hb dX10_beside_19 (by decide) ?_
      exact W.iret (v := (-3)) hx hb hr (fun tq ht hW => ⟨(-3), rfl, (show spBesideM mtop t si ((-3) : Int32) from by (try rw [show ((-3) : Int32).toInt = (-3) from (show ((-3) : Int32).toInt = (-3) from rfl)]); (first | exact Or.inr (Or.inr ⟨by omega, by omega, _, by assumption, bes_0 (by assumption) (bsk_end i49_6 (by omega) (by first | exact Or.inl (by omega) | exact Or.inr (Or.inl (by omega)) | exact Or.inr (Or.inr (by assumption))))⟩) | exact Or.inr (Or.inr ⟨by omega, by omega, _, by assumption, bes_1 (by assumption) (bsk_end i49_6 (by omega) (by first | exact Or.inl (by omega) | exact Or.inr (Or.inl (by omega)) | exact Or.inr (Or.inr (by assumption))))⟩) | exact Or.inl ⟨by omega, rfl⟩ | exact Or.inr (Or.inl ⟨by omega, by omega, rfl⟩) | exact Or.inr (Or.inr ⟨by omega, by omega, _, by assumption, Or.inl ⟨by assumption, rfl⟩⟩))), ht⟩) (fun q h => by cases h) dX10_beside_21
  · refine lv_if_ne (tgt := 10) hx hb dX10_beside_4 (by decide) (fun c9 => absurd (by decide) c9) (fun _ => ?_)
    refine lv_bipush (v := (-2)) hx hb dX10_beside_7 (by decide) ?_
    exact W.iret (v := (-2)) hx hb hr (fun tq ht hW => ⟨(-2), rfl, (show spBesideM mtop t si ((-2) : Int32) from by (try rw [show ((-2) : Int32).toInt = (-2) from (show ((-2) : Int32).toInt = (-2) from rfl)]); (first | exact Or.inr (Or.inr ⟨by omega, by omega, _, by assumption, bes_0 (by assumption) (bsk_end i49_6 (by omega) (by first | exact Or.inl (by omega) | exact Or.inr (Or.inl (by omega)) | exact Or.inr (Or.inr (by assumption))))⟩) | exact Or.inr (Or.inr ⟨by omega, by omega, _, by assumption, bes_1 (by assumption) (bsk_end i49_6 (by omega) (by first | exact Or.inl (by omega) | exact Or.inr (Or.inl (by omega)) | exact Or.inr (Or.inr (by assumption))))⟩) | exact Or.inl ⟨by omega, rfl⟩ | exact Or.inr (Or.inl ⟨by omega, by omega, rfl⟩) | exact Or.inr (Or.inr ⟨by omega, by omega, _, by assumption, Or.inl ⟨by assumption, rfl⟩⟩))), ht⟩) (fun q h => by cases h) dX10_beside_9
