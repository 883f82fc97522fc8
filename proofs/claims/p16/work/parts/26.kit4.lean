-- ===== contracts carried over to larger worlds =====
theorem Met_up {l : Launch} {y : MethodName} {ws : List Cond} {rm : Room} {Pc Pc' : Array Value → State → Prop} {Qc Qc' : Array Value → State → Outcome → State → Prop} {mc ms : Nat} {free free' : Addr → Prop} (hM : Met l y ws rm Pc Qc mc ms free) (hp : ∀ a s, Pc' a s → Pc a s) (hq : ∀ a st o t, Pc' a st → Qc a st o t → Qc' a st o t) (hf : ∀ q, free q → free' q) : Met l y ws rm Pc' Qc' mc ms free' := by
  intro p e h1 h2 h3 s m args below hf' happ hP hK
  obtain ⟨n, o, a1, a2, a3, hq', L, hF, hL⟩ := hM p e h1 h2 h3 s m args below hf' happ (hp _ _ hP) hK
  exact ⟨n, o, a1, a2, a3, hq _ _ _ _ hP hq', L, hF, fun q h => hf _ (hL q h)⟩
theorem va_A_sub {w wc : va_W} {isC : List Nat} (hC : isC.map (fun i => w[i]?) = wc.map some) {sz q : Nat} (h : va_A wc sz q) : va_A w sz q := by
  rcases h with ⟨k, e, h⟩ | h
  · have h1 : (wc.map some)[k]? = some (some (q, e)) := by rw [List.getElem?_map, h]; rfl
    rw [← hC, List.getElem?_map] at h1
    cases hk : isC[k]? with
    | none => rw [hk] at h1; cases h1
    | some i => rw [hk] at h1; exact Or.inl ⟨i, e, by simpa using h1⟩
  · exact Or.inr h
section KL
variable {l : Launch} {y : MethodName} {ws : List Cond} {rm : Room} {D : va_G} {tys : List (ClassId × FieldType)} {w wc wr : va_W} {as : List Value} {sz mc ms : Nat}
theorem lift_post {post post' : Int32 → US → Prop} {w1 w2 w1' : US → va_W} (isC isR pm : List Nat) (hC : isC.map (fun i => w[i]?) = wc.map some) (hR : isR.map (fun i => w[i]?) = wr.map some) (hn2 : va_nd isR = true) (hdis : ∀ i ∈ isR, i ∉ isC) (hpm : ∀ u, pm.map (fun i => (wr ++ w1 u)[i]?) = (w2 u).map some) (hnp : va_nd pm = true) (hu : ∀ r u, post r u → ∃ u', post' r u' ∧ w1' u' = w2 u)
    {a : Array Value} {st t : State} {o : Outcome} (hz : st.heap.size = sz) (hP : va_P D vwCl w st.heap) (hD0 : va_D (fun _ => True) w) (hq : va_Qi post (Bw D (va_A wc sz) w1) (va_A wc sz) a st o t) : va_Qi post' (Bw D (va_A w sz) w1') (va_A w sz) a st o t := by
  subst hz
  obtain ⟨⟨r, u, ho, hp, hB⟩, hF⟩ := hq
  obtain ⟨u', hp', e⟩ := hu r u hp
  have hD := hD0.self (sz := st.heap.size)
  have hFc : ∀ q, va_A wc st.heap.size q → va_A w st.heap.size q := fun q h => va_A_sub hC h
  obtain ⟨a1, a2⟩ := wr_back (w2 := w2) u hP hD hFc isC isR pm hC hR hn2 hdis hpm hnp t rfl hB hF.2
  exact ⟨⟨r, u', ho, hp', by show va_P D vwCl (w1' u') t.heap; rw [e]; exact a1, by show va_D _ (w1' u'); rw [e]; exact a2⟩, hF.1, fun q h1 h2 => hF.2 q h1 (fun z => h2 (hFc q z))⟩
theorem KW_lift {post post' : Int32 → US → Prop} {w1 w1' : US → va_W} (hM : KW l y ws rm D tys wc as sz mc ms post w1) (isC isR pm : List Nat) (w2 : US → va_W) (hC : isC.map (fun i => w[i]?) = wc.map some) (hR : isR.map (fun i => w[i]?) = wr.map some) (hn1 : va_nd isC = true) (hn2 : va_nd isR = true) (hdis : ∀ i ∈ isR, i ∉ isC) (hpm : ∀ u, pm.map (fun i => (wr ++ w1 u)[i]?) = (w2 u).map some) (hnp : va_nd pm = true) (hu : ∀ r u, post r u → ∃ u', post' r u' ∧ w1' u' = w2 u) : KW l y ws rm D tys w as sz mc ms post' w1' := by
  refine Met_up hM ?_ ?_ (fun q h => va_A_sub hC h)
  · intro a s q
    obtain ⟨q0, q1, q2, q3, q4, q5⟩ := q
    exact ⟨q0, q1, q2.sub isC (ka_fm hC), q3, q4.sub isC hn1 hC, q5⟩
  · intro a st o t q hq
    obtain ⟨q0, q1, q2, q3, q4, q5⟩ := q
    exact lift_post isC isR pm hC hR hn2 hdis hpm hnp hu q1 q2 q4 hq
theorem KWS_lift {ak av : Nat → Nat} {post post' : Int32 → US → Prop} {w1 w1' : US → va_W} (hM : KWS l y ws rm D tys wc ak av as sz mc ms post w1) (isC isR pm : List Nat) (w2 : US → va_W) (hC : isC.map (fun i => w[i]?) = wc.map some) (hR : isR.map (fun i => w[i]?) = wr.map some) (hn1 : va_nd isC = true) (hn2 : va_nd isR = true) (hdis : ∀ i ∈ isR, i ∉ isC) (hpm : ∀ u, pm.map (fun i => (wr ++ w1 u)[i]?) = (w2 u).map some) (hnp : va_nd pm = true) (hu : ∀ r u, post r u → ∃ u', post' r u' ∧ w1' u' = w2 u) : KWS l y ws rm D tys w ak av as sz mc ms post' w1' := by
  refine Met_up hM ?_ ?_ (fun q h => va_A_sub hC h)
  · intro a s q
    obtain ⟨q0, q1, q2, q3, q4, q5, q6⟩ := q
    exact ⟨q0, q1, q2.sub isC (ka_fm hC), q3, q4.sub isC hn1 hC, q5, q6.narrow (fun q h => va_A_sub hC h)⟩
  · intro a st o t q hq
    obtain ⟨q0, q1, q2, q3, q4, q5, q6⟩ := q
    exact lift_post isC isR pm hC hR hn2 hdis hpm hnp hu q1 q2 q4 hq
theorem KR_lift {post : Int32 → Prop} {post' : Int32 → US → Prop} {w1' : US → va_W} (hM : KR l y ws rm D tys wc as post) (isC : List Nat) (u0 : US) (hC : isC.map (fun i => w[i]?) = wc.map some) (he : w1' u0 = w) (hu : ∀ r, post r → post' r u0) : KW l y ws rm D tys w as sz 0 0 post' w1' := by
  refine Met_up hM ?_ ?_ (fun q h => h.elim)
  · intro a s q
    obtain ⟨q0, q1, q2, q3, q4, q5⟩ := q
    exact ⟨q0, q2.sub isC (ka_fm hC), q3, q5⟩
  · intro a st o t q hq
    obtain ⟨q0, q1, q2, q3, q4, q5⟩ := q
    obtain ⟨r, ho, hp, hh⟩ := hq
    refine ⟨⟨r, u0, ho, hu r hp, ?_, ?_⟩, ?_, ?_⟩
    · show va_P D vwCl (w1' u0) t.heap
      rw [he, hh]; exact q2
    · show va_D _ (w1' u0)
      rw [he]; exact q4.self (sz := sz)
    · rw [hh]; exact Nat.le_refl _
    · intro q _ _; rw [hh]
theorem KW_toS {ak av : Nat → Nat} {post : Int32 → US → Prop} {w1 : US → va_W} (hM : KW l y ws rm D tys w as sz mc ms post w1) : KWS l y ws rm D tys w ak av as sz mc ms post w1 :=
  Met_up hM (fun a s q => ⟨q.1, q.2.1, q.2.2.1, q.2.2.2.1, q.2.2.2.2.1, q.2.2.2.2.2.1⟩) (fun a st o t _ hq => hq) (fun _ h => h)
end KL
theorem spMarks_det {f : Nat → Int32} {t m r r2 : Int32} {g g2 : Nat → Int32} (h1 : spMarks f t m r g) (h2 : spMarks f t m r2 g2) : r = r2 ∧ g = g2 := by
  unfold spMarks at h1 h2
  rcases h1 with ⟨a, rfl, rfl⟩ | ⟨a, b, rfl, rfl⟩ | ⟨a, b, rfl, rfl⟩ <;> rcases h2 with ⟨c, rfl, rfl⟩ | ⟨c, d, rfl, rfl⟩ | ⟨c, d, rfl, rfl⟩ <;> first | exact ⟨rfl, rfl⟩ | (exfalso; omega)
theorem spLike_det {f : Nat → Int32} {x y r r2 : Int32} (h1 : spLike f x y r) (h2 : spLike f x y r2) : r = r2 := by
  unfold spLike at h1 h2
  rcases h1 with ⟨a, b, rfl⟩ | ⟨a, rfl⟩ <;> rcases h2 with ⟨c, d, rfl⟩ | ⟨c, rfl⟩ <;> first | rfl | (exfalso; omega)
theorem spSet_det {t g w v r t' g' r2 t2 g2 : Int32} (h1 : spSet t g w v r t' g') (h2 : spSet t g w v r2 t2 g2) : r = r2 ∧ t' = t2 ∧ g' = g2 := by
  unfold spSet at h1 h2
  rcases h1 with ⟨a, b, rfl, rfl, rfl⟩ | ⟨a, b, rfl, rfl, rfl⟩ | ⟨a, b, rfl, rfl, rfl⟩
  · rcases h2 with ⟨c, d, rfl, rfl, rfl⟩ | ⟨c, d, rfl, rfl, rfl⟩ | ⟨c, d, rfl, rfl, rfl⟩
    · exact ⟨rfl, rfl, rfl⟩
    · exfalso; rw [a] at c; exact absurd c (by decide)
    · exact absurd (And.intro a b) c
  · rcases h2 with ⟨c, d, rfl, rfl, rfl⟩ | ⟨c, d, rfl, rfl, rfl⟩ | ⟨c, d, rfl, rfl, rfl⟩
    · exfalso; rw [a] at c; exact absurd c (by decide)
    · exact ⟨rfl, rfl, rfl⟩
    · exact absurd (And.intro a b) d
  · rcases h2 with ⟨c, d, rfl, rfl, rfl⟩ | ⟨c, d, rfl, rfl, rfl⟩ | ⟨c, d, rfl, rfl, rfl⟩
    · exact absurd (And.intro c d) a
    · exact absurd (And.intro c d) b
    · exact ⟨rfl, rfl, rfl⟩
theorem spFig_det {f : Nat → Int32} {x y v r r2 : Int32} {g g2 : Nat → Int32} (h1 : spFig f x y v r g) (h2 : spFig f x y v r2 g2) : r = r2 ∧ g = g2 := by
  unfold spFig at h1 h2
  rcases h1 with ⟨a, rfl, rfl⟩ | ⟨a, b, c, d, rfl, rfl⟩ | ⟨a, b, c, d, rfl, rfl⟩ <;> rcases h2 with ⟨a2, rfl, rfl⟩ | ⟨a2, b2, c2, d2, rfl, rfl⟩ | ⟨a2, b2, c2, d2, rfl, rfl⟩ <;> first | exact ⟨rfl, rfl⟩ | (exfalso; omega)
theorem spAns_rel {f g f' g' : Nat → Int32} {p d r r2 : Int32} (h : ∀ j, j < 4 → f j = g j) (h1 : spAns f p d r f') (h2 : spAns g p d r2 g') : r = r2 ∧ ∀ j, j < 4 → f' j = g' j := by
  unfold spAns at h1 h2
  have hp : (0 ≤ p.toInt ∧ p.toInt ≤ 3) → f p.toNatClampNeg = g p.toNatClampNeg := fun q => h _ (by rw [clC (x := p) rfl]; omega)
  rcases h1 with ⟨a, rfl, rfl⟩ | ⟨a, b, rfl, rfl⟩ | ⟨a, b, c, rfl, rfl⟩ | ⟨a, b, c, rfl, rfl⟩
  · rcases h2 with ⟨a2, rfl, rfl⟩ | ⟨a2, b2, rfl, rfl⟩ | ⟨a2, b2, c2, rfl, rfl⟩ | ⟨a2, b2, c2, rfl, rfl⟩ <;> first | exact ⟨rfl, h⟩ | (exfalso; omega)
  · rcases h2 with ⟨a2, rfl, rfl⟩ | ⟨a2, b2, rfl, rfl⟩ | ⟨a2, b2, c2, rfl, rfl⟩ | ⟨a2, b2, c2, rfl, rfl⟩ <;> first | exact ⟨rfl, h⟩ | (exfalso; omega)
  · rw [hp a] at c
    rcases h2 with ⟨a2, rfl, rfl⟩ | ⟨a2, b2, rfl, rfl⟩ | ⟨a2, b2, c2, rfl, rfl⟩ | ⟨a2, b2, c2, rfl, rfl⟩ <;> first | exact ⟨rfl, h⟩ | (exfalso; omega)
  · have e := hp a
    rw [e] at c
    rcases h2 with ⟨a2, rfl, rfl⟩ | ⟨a2, b2, rfl, rfl⟩ | ⟨a2, b2, c2, rfl, rfl⟩ | ⟨a2, b2, c2, rfl, rfl⟩
    · exfalso; omega
    · exfalso; omega
    · exfalso; omega
    · rw [e]
      refine ⟨rfl, fun j hj => ?_⟩
      by_cases q : j = p.toNatClampNeg
      · subst q; rw [pk_us, pk_us]
      · rw [pk_un q, pk_un q]; exact h j hj
theorem aF_0 : ∀ j, j < 4 → aF 0 0 0 0 j = 0 := by decide
def adU (f g : Nat → Nat) : Nat → Nat := fun k => if 44 ≤ k then g (k - 44) else f k
abbrev wPU (cI cZ cQ : ClassId) (u : US) : va_W := [((u.2.2 43), .inr (9, [.ref (u.2.2 0), .ref (u.2.2 2), .ref (u.2.2 4), .ref (u.2.2 14), .ref (u.2.2 16), .ref (u.2.2 23), .ref (u.2.2 28), .ref (u.2.2 33), .ref (u.2.2 42), .ref (u.2.2 44), .ref (u.2.2 47)])), ((u.2.2 0), .inr (8, [.ref (u.2.2 1), .int (u.1 1 0)])), ((u.2.2 1), .inl (cI, 64, .inl (u.1 0))), ((u.2.2 2), .inr (2, [.ref (u.2.2 3)])), ((u.2.2 3), .inl (cI, 24, .inl (u.1 2))), ((u.2.2 4), .inr (1, [.ref (u.2.2 2), .ref (u.2.2 5), .ref (u.2.2 6), .ref (u.2.2 7), .ref (u.2.2 8), .ref (u.2.2 9), .ref (u.2.2 10), .ref (u.2.2 11), .ref (u.2.2 12), .ref (u.2.2 13), .int (u.1 12 0), .int (u.1 13 0), .int (u.1 14 0)])), ((u.2.2 5), .inl (cI, 48, .inl (u.1 3))), ((u.2.2 6), .inl (cI, 48, .inl (u.1 4))), ((u.2.2 7), .inl (cI, 48, .inl (u.1 5))), ((u.2.2 8), .inl (cI, 48, .inl (u.1 6))), ((u.2.2 9), .inl (cI, 48, .inl (u.1 7))), ((u.2.2 10), .inl (cI, 48, .inl (u.1 8))), ((u.2.2 11), .inl (cI, 24, .inl (u.1 9))), ((u.2.2 12), .inl (cI, 8, .inl (u.1 10))), ((u.2.2 13), .inl (cI, 11, .inl (u.1 11))), ((u.2.2 14), .inr (7, [.ref (u.2.2 15), .int (u.1 16 0), .int (u.1 17 0), .int (u.1 18 0)])), ((u.2.2 15), .inl (cI, 160, .inl (u.1 15))), ((u.2.2 44), .inr (5, [.ref (u.2.2 45), .ref (u.2.2 46), .int (u.1 21 0), .int (u.1 22 0), .int (u.1 23 0)])), ((u.2.2 45), .inl (cI, 8, .inl (u.1 19))), ((u.2.2 46), .inl (cI, 8, .inl (u.1 20))), ((u.2.2 47), .inr (5, [.ref (u.2.2 48), .ref (u.2.2 49), .int (u.1 26 0), .int (u.1 27 0), .int (u.1 28 0)])), ((u.2.2 48), .inl (cI, 8, .inl (u.1 24))), ((u.2.2 49), .inl (cI, 8, .inl (u.1 25))), ((u.2.2 16), .inr (3, [.ref (u.2.2 4), .ref (u.2.2 0), .ref (u.2.2 17), .ref (u.2.2 18), .ref (u.2.2 19), .ref (u.2.2 20), .ref (u.2.2 21), .ref (u.2.2 22), .int (u.1 35 0)])), ((u.2.2 17), .inl (cI, 4, .inl (u.1 29))), ((u.2.2 18), .inl (cI, 4, .inl (u.1 30))), ((u.2.2 19), .inl (cI, 4, .inl (u.1 31))), ((u.2.2 20), .inl (cI, 8, .inl (u.1 32))), ((u.2.2 21), .inl (cI, 8, .inl (u.1 33))), ((u.2.2 22), .inl (cI, 128, .inl (u.1 34))), ((u.2.2 23), .inr (6, [.ref (u.2.2 2), .ref (u.2.2 24), .ref (u.2.2 25), .ref (u.2.2 26), .ref (u.2.2 27)])), ((u.2.2 24), .inl (cI, 8, .inl (u.1 36))), ((u.2.2 25), .inl (cI, 8, .inl (u.1 37))), ((u.2.2 26), .inl (cI, 64, .inl (u.1 38))), ((u.2.2 27), .inl (cI, 2048, .inl (u.1 39))), ((u.2.2 28), .inr (0, [.ref (u.2.2 2), .ref (u.2.2 29), .ref (u.2.2 30), .ref (u.2.2 31), .ref (u.2.2 32), .int (u.1 44 0)])), ((u.2.2 29), .inl (cI, 100, .inl (u.1 40))), ((u.2.2 30), .inl (cI, 8, .inl (u.1 41))), ((u.2.2 31), .inl (cI, 6, .inl (u.1 42))), ((u.2.2 32), .inl (cI, 6, .inl (u.1 43))), ((u.2.2 33), .inl (cQ, 4, .inr (.inr (.inr (.inr (puF u.2.2)))))), ((u.2.2 34), .inr (4, [.ref (u.2.2 35), .int (u.1 47 0)])), ((u.2.2 35), .inl (cI, 81, .inl (u.1 46))), ((u.2.2 36), .inr (4, [.ref (u.2.2 37), .int (u.1 49 0)])), ((u.2.2 37), .inl (cI, 81, .inl (u.1 48))), ((u.2.2 38), .inr (4, [.ref (u.2.2 39), .int (u.1 51 0)])), ((u.2.2 39), .inl (cI, 81, .inl (u.1 50))), ((u.2.2 40), .inr (4, [.ref (u.2.2 41), .int (u.1 53 0)])), ((u.2.2 41), .inl (cI, 81, .inl (u.1 52))), ((u.2.2 42), .inl (cI, 8, .inl (u.1 45)))]
abbrev rgP (u : US) : Prop := (rg 24 (0) (255) (u.1 2)) ∧ (rg 48 (-1) (23) (u.1 3)) ∧ (rg 48 (0) (100) (u.1 4)) ∧ (rg 48 (-1) (23) (u.1 5)) ∧ (rg 48 (0) (100) (u.1 6)) ∧ (rg 48 (0) (6) (u.1 8)) ∧ (rg 24 (-1) (47) (u.1 9)) ∧ (rg 11 (0) (30) (u.1 11)) ∧ (0 ≤ (u.1 13 0).toInt ∧ (u.1 13 0).toInt ≤ 100) ∧ (0 ≤ (u.1 14 0).toInt ∧ (u.1 14 0).toInt ≤ 400) ∧ (0 ≤ (u.1 16 0).toInt ∧ (u.1 16 0).toInt ≤ 160) ∧ (0 ≤ (u.1 17 0).toInt ∧ (u.1 17 0).toInt ≤ 160) ∧ (0 ≤ (u.1 18 0).toInt ∧ (u.1 18 0).toInt ≤ 160) ∧ (rg 8 (0) (15) (u.1 32)) ∧ (rg 8 (0) (23) (u.1 36)) ∧ (rg 8 (0) (23) (u.1 41)) ∧ (rg 6 (0) (23) (u.1 42)) ∧ (rg 8 (0) (23) (u.1 45)) ∧ (0 ≤ (u.1 47 0).toInt ∧ (u.1 47 0).toInt ≤ 12) ∧ (0 ≤ (u.1 49 0).toInt ∧ (u.1 49 0).toInt ≤ 12) ∧ (0 ≤ (u.1 51 0).toInt ∧ (u.1 51 0).toInt ≤ 12) ∧ (0 ≤ (u.1 53 0).toInt ∧ (u.1 53 0).toInt ≤ 12) ∧ (plOK (u.1 3) (u.1 9)) ∧ (crI (u.1 3) (u.1 5) (u.1 6)) ∧ (mtOK (u.1 0)) ∧ (ptI (u.1 7) (u.1 14 0))
abbrev wMU (cI cZ cQ : ClassId) (u : US) : va_W := [((u.2.2 39), .inr (10, [.int (u.1 0 0), .int (u.1 1 0), .ref (u.2.2 2), .ref (u.2.2 3), .ref (u.2.2 4), .ref (u.2.2 5), .int (u.1 6 0), .int (u.1 7 0), .ref (u.2.2 8), .ref (u.2.2 9), .ref (u.2.2 10), .ref (u.2.2 11), .ref (u.2.2 12), .ref (u.2.2 13), .ref (u.2.2 14), .ref (u.2.2 15), .ref (u.2.2 16), .ref (u.2.2 17), .ref (u.2.2 18), .int (u.1 19 0), .ref (u.2.2 20), .int (u.1 21 0), .int (u.1 22 0), .long u.2.1, .int (u.1 24 0), .int (u.1 25 0), .int (u.1 26 0), .int (u.1 27 0), .ref (u.2.2 28), .int (u.1 29 0), .ref (u.2.2 30), .ref (u.2.2 31), .ref (u.2.2 32), .ref (u.2.2 33), .int (u.1 34 0), .ref (u.2.2 35), .ref (u.2.2 36), .ref (u.2.2 37), .ref (u.2.2 38)])), ((u.2.2 2), .inl (cI, 14, .inl (u.1 2))), ((u.2.2 3), .inl (cI, 14, .inl (u.1 3))), ((u.2.2 4), .inl (cI, 8, .inl (u.1 4))), ((u.2.2 5), .inl (cI, 24, .inl (u.1 5))), ((u.2.2 8), .inl (cI, 11, .inl (u.1 8))), ((u.2.2 9), .inl (cI, 48, .inl (u.1 9))), ((u.2.2 10), .inl (cI, 48, .inl (u.1 10))), ((u.2.2 11), .inl (cI, 48, .inl (u.1 11))), ((u.2.2 12), .inl (cI, 48, .inl (u.1 12))), ((u.2.2 13), .inl (cI, 48, .inl (u.1 13))), ((u.2.2 14), .inl (cI, 8, .inl (u.1 14))), ((u.2.2 15), .inl (cI, 240, .inl (u.1 15))), ((u.2.2 16), .inl (cI, 240, .inl (u.1 16))), ((u.2.2 17), .inl (cI, 5, .inl (u.1 17))), ((u.2.2 18), .inl (cI, 4, .inl (u.1 18))), ((u.2.2 20), .inl (cI, 160, .inl (u.1 20))), ((u.2.2 28), .inl (cI, 30, .inl (u.1 28))), ((u.2.2 30), .inl (cI, 30, .inl (u.1 30))), ((u.2.2 31), .inl (cI, 8, .inl (u.1 31))), ((u.2.2 32), .inl (cI, 8, .inl (u.1 32))), ((u.2.2 33), .inl (cI, 8, .inl (u.1 33))), ((u.2.2 35), .inl (cI, 4, .inl (u.1 35))), ((u.2.2 36), .inl (cI, 48, .inl (u.1 36))), ((u.2.2 37), .inl (cZ, 48, .inl (u.1 37))), ((u.2.2 38), .inl (cI, 100, .inl (u.1 38)))]
abbrev rgM (u : US) : Prop := (0 ≤ (u.1 0 0).toInt ∧ (u.1 0 0).toInt ≤ 400) ∧ (0 ≤ (u.1 1 0).toInt ∧ (u.1 1 0).toInt ≤ 14) ∧ (rg 14 (0) (7) (u.1 2)) ∧ (rg 14 (0) (7) (u.1 3)) ∧ (rg 24 (0) (255) (u.1 5)) ∧ (0 ≤ (u.1 7 0).toInt ∧ (u.1 7 0).toInt ≤ 100) ∧ (rg 11 (0) (30) (u.1 8)) ∧ (rg 48 (-1) (23) (u.1 9)) ∧ (rg 48 (0) (100) (u.1 10)) ∧ (rg 48 (-1) (23) (u.1 11)) ∧ (rg 48 (0) (100) (u.1 12)) ∧ (rg 240 (0) (100) (u.1 15)) ∧ (rg 240 (0) (100) (u.1 16)) ∧ (rg 5 (-1) (9) (u.1 17)) ∧ (0 ≤ (u.1 19 0).toInt ∧ (u.1 19 0).toInt ≤ 160) ∧ (0 ≤ (u.1 21 0).toInt ∧ (u.1 21 0).toInt ≤ 160) ∧ (0 ≤ (u.1 27 0).toInt ∧ (u.1 27 0).toInt ≤ 10) ∧ (0 ≤ (u.1 29 0).toInt ∧ (u.1 29 0).toInt ≤ 10) ∧ (rg 8 (0) (31) (u.1 31)) ∧ (rg 8 (-1) (8) (u.1 32)) ∧ (rg 4 (0) (12) (u.1 35))
