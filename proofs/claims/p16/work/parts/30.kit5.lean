-- ===== making: arrays whose kind is known already; constructors called =====
theorem ka_uq {U : State} {cA cB : ClassId} {ty : FieldType} (h1 : va_RA U cA ty) (h2 : va_RA U cB ty) : cB = cA := by
  cases ty with
  | object C => obtain ⟨_, _, _, _, _, q1⟩ := h1; obtain ⟨_, _, _, _, _, q2⟩ := h2; exact (Option.some.inj (q1.symm.trans q2)).symm
  | _ => exact (Option.some.inj (Eq.trans (Eq.symm h1) h2)).symm
section KM
variable {p : Program} {l : Launch} {e : Env} {R : Room} {s : State} {m : MethodId} {args : Array Value} {below : List Frame} {meth : Method} {c : Code} {H H0 : Heap} {locs : List Loc} {cells slots : Nat} {Q : State → Prop}
variable {pc : Nat} {ls : Array Slot} {rest st0 : List Value} {cc bytes : ByteArray} {nL maxL n index : Nat} {own C : String} {y : MethodName} {ret : Option FieldType} {ws Ts : List Cond} {rm : Room} {D : va_G} {tys : List (ClassId × FieldType)} {w wc wr : va_W} {A : Nat → Prop}
theorem va_newI (hexec : p.tables.exec = Jvm.exec) (hb : c.code = cc) {atype : ArrayType} (harr : (Cond.arrayClass (newarray.typeOf atype)).before args s = true) {ty : FieldType} (hty : newarray.typeOf atype = ty) (hK : va_K D vwCl tys s) (hP : va_P D vwCl w H) (hD : va_D A w) (hS : va_S A H0 H locs) (hA : ∀ q, H0.size ≤ q → A q) (k0 : Nat) {cA : ClassId} (hk : tys[k0]? = some (cA, ty))
    {n : Int32} {N' : Nat} {a0 : vp_A} (ha : ∀ cA : ClassId, vp_cell cA a0 = arrV cA N' (fun _ => defaultValue ty)) (hn : ¬ n < 0) (hN : n.toNatClampNeg = N') (hbytes : N' * componentBytes ty ≤ 536870912) (hcells : cells + 1 ≤ R.cells) (hslots : slots + N' ≤ R.slots) (hdg : decode cc pc = .ok (.newarray atype, 2))
    (kk : ∀ (q : Nat) (H1 : Heap), va_P D vwCl (w ++ [(q, .inl (cA, a0))]) H1 → va_D A (w ++ [(q, .inl (cA, a0))]) → va_S A H0 H1 locs →
      W p l e R s m args below meth c H1 locs (cells + 1) (slots + N') Q (F0 m (pc + 2) ls (.ref q :: rest))) : W p l e R s m args below meth c H locs cells slots Q (F0 m pc ls (.int n :: rest)) := by
  refine va_newa hexec hb harr hty hK hP hD hS hA ha hn hN hbytes hcells hslots hdg (fun q cB H1 hK2 hP1 hD1 hS1 => ?_)
  have e1 : cB = cA := ka_uq (hK.2 k0 _ hk).2 (hK2.2 tys.length (cB, ty) (by simp)).2
  subst e1
  exact kk q H1 hP1 hD1 hS1
theorem va_newQ (hexec : p.tables.exec = Jvm.exec) (hb : c.code = cc) {own C : String} {index : Nat} (hown : s.vm.findClass own = some m.cls) (hclink : (Cond.classLink own index C).before args s = true) (hover : va_AO C s) (hK : va_K D vwCl tys s) (hP : va_P D vwCl w H) (hD : va_D A w) (hS : va_S A H0 H locs) (hA : ∀ q, H0.size ≤ q → A q) (k0 : Nat) {cA : ClassId} (hk : tys[k0]? = some (cA, .object C))
    {n : Int32} {N' : Nat} (hn : ¬ n < 0) (hN : n.toNatClampNeg = N') (hbytes : N' * 4 ≤ 536870912) (hcells : cells + 1 ≤ R.cells) (hslots : slots + N' ≤ R.slots) (hdg : decode cc pc = .ok (.anewarray index, 3))
    (kk : ∀ (q : Nat) (H1 : Heap), va_P D vwCl (w ++ [(q, .inl (cA, N', .inr (.inr (.inr (.inr (fun _ => none))))))]) H1 → va_D A (w ++ [(q, .inl (cA, N', .inr (.inr (.inr (.inr (fun _ => none))))))]) → va_S A H0 H1 locs →
      W p l e R s m args below meth c H1 locs (cells + 1) (slots + N') Q (F0 m (pc + 3) ls (.ref q :: rest))) : W p l e R s m args below meth c H locs cells slots Q (F0 m pc ls (.int n :: rest)) := by
  refine va_newq hexec hb hown hclink hover hK hP hD hS hA hn hN hbytes hcells hslots hdg (fun q cB H1 hK2 hP1 hD1 hS1 => ?_)
  have e1 : cB = cA := ka_uq (hK.2 k0 _ hk).2 (hK2.2 tys.length (cB, .object C) (by simp)).2
  subst e1
  exact kk q H1 hP1 hD1 hS1
/-- a constructor called -/
theorem wvI (S : CallFix p m c cc nL s args Ts own) {mc ms : Nat} {post : US → Prop} {w1 w2 : US → va_W} {b : Addr} {As : List Value} (hM : KV l y ws rm D tys wc (.ref b :: As) H.size mc ms post w1) (cw : CallB R s args own index y bytes maxL none ws rm mc ms n ∧ y.name = "<init>" ∧ (Cond.instanceMethod y).before args s = true)
    (hP : va_P D vwCl w H) (hD : va_D A w) (hS : va_S A H0 H locs) (hA : ∀ q, H0.size ≤ q → A q) (hK : va_K D vwCl tys s) (hN : NW s) (isC isR pm : List Nat) (hC : isC.map (fun i => w[i]?) = wc.map some) (hR : isR.map (fun i => w[i]?) = wr.map some) (hn1 : va_nd isC = true) (hn2 : va_nd isR = true) (hdis : ∀ i ∈ isR, i ∉ isC) (hpm : ∀ u, pm.map (fun i => (wr ++ w1 u)[i]?) = (w2 u).map some) (hnp : va_nd pm = true)
    (hn : As.length = n) (hsize : ls.size = nL) (hstack : st0 = As.reverse ++ .ref b :: rest) (hW : (rest.map fun v => v.category).sum ≤ 8) (hdg : decode cc pc = .ok (.invokespecial index, 3)) (hf : cells + mc ≤ R.cells ∧ slots + ms ≤ R.slots)
    (kk : ∀ (u : US) (H1 : Heap) (locs1 : List Loc), post u → va_P D vwCl (w2 u) H1 → va_D A (w2 u) → va_S A H0 H1 locs1 → W p l e R s m args below meth c H1 locs1 (cells + mc) (slots + ms) Q (F0 m (pc + 3) ls rest)) : W p l e R s m args below meth c H locs cells slots Q (F0 m pc ls st0) := by
  have hp := preW (av := .ref b :: As) hP hD hK hN isC hC hn1
  have hFc := va_free (wc := wc) hD hS hA isC hC
  refine va_callv (va_runI S hM cw hp rfl hn hsize hstack (lv_room hW) hdg hf) hS (fun q _ h => hFc q h) hFc (fun u t H1 locs1 ht hvm hw hB hz1 hk1 hS1 => ?_)
  obtain ⟨a1, a2⟩ := wr_back (w2 := w2) u hP hD hFc isC isR pm hC hR hn2 hdis hpm hnp t ht hB hk1
  exact kk u H1 locs1 hw a1 a2 hS1
theorem wvIN {host : String} (S : CallFix p m c cc nL s args Ts own) {mc ms : Nat} {post : US → Prop} {w1 w2 : US → va_W} {b : Addr} {As : List Value} (hM : KV l y ws rm D tys wc (.ref b :: As) H.size mc ms post w1) (cw : va_CN R s args own index y host bytes maxL none ws rm mc ms n ∧ y.name = "<init>" ∧ (Cond.instanceMethod y).before args s = true)
    (hP : va_P D vwCl w H) (hD : va_D A w) (hS : va_S A H0 H locs) (hA : ∀ q, H0.size ≤ q → A q) (hK : va_K D vwCl tys s) (hN : NW s) (isC isR pm : List Nat) (hC : isC.map (fun i => w[i]?) = wc.map some) (hR : isR.map (fun i => w[i]?) = wr.map some) (hn1 : va_nd isC = true) (hn2 : va_nd isR = true) (hdis : ∀ i ∈ isR, i ∉ isC) (hpm : ∀ u, pm.map (fun i => (wr ++ w1 u)[i]?) = (w2 u).map some) (hnp : va_nd pm = true)
    (hn : As.length = n) (hsize : ls.size = nL) (hstack : st0 = As.reverse ++ .ref b :: rest) (hW : (rest.map fun v => v.category).sum ≤ 8) (hdg : decode cc pc = .ok (.invokespecial index, 3)) (hf : cells + mc ≤ R.cells ∧ slots + ms ≤ R.slots)
    (kk : ∀ (u : US) (H1 : Heap) (locs1 : List Loc), post u → va_P D vwCl (w2 u) H1 → va_D A (w2 u) → va_S A H0 H1 locs1 → W p l e R s m args below meth c H1 locs1 (cells + mc) (slots + ms) Q (F0 m (pc + 3) ls rest)) : W p l e R s m args below meth c H locs cells slots Q (F0 m pc ls st0) := by
  have hp := preW (av := .ref b :: As) hP hD hK hN isC hC hn1
  have hFc := va_free (wc := wc) hD hS hA isC hC
  refine va_callv (va_runIN S hM cw hp rfl hn hsize hstack (lv_room hW) hdg hf) hS (fun q _ h => hFc q h) hFc (fun u t H1 locs1 ht hvm hw hB hz1 hk1 hS1 => ?_)
  obtain ⟨a1, a2⟩ := wr_back (w2 := w2) u hP hD hFc isC isR pm hC hR hn2 hdis hpm hnp t ht hB hk1
  exact kk u H1 locs1 hw a1 a2 hS1
end KM
theorem rg_0 {n : Nat} {lo hi : Int} (h1 : lo ≤ 0) (h2 : 0 ≤ hi) : rg n lo hi (fun _ => 0) := fun _ _ => ⟨h1, h2⟩
theorem rg_all {n : Nat} {lo hi : Int} {f : Nat → Int32} {v : Int32} {V : Int} (h : ∀ j, j < n → f j = v) (hv : v.toInt = V) (h1 : lo ≤ V) (h2 : V ≤ hi) : rg n lo hi f := fun j hj => by rw [h j hj, hv]; exact ⟨h1, h2⟩
theorem fi_step {f g : Nat → Int32} {y v : Int32} {Y Z : Int} (e : g = upd f y.toNatClampNeg v) (h : ∀ j : Nat, (j : Int) < Y → f j = v) (hy : y.toInt = Y) (h0 : 0 ≤ Y) (hz : Z = Y + 1) : ∀ j : Nat, (j : Int) < Z → g j = v := by
  subst e
  intro j hj
  rw [clC hy]
  by_cases q : j = Y.toNat
  · subst q; rw [pk_us]
  · rw [pk_un q]; exact h j (by omega)
def PcWA (D : va_G) (tys : List (ClassId × FieldType)) (wc : va_W) (av : List Value) (sz : Nat) : Array Value → State → Prop := va_Pc av (fun U => U.heap.size = sz ∧ va_P D vwCl wc U.heap ∧ va_K D vwCl tys U ∧ va_D (fun _ => True) wc ∧ NW U ∧ va_AO "PalaceOfRooms$Pupil" U)
abbrev KVA (l : Launch) (y : MethodName) (ws : List Cond) (rm : Room) (D : va_G) (tys : List (ClassId × FieldType)) (wc : va_W) (av : List Value) (sz mc ms : Nat) {S : Type} (post : S → Prop) (w1 : S → va_W) : Prop := Met l y ws rm (PcWA D tys wc av sz) (va_Qv post (Bw D (va_A wc sz) w1) (va_A wc sz)) mc ms (va_A wc sz)
theorem PcWA_blind {D : va_G} {tys : List (ClassId × FieldType)} {wc : va_W} {av : List Value} {sz : Nat} : FrameBlind (PcWA D tys wc av sz) := by
  intro a U g mk q
  obtain ⟨q0, q1, q2, q3, q4, q5, q6⟩ := q
  exact ⟨q0, q1, q2, va_K.moved (u := U) (U := U.calling g mk a) (Vm.Alike.refl U.vm) q3, q4, NW.same (u := U) rfl q5, va_AO.moved (u := U) (U := U.calling g mk a) (Vm.Alike.refl U.vm) q6⟩
abbrev wCor0 (cI cZ cQ : ClassId) (a : Nat → Nat) (top : Nat → Int32) (str : Nat → Int32) (gho : Nat → Int32) (ghs : Nat → Int32) (pto : Nat → Int32) (cro : Nat → Int32) (pla : Nat → Int32) (wal : Nat → Int32) (fal : Nat → Int32) (tel : Int32) (gai : Int32) (day : Int32) : va_W := [((a 4), .inr (1, [.ref (a 2), .ref (a 5), .ref (a 6), .ref (a 7), .ref (a 8), .ref (a 9), .ref (a 10), .ref (a 11), .ref (a 12), .ref (a 13), .int tel, .int gai, .int day])), ((a 5), .inl (cI, 48, .inl top)), ((a 6), .inl (cI, 48, .inl str)), ((a 7), .inl (cI, 48, .inl gho)), ((a 8), .inl (cI, 48, .inl ghs)), ((a 9), .inl (cI, 48, .inl pto)), ((a 10), .inl (cI, 48, .inl cro)), ((a 11), .inl (cI, 24, .inl pla)), ((a 12), .inl (cI, 8, .inl wal)), ((a 13), .inl (cI, 11, .inl fal))]
abbrev wPln0 (cI cZ cQ : ClassId) (a : Nat → Nat) (min : Nat → Int32) (tri : Nat → Int32) (bes : Nat → Int32) (wkd : Nat → Int32) (cos : Nat → Int32) (rst : Nat → Int32) (bst : Int32) : va_W := [((a 16), .inr (3, [.ref (a 4), .ref (a 0), .ref (a 17), .ref (a 18), .ref (a 19), .ref (a 20), .ref (a 21), .ref (a 22), .int bst])), ((a 17), .inl (cI, 4, .inl min)), ((a 18), .inl (cI, 4, .inl tri)), ((a 19), .inl (cI, 4, .inl bes)), ((a 20), .inl (cI, 8, .inl wkd)), ((a 21), .inl (cI, 8, .inl cos)), ((a 22), .inl (cI, 128, .inl rst))]
abbrev wSpe0 (cI cZ cQ : ClassId) (a : Nat → Nat) (sor : Nat → Int32) (ord : Nat → Int32) (sha : Nat → Int32) (toc : Nat → Int32) : va_W := [((a 23), .inr (6, [.ref (a 2), .ref (a 24), .ref (a 25), .ref (a 26), .ref (a 27)])), ((a 24), .inl (cI, 8, .inl sor)), ((a 25), .inl (cI, 8, .inl ord)), ((a 26), .inl (cI, 64, .inl sha)), ((a 27), .inl (cI, 2048, .inl toc))]
abbrev wCod0 (cI cZ cQ : ClassId) (a : Nat → Nat) (ali : Nat → Int32) (thi : Nat → Int32) (ctr : Nat → Int32) (cbe : Nat → Int32) (har : Int32) : va_W := [((a 28), .inr (0, [.ref (a 2), .ref (a 29), .ref (a 30), .ref (a 31), .ref (a 32), .int har])), ((a 29), .inl (cI, 100, .inl ali)), ((a 30), .inl (cI, 8, .inl thi)), ((a 31), .inl (cI, 6, .inl ctr)), ((a 32), .inl (cI, 6, .inl cbe))]
