/-! THE CLAIM OUT OF ONE WALK OF THE LAW'S BODY. Your part is whole_start (and what it stands on); all else here is the same for every law, but numbers. -/
def R_law : String := "PalaceOfRoomsLaw"
def lw_P (b : Addr) (xs : List Int32) (args : Array Value) (s : State) : Prop := args = #[.ref b] ∧ s.IntsAt b xs ∧ xs.length ≤ 2560 ∧ (Jvm.Cond.and given_1 narrow_1).before args s = true
def lw_Q (_ : Array Value) (s : State) (o : Outcome) (t : State) : Prop := o = .returned (some (.int 1)) ∧ Framed s o t [] 600000 7302250
def lw_Z (below : List Frame) (a : Array Value) (s : State) : State → Prop := fun t => ∃ o, t.status = .running ∧ Ended t below o ∧ lw_Q a s o t
/-- the law's own end, with 1 on the stack, nothing written that was there before, its room as the claim has it -/
theorem lw_ret {p : Program} {l : Launch} {e : Env} {s : State} {m : MethodId} {below : List Frame} {meth : Method} {c : Code} {b : Nat} (hx : p.tables.exec = Jvm.exec) (hb : c.code = code) (hr : meth.sig.returnType = ret) (hlocks : meth.locks = false) {pc : Nat} {H : Heap} {ls : Array Slot} (hdg : decode code pc = .ok (.ireturn, 1)) : W p l e room_1 s m #[Value.ref b] below meth c H [] 600000 7302250 (lw_Z below #[Value.ref b] s) (F0 m pc ls [.int 1]) := by
  intro T hT X
  obtain ⟨fs, hret, hrun, hended, hW, hframe⟩ := X.leave (v := some (.int 1)) (hlocks := hlocks) (fun h => by rw [hr] at h; cases h)
  have hmeth' : T.vm.method? m = some meth := X.method'
  refine ⟨T.setFrames fs, ?_, .returned (some (.int 1)), hrun, hended, rfl, ⟨_, rfl⟩, hW, hframe⟩
  jvm_step X.here [X.here.top, hx, hb, hdg, hmeth', hr, ret, narrow_b1]
  (try refine ⟨rfl, ?_⟩); (try refine ⟨rfl, ?_⟩)
  first | (intro acts; rw [hret _ acts rfl rfl rfl]) | rw [hret _ _ rfl rfl rfl]
  exact Steps.refl _
/-- what holds at the law's entry: the machine, the code, the tables' words (any of lw_tbl by 'hts w (by decide +kernel)'), the script of L ints xs at the cell b, what the Statement gives of the start (any of its parts by flat_of_before) -/
def lw_At (p : Program) (s : State) (m : MethodId) (meth : Method) (c : Code) (b L : Nat) (xs : Nat → Int32) : Prop :=
  p.tables.exec = Jvm.exec ∧ c.code = code ∧ meth.sig.returnType = ret ∧ c.maxLocals = 4 ∧ s.vm.findClass R_law = some m.cls ∧ (∀ w ∈ lw_tbl, w.before #[Value.ref b] s = true) ∧ va_X b L xs s s.heap ∧ b < s.heap.size ∧ meth.locks = false ∧ (Jvm.Cond.and given_1 narrow_1).before #[Value.ref b] s = true
set_option maxHeartbeats 4000000 in
set_option maxRecDepth 100000 in
theorem lc_0 {p : Program} {l : Launch} {e : Env} {s : State} {m : MethodId} {below : List Frame} {meth : Method} {c : Code} {b L : Nat} {xs : Nat → Int32} {dC : Nat → ClassId} {dI : Nat → Nat → Nat} {cI cZ cQ : ClassId} {ak av : Nat → Nat} {xa ma : Nat} (K : LC p s m meth c b L xs dC dI cI cZ cQ ak av) (hL : L ≤ 2560) (y : Int32) (hy0 : 0 ≤ y.toInt) (hy1 : y.toInt ≤ (L : Int) - 5) (u v : US) (H : Heap) (locs : List Loc) (I : LI dC dI cI cZ cQ s xa ma u v H locs) (ls : Array Slot) (hl : lv_has ls 4 [(0, .ref b), (1, .ref xa), (2, .ref ma), (3, .int y)]) (kk : ∀ (u v : US) (H : Heap) (locs : List Loc), LI dC dI cI cZ cQ s xa ma u v H locs → W p l e room_1 s m #[Value.ref b] below meth c H locs 76 4711 (lw_Z below #[Value.ref b] s) (F0 m 1248 ls [])) : W p l e room_1 s m #[Value.ref b] below meth c H locs 76 4711 (lw_Z below #[Value.ref b] s) (F0 m 176 ls []) := by
  obtain ⟨hx, hb, hml, hown, hts, hX, hbl, hK, hN, hSV⟩ := K
  obtain ⟨hu, hv, hxa, hma, hR, hP, hD, hS⟩ := I
  have hbA : ¬ AL s b := Nat.not_le.mpr hbl
  refine lv_aload_n hx hb dL_law_176 rfl (lv_at hl 1 rfl) ?_
  refine lv_aload_n hx hb dL_law_177 rfl (lv_at hl 0 rfl) ?_
  refine lv_iload_n hx hb dL_law_178 rfl (lv_at hl 3 rfl) ?_
  refine lv_iconst (v := 1) hx hb dL_law_179 (by decide) ?_
  refine lv_iadd hx hb dL_law_180 ?_
  have f1 : (y + 1).toInt = (y.toInt) + (1) := addC rfl (show (1 : Int32).toInt = 1 from rfl) (by omega) (by omega)
  refine va_sld hx hb hX hbl hbA hS (inC f1 (by omega) (by omega)) dL_law_181 ?_
  refine lv_aload_n hx hb dL_law_182 rfl (lv_at hl 0 rfl) ?_
  refine lv_iload_n hx hb dL_law_183 rfl (lv_at hl 3 rfl) ?_
  refine lv_iconst (v := 2) hx hb dL_law_184 (by decide) ?_
  refine lv_iadd hx hb dL_law_185 ?_
  have f2 : (y + 2).toInt = (y.toInt) + (2) := addC rfl (show (2 : Int32).toInt = 2 from rfl) (by omega) (by omega)
  refine va_sld hx hb hX hbl hbA hS (inC f2 (by omega) (by omega)) dL_law_186 ?_
  refine lwP (As := [.int (xs (y + 1).toNatClampNeg), .int (xs (y + 2).toNatClampNeg)]) (rest := []) ⟨hx, hb, hml, hown, hts⟩ (kU_X9_door l dC dI cI cZ cQ ak av u hu _ xa hxa (xs (y + 1).toNatClampNeg) (xs (y + 2).toNatClampNeg)) (cwV 2 hts gL_law_X9_door rfl rfl rfl (by decide +kernel) ⟨Nat.le_of_ble_eq_true rfl, Nat.le_of_ble_eq_true rfl⟩) hSV hP hD hS hK hN hxa rfl hl.1 rfl (Nat.le_of_ble_eq_true rfl) dL_law_187 ⟨Nat.le_of_ble_eq_true rfl, Nat.le_of_ble_eq_true rfl⟩ (fun r4 u3 H locs h5 hP hD hS => ?_)
  obtain ⟨hxu, hxa, hx_mar, hx_tel, hx_gai, hx_fal, hx_day, hx_ali, hx_ans0, hx_ans1, hx_ans2, hx_ans3, hx_top, hx_str, hx_gho, hx_ghs, hx_pto, hx_wal, hx_byt, hx_len, hx_mos, hx_wev, hx_aga, hx_apa, hx_lin, hx_agr0, hx_agr1, hx_agr2, hx_agr3, hxs⟩ := h5
  refine lv_pop hx hb dL_law_190 rfl ?_
  refine lv_aload_n hx hb dL_law_191 rfl (lv_at hl 2 rfl) ?_
  refine lv_aload_n hx hb dL_law_192 rfl (lv_at hl 0 rfl) ?_
  refine lv_iload_n hx hb dL_law_193 rfl (lv_at hl 3 rfl) ?_
  refine lv_iconst (v := 1) hx hb dL_law_194 (by decide) ?_
  refine lv_iadd hx hb dL_law_195 ?_
  have f6 : (y + 1).toInt = (y.toInt) + (1) := addC rfl (show (1 : Int32).toInt = 1 from rfl) (by omega) (by omega)
  refine va_sld hx hb hX hbl hbA hS (inC f6 (by omega) (by omega)) dL_law_196 ?_
  refine lv_aload_n hx hb dL_law_197 rfl (lv_at hl 0 rfl) ?_
  refine lv_iload_n hx hb dL_law_198 rfl (lv_at hl 3 rfl) ?_
  refine lv_iconst (v := 2) hx hb dL_law_199 (by decide) ?_
  refine lv_iadd hx hb dL_law_200 ?_
  have f7 : (y + 2).toInt = (y.toInt) + (2) := addC rfl (show (2 : Int32).toInt = 2 from rfl) (by omega) (by omega)
  refine va_sld hx hb hX hbl hbA hS (inC f7 (by omega) (by omega)) dL_law_201 ?_
  refine lwM (As := [.int (xs (y + 1).toNatClampNeg), .int (xs (y + 2).toNatClampNeg)]) (rest := []) ⟨hx, hb, hml, hown, hts⟩ (kU_X10_door l dC dI cI cZ cQ v hv _ ma hma (xs (y + 1).toNatClampNeg) (xs (y + 2).toNatClampNeg)) (cwV 2 hts gL_law_X10_door rfl rfl rfl (by decide +kernel) ⟨Nat.le_of_ble_eq_true rfl, Nat.le_of_ble_eq_true rfl⟩) hP hD hS hK hN hma rfl hl.1 rfl (Nat.le_of_ble_eq_true rfl) dL_law_202 ⟨Nat.le_of_ble_eq_true rfl, Nat.le_of_ble_eq_true rfl⟩ (fun r9 u8 H locs h10 hP hD hS => ?_)
  obtain ⟨hmu, hma, hm_mar, hm_tel, hm_gai, hm_fal, hm_day, hm_ali, hm_ans, hm_top, hm_str, hm_gho, hm_fai, hm_pto, hm_wal, hm_txt, hm_byt, hm_lne, hm_lin, hm_and, hm_anr, hms⟩ := h10
  refine lv_pop hx hb dL_law_205 rfl ?_
  refine lv_goto (tgt := 1248) hx hb dL_law_206 (by decide) ?_
  have hR0 := hR
  have hd := spDor_rel (hu.2.2.2.2.2.2.2.2.2.2.2.2.2.2.2.2.2.2.2.2.2.2.2.2.1) (hv.2.1) hR.2.2.2.2.2.2.2.2.2.1 hxs hms
  have hR2 : rel u3 u8 := ⟨(hx_mar.trans (hR0.1.trans hm_mar.symm)), (hx_tel.trans (hR0.2.1.trans hm_tel.symm)), (hx_gai.trans (hR0.2.2.1.trans hm_gai.symm)), (fun j hj => by rw [hx_fal, hm_fal]; exact hR0.2.2.2.1 j hj), (hx_day.trans (hR0.2.2.2.2.1.trans hm_day.symm)), (hx_ali.trans (hR0.2.2.2.2.2.1.trans hm_ali.symm)), (fun j hj => by rw [hx_ans0, hx_ans1, hx_ans2, hx_ans3, hm_ans]; exact hR0.2.2.2.2.2.2.1 j hj), (fun j hj => by rw [hx_top, hm_top]; exact hR0.2.2.2.2.2.2.2.1 j hj), (by rw [hx_top, hx_str, hx_gho, hx_ghs, hx_pto, hx_wal, hm_top, hm_str, hm_gho, hm_fai, hm_pto, hm_wal]; exact hR0.2.2.2.2.2.2.2.2.1), hd.2, (hx_byt.trans (hR0.2.2.2.2.2.2.2.2.2.2.1.trans hm_txt.symm)), (hx_len.trans (hR0.2.2.2.2.2.2.2.2.2.2.2.1.trans hm_byt.symm)), (by rw [hx_mos, hx_wev, hx_aga, hx_apa, hx_lin, hm_lne, hm_lin]; exact hR0.2.2.2.2.2.2.2.2.2.2.2.2.1), (by rw [hx_agr0, hx_agr1, hx_agr2, hx_agr3, hm_ans, hm_and, hm_anr]; exact hR0.2.2.2.2.2.2.2.2.2.2.2.2.2)⟩
  exact kk u3 u8 _ _ ⟨hxu, hmu, hxa, hma, hR2, hP, hD, hS⟩
set_option maxHeartbeats 4000000 in
set_option maxRecDepth 100000 in
theorem lc_1 {p : Program} {l : Launch} {e : Env} {s : State} {m : MethodId} {below : List Frame} {meth : Method} {c : Code} {b L : Nat} {xs : Nat → Int32} {dC : Nat → ClassId} {dI : Nat → Nat → Nat} {cI cZ cQ : ClassId} {ak av : Nat → Nat} {xa ma : Nat} (K : LC p s m meth c b L xs dC dI cI cZ cQ ak av) (hL : L ≤ 2560) (y : Int32) (hy0 : 0 ≤ y.toInt) (hy1 : y.toInt ≤ (L : Int) - 5) (u v : US) (H : Heap) (locs : List Loc) (I : LI dC dI cI cZ cQ s xa ma u v H locs) (ls : Array Slot) (hl : lv_has ls 4 [(0, .ref b), (1, .ref xa), (2, .ref ma), (3, .int y)]) (kk : ∀ (u v : US) (H : Heap) (locs : List Loc), LI dC dI cI cZ cQ s xa ma u v H locs → W p l e room_1 s m #[Value.ref b] below meth c H locs 76 4711 (lw_Z below #[Value.ref b] s) (F0 m 1248 ls [])) : W p l e room_1 s m #[Value.ref b] below meth c H locs 76 4711 (lw_Z below #[Value.ref b] s) (F0 m 209 ls []) := by
  obtain ⟨hx, hb, hml, hown, hts, hX, hbl, hK, hN, hSV⟩ := K
  obtain ⟨hu, hv, hxa, hma, hR, hP, hD, hS⟩ := I
  have hbA : ¬ AL s b := Nat.not_le.mpr hbl
  refine lv_aload_n hx hb dL_law_209 rfl (lv_at hl 1 rfl) ?_
  refine lv_aload_n hx hb dL_law_210 rfl (lv_at hl 0 rfl) ?_
  refine lv_iload_n hx hb dL_law_211 rfl (lv_at hl 3 rfl) ?_
  refine lv_iconst (v := 1) hx hb dL_law_212 (by decide) ?_
  refine lv_iadd hx hb dL_law_213 ?_
  have f1 : (y + 1).toInt = (y.toInt) + (1) := addC rfl (show (1 : Int32).toInt = 1 from rfl) (by omega) (by omega)
  refine va_sld hx hb hX hbl hbA hS (inC f1 (by omega) (by omega)) dL_law_214 ?_
  refine lv_aload_n hx hb dL_law_215 rfl (lv_at hl 0 rfl) ?_
  refine lv_iload_n hx hb dL_law_216 rfl (lv_at hl 3 rfl) ?_
  refine lv_iconst (v := 2) hx hb dL_law_217 (by decide) ?_
  refine lv_iadd hx hb dL_law_218 ?_
  have f2 : (y + 2).toInt = (y.toInt) + (2) := addC rfl (show (2 : Int32).toInt = 2 from rfl) (by omega) (by omega)
  refine va_sld hx hb hX hbl hbA hS (inC f2 (by omega) (by omega)) dL_law_219 ?_
  refine lwP (As := [.int (xs (y + 1).toNatClampNeg), .int (xs (y + 2).toNatClampNeg)]) (rest := []) ⟨hx, hb, hml, hown, hts⟩ (kU_X9_away l dC dI cI cZ cQ ak av u hu _ xa hxa (xs (y + 1).toNatClampNeg) (xs (y + 2).toNatClampNeg)) (cwV 2 hts gL_law_X9_away rfl rfl rfl (by decide +kernel) ⟨Nat.le_of_ble_eq_true rfl, Nat.le_of_ble_eq_true rfl⟩) hSV hP hD hS hK hN hxa rfl hl.1 rfl (Nat.le_of_ble_eq_true rfl) dL_law_220 ⟨Nat.le_of_ble_eq_true rfl, Nat.le_of_ble_eq_true rfl⟩ (fun r4 u3 H locs h5 hP hD hS => ?_)
  obtain ⟨hxu, hxa, hx_mar, hx_tel, hx_gai, hx_fal, hx_day, hx_ali, hx_ans0, hx_ans1, hx_ans2, hx_ans3, hx_top, hx_str, hx_gho, hx_ghs, hx_pto, hx_wal, hx_few, hx_doo, hx_byt, hx_len, hx_mos, hx_wev, hx_aga, hx_apa, hx_lin, hx_agr0, hx_agr1, hx_agr2, hx_agr3, hxs⟩ := h5
  refine lv_pop hx hb dL_law_223 rfl ?_
  refine lv_aload_n hx hb dL_law_224 rfl (lv_at hl 2 rfl) ?_
  refine lv_aload_n hx hb dL_law_225 rfl (lv_at hl 0 rfl) ?_
  refine lv_iload_n hx hb dL_law_226 rfl (lv_at hl 3 rfl) ?_
  refine lv_iconst (v := 1) hx hb dL_law_227 (by decide) ?_
  refine lv_iadd hx hb dL_law_228 ?_
  have f6 : (y + 1).toInt = (y.toInt) + (1) := addC rfl (show (1 : Int32).toInt = 1 from rfl) (by omega) (by omega)
  refine va_sld hx hb hX hbl hbA hS (inC f6 (by omega) (by omega)) dL_law_229 ?_
  refine lv_aload_n hx hb dL_law_230 rfl (lv_at hl 0 rfl) ?_
  refine lv_iload_n hx hb dL_law_231 rfl (lv_at hl 3 rfl) ?_
  refine lv_iconst (v := 2) hx hb dL_law_232 (by decide) ?_
  refine lv_iadd hx hb dL_law_233 ?_
  have f7 : (y + 2).toInt = (y.toInt) + (2) := addC rfl (show (2 : Int32).toInt = 2 from rfl) (by omega) (by omega)
  refine va_sld hx hb hX hbl hbA hS (inC f7 (by omega) (by omega)) dL_law_234 ?_
  refine lwM (As := [.int (xs (y + 1).toNatClampNeg), .int (xs (y + 2).toNatClampNeg)]) (rest := []) ⟨hx, hb, hml, hown, hts⟩ (kU_X10_away l dC dI cI cZ cQ v hv _ ma hma (xs (y + 1).toNatClampNeg) (xs (y + 2).toNatClampNeg)) (cwV 2 hts gL_law_X10_away rfl rfl rfl (by decide +kernel) ⟨Nat.le_of_ble_eq_true rfl, Nat.le_of_ble_eq_true rfl⟩) hP hD hS hK hN hma rfl hl.1 rfl (Nat.le_of_ble_eq_true rfl) dL_law_235 ⟨Nat.le_of_ble_eq_true rfl, Nat.le_of_ble_eq_true rfl⟩ (fun r9 u8 H locs h10 hP hD hS => ?_)
  obtain ⟨hmu, hma, hm_mar, hm_tel, hm_gai, hm_fal, hm_day, hm_ali, hm_ans, hm_top, hm_str, hm_gho, hm_fai, hm_pto, hm_wal, hm_dA, hm_dB, hm_doo, hm_txt, hm_byt, hm_lne, hm_lin, hm_and, hm_anr, hms⟩ := h10
  refine lv_pop hx hb dL_law_238 rfl ?_
  refine lv_goto (tgt := 1248) hx hb dL_law_239 (by decide) ?_
  have hR0 := hR
  have hd := spAwy_rel (hu.2.2.2.2.2.2.2.2.2.2.2.2.2.2.2.2.2.2.2.2.2.2.2.2.1) hR.2.2.2.2.2.2.2.2.2.1 hxs hms
  have hR2 : rel u3 u8 := ⟨(hx_mar.trans (hR0.1.trans hm_mar.symm)), (hx_tel.trans (hR0.2.1.trans hm_tel.symm)), (hx_gai.trans (hR0.2.2.1.trans hm_gai.symm)), (fun j hj => by rw [hx_fal, hm_fal]; exact hR0.2.2.2.1 j hj), (hx_day.trans (hR0.2.2.2.2.1.trans hm_day.symm)), (hx_ali.trans (hR0.2.2.2.2.2.1.trans hm_ali.symm)), (fun j hj => by rw [hx_ans0, hx_ans1, hx_ans2, hx_ans3, hm_ans]; exact hR0.2.2.2.2.2.2.1 j hj), (fun j hj => by rw [hx_top, hm_top]; exact hR0.2.2.2.2.2.2.2.1 j hj), (by rw [hx_top, hx_str, hx_gho, hx_ghs, hx_pto, hx_wal, hm_top, hm_str, hm_gho, hm_fai, hm_pto, hm_wal]; exact hR0.2.2.2.2.2.2.2.2.1), (by rw [hx_few, hx_doo, hm_dA, hm_dB, hm_doo]; exact hR0.2.2.2.2.2.2.2.2.2.1), (hx_byt.trans (hR0.2.2.2.2.2.2.2.2.2.2.1.trans hm_txt.symm)), (hx_len.trans (hR0.2.2.2.2.2.2.2.2.2.2.2.1.trans hm_byt.symm)), (by rw [hx_mos, hx_wev, hx_aga, hx_apa, hx_lin, hm_lne, hm_lin]; exact hR0.2.2.2.2.2.2.2.2.2.2.2.2.1), (by rw [hx_agr0, hx_agr1, hx_agr2, hx_agr3, hm_ans, hm_and, hm_anr]; exact hR0.2.2.2.2.2.2.2.2.2.2.2.2.2)⟩
  exact kk u3 u8 _ _ ⟨hxu, hmu, hxa, hma, hR2, hP, hD, hS⟩
set_option maxHeartbeats 4000000 in
set_option maxRecDepth 100000 in
theorem lc_2 {p : Program} {l : Launch} {e : Env} {s : State} {m : MethodId} {below : List Frame} {meth : Method} {c : Code} {b L : Nat} {xs : Nat → Int32} {dC : Nat → ClassId} {dI : Nat → Nat → Nat} {cI cZ cQ : ClassId} {ak av : Nat → Nat} {xa ma : Nat} (K : LC p s m meth c b L xs dC dI cI cZ cQ ak av) (hL : L ≤ 2560) (y : Int32) (hy0 : 0 ≤ y.toInt) (hy1 : y.toInt ≤ (L : Int) - 5) (u v : US) (H : Heap) (locs : List Loc) (I : LI dC dI cI cZ cQ s xa ma u v H locs) (ls : Array Slot) (hl : lv_has ls 4 [(0, .ref b), (1, .ref xa), (2, .ref ma), (3, .int y)]) (kk : ∀ (u v : US) (H : Heap) (locs : List Loc), LI dC dI cI cZ cQ s xa ma u v H locs → W p l e room_1 s m #[Value.ref b] below meth c H locs 76 4711 (lw_Z below #[Value.ref b] s) (F0 m 1248 ls [])) : W p l e room_1 s m #[Value.ref b] below meth c H locs 76 4711 (lw_Z below #[Value.ref b] s) (F0 m 242 ls []) := by
  obtain ⟨hx, hb, hml, hown, hts, hX, hbl, hK, hN, hSV⟩ := K
  obtain ⟨hu, hv, hxa, hma, hR, hP, hD, hS⟩ := I
  have hbA : ¬ AL s b := Nat.not_le.mpr hbl
  refine lv_aload_n hx hb dL_law_242 rfl (lv_at hl 1 rfl) ?_
  refine lv_aload_n hx hb dL_law_243 rfl (lv_at hl 0 rfl) ?_
  refine lv_iload_n hx hb dL_law_244 rfl (lv_at hl 3 rfl) ?_
  refine lv_iconst (v := 1) hx hb dL_law_245 (by decide) ?_
  refine lv_iadd hx hb dL_law_246 ?_
  have f1 : (y + 1).toInt = (y.toInt) + (1) := addC rfl (show (1 : Int32).toInt = 1 from rfl) (by omega) (by omega)
  refine va_sld hx hb hX hbl hbA hS (inC f1 (by omega) (by omega)) dL_law_247 ?_
  refine lv_aload_n hx hb dL_law_248 rfl (lv_at hl 0 rfl) ?_
  refine lv_iload_n hx hb dL_law_249 rfl (lv_at hl 3 rfl) ?_
  refine lv_iconst (v := 2) hx hb dL_law_250 (by decide) ?_
  refine lv_iadd hx hb dL_law_251 ?_
  have f2 : (y + 2).toInt = (y.toInt) + (2) := addC rfl (show (2 : Int32).toInt = 2 from rfl) (by omega) (by omega)
  refine va_sld hx hb hX hbl hbA hS (inC f2 (by omega) (by omega)) dL_law_252 ?_
  refine lwP (As := [.int (xs (y + 1).toNatClampNeg), .int (xs (y + 2).toNatClampNeg)]) (rest := []) ⟨hx, hb, hml, hown, hts⟩ (kU_X9_marks l dC dI cI cZ cQ ak av u hu _ xa hxa (xs (y + 1).toNatClampNeg) (xs (y + 2).toNatClampNeg)) (cwV 2 hts gL_law_X9_marks rfl rfl rfl (by decide +kernel) ⟨Nat.le_of_ble_eq_true rfl, Nat.le_of_ble_eq_true rfl⟩) hSV hP hD hS hK hN hxa rfl hl.1 rfl (Nat.le_of_ble_eq_true rfl) dL_law_253 ⟨Nat.le_of_ble_eq_true rfl, Nat.le_of_ble_eq_true rfl⟩ (fun r4 u3 H locs h5 hP hD hS => ?_)
  obtain ⟨hxu, hxa, hx_tel, hx_gai, hx_fal, hx_day, hx_ali, hx_ans0, hx_ans1, hx_ans2, hx_ans3, hx_top, hx_str, hx_gho, hx_ghs, hx_pto, hx_wal, hx_few, hx_doo, hx_byt, hx_len, hx_mos, hx_wev, hx_aga, hx_apa, hx_lin, hx_agr0, hx_agr1, hx_agr2, hx_agr3, hxs⟩ := h5
  refine lv_pop hx hb dL_law_256 rfl ?_
  refine lv_aload_n hx hb dL_law_257 rfl (lv_at hl 2 rfl) ?_
  refine lv_aload_n hx hb dL_law_258 rfl (lv_at hl 0 rfl) ?_
  refine lv_iload_n hx hb dL_law_259 rfl (lv_at hl 3 rfl) ?_
  refine lv_iconst (v := 1) hx hb dL_law_260 (by decide) ?_
  refine lv_iadd hx hb dL_law_261 ?_
  have f6 : (y + 1).toInt = (y.toInt) + (1) := addC rfl (show (1 : Int32).toInt = 1 from rfl) (by omega) (by omega)
  refine va_sld hx hb hX hbl hbA hS (inC f6 (by omega) (by omega)) dL_law_262 ?_
  refine lv_aload_n hx hb dL_law_263 rfl (lv_at hl 0 rfl) ?_
  refine lv_iload_n hx hb dL_law_264 rfl (lv_at hl 3 rfl) ?_
  refine lv_iconst (v := 2) hx hb dL_law_265 (by decide) ?_
  refine lv_iadd hx hb dL_law_266 ?_
  have f7 : (y + 2).toInt = (y.toInt) + (2) := addC rfl (show (2 : Int32).toInt = 2 from rfl) (by omega) (by omega)
  refine va_sld hx hb hX hbl hbA hS (inC f7 (by omega) (by omega)) dL_law_267 ?_
  refine lwM (As := [.int (xs (y + 1).toNatClampNeg), .int (xs (y + 2).toNatClampNeg)]) (rest := []) ⟨hx, hb, hml, hown, hts⟩ (kU_X10_marks l dC dI cI cZ cQ v hv _ ma hma (xs (y + 1).toNatClampNeg) (xs (y + 2).toNatClampNeg)) (cwV 2 hts gL_law_X10_marks rfl rfl rfl (by decide +kernel) ⟨Nat.le_of_ble_eq_true rfl, Nat.le_of_ble_eq_true rfl⟩) hP hD hS hK hN hma rfl hl.1 rfl (Nat.le_of_ble_eq_true rfl) dL_law_268 ⟨Nat.le_of_ble_eq_true rfl, Nat.le_of_ble_eq_true rfl⟩ (fun r9 u8 H locs h10 hP hD hS => ?_)
  obtain ⟨hmu, hma, hm_tel, hm_gai, hm_fal, hm_day, hm_ali, hm_ans, hm_top, hm_str, hm_gho, hm_fai, hm_pto, hm_wal, hm_dA, hm_dB, hm_doo, hm_txt, hm_byt, hm_lne, hm_lin, hm_and, hm_anr, hms⟩ := h10
  refine lv_pop hx hb dL_law_271 rfl ?_
  refine lv_goto (tgt := 1248) hx hb dL_law_272 (by decide) ?_
  have hR0 := hR
  rw [hR.1] at hxs
  have hd := spMarks_det hxs hms
  have hR2 : rel u3 u8 := ⟨hd.2, (hx_tel.trans (hR0.2.1.trans hm_tel.symm)), (hx_gai.trans (hR0.2.2.1.trans hm_gai.symm)), (fun j hj => by rw [hx_fal, hm_fal]; exact hR0.2.2.2.1 j hj), (hx_day.trans (hR0.2.2.2.2.1.trans hm_day.symm)), (hx_ali.trans (hR0.2.2.2.2.2.1.trans hm_ali.symm)), (fun j hj => by rw [hx_ans0, hx_ans1, hx_ans2, hx_ans3, hm_ans]; exact hR0.2.2.2.2.2.2.1 j hj), (fun j hj => by rw [hx_top, hm_top]; exact hR0.2.2.2.2.2.2.2.1 j hj), (by rw [hx_top, hx_str, hx_gho, hx_ghs, hx_pto, hx_wal, hm_top, hm_str, hm_gho, hm_fai, hm_pto, hm_wal]; exact hR0.2.2.2.2.2.2.2.2.1), (by rw [hx_few, hx_doo, hm_dA, hm_dB, hm_doo]; exact hR0.2.2.2.2.2.2.2.2.2.1), (hx_byt.trans (hR0.2.2.2.2.2.2.2.2.2.2.1.trans hm_txt.symm)), (hx_len.trans (hR0.2.2.2.2.2.2.2.2.2.2.2.1.trans hm_byt.symm)), (by rw [hx_mos, hx_wev, hx_aga, hx_apa, hx_lin, hm_lne, hm_lin]; exact hR0.2.2.2.2.2.2.2.2.2.2.2.2.1), (by rw [hx_agr0, hx_agr1, hx_agr2, hx_agr3, hm_ans, hm_and, hm_anr]; exact hR0.2.2.2.2.2.2.2.2.2.2.2.2.2)⟩
  exact kk u3 u8 _ _ ⟨hxu, hmu, hxa, hma, hR2, hP, hD, hS⟩
set_option maxHeartbeats 4000000 in
set_option maxRecDepth 100000 in
theorem lc_3 {p : Program} {l : Launch} {e : Env} {s : State} {m : MethodId} {below : List Frame} {meth : Method} {c : Code} {b L : Nat} {xs : Nat → Int32} {dC : Nat → ClassId} {dI : Nat → Nat → Nat} {cI cZ cQ : ClassId} {ak av : Nat → Nat} {xa ma : Nat} (K : LC p s m meth c b L xs dC dI cI cZ cQ ak av) (hL : L ≤ 2560) (y : Int32) (hy0 : 0 ≤ y.toInt) (hy1 : y.toInt ≤ (L : Int) - 5) (u v : US) (H : Heap) (locs : List Loc) (I : LI dC dI cI cZ cQ s xa ma u v H locs) (ls : Array Slot) (hl : lv_has ls 4 [(0, .ref b), (1, .ref xa), (2, .ref ma), (3, .int y)]) (kk : ∀ (u v : US) (H : Heap) (locs : List Loc), LI dC dI cI cZ cQ s xa ma u v H locs → W p l e room_1 s m #[Value.ref b] below meth c H locs 76 4711 (lw_Z below #[Value.ref b] s) (F0 m 1248 ls [])) : W p l e room_1 s m #[Value.ref b] below meth c H locs 76 4711 (lw_Z below #[Value.ref b] s) (F0 m 275 ls []) := by
  obtain ⟨hx, hb, hml, hown, hts, hX, hbl, hK, hN, hSV⟩ := K
  obtain ⟨hu, hv, hxa, hma, hR, hP, hD, hS⟩ := I
  have hbA : ¬ AL s b := Nat.not_le.mpr hbl
  refine lv_aload_n hx hb dL_law_275 rfl (lv_at hl 1 rfl) ?_
  refine lv_aload_n hx hb dL_law_276 rfl (lv_at hl 0 rfl) ?_
  refine lv_iload_n hx hb dL_law_277 rfl (lv_at hl 3 rfl) ?_
  refine lv_iconst (v := 1) hx hb dL_law_278 (by decide) ?_
  refine lv_iadd hx hb dL_law_279 ?_
  have f1 : (y + 1).toInt = (y.toInt) + (1) := addC rfl (show (1 : Int32).toInt = 1 from rfl) (by omega) (by omega)
  refine va_sld hx hb hX hbl hbA hS (inC f1 (by omega) (by omega)) dL_law_280 ?_
  refine lv_aload_n hx hb dL_law_281 rfl (lv_at hl 0 rfl) ?_
  refine lv_iload_n hx hb dL_law_282 rfl (lv_at hl 3 rfl) ?_
  refine lv_iconst (v := 2) hx hb dL_law_283 (by decide) ?_
  refine lv_iadd hx hb dL_law_284 ?_
  have f2 : (y + 2).toInt = (y.toInt) + (2) := addC rfl (show (2 : Int32).toInt = 2 from rfl) (by omega) (by omega)
  refine va_sld hx hb hX hbl hbA hS (inC f2 (by omega) (by omega)) dL_law_285 ?_
  refine lwP (As := [.int (xs (y + 1).toNatClampNeg), .int (xs (y + 2).toNatClampNeg)]) (rest := []) ⟨hx, hb, hml, hown, hts⟩ (kU_X9_like l dC dI cI cZ cQ ak av u hu _ xa hxa (xs (y + 1).toNatClampNeg) (xs (y + 2).toNatClampNeg)) (cwV 2 hts gL_law_X9_like rfl rfl rfl (by decide +kernel) ⟨Nat.le_of_ble_eq_true rfl, Nat.le_of_ble_eq_true rfl⟩) hSV hP hD hS hK hN hxa rfl hl.1 rfl (Nat.le_of_ble_eq_true rfl) dL_law_286 ⟨Nat.le_of_ble_eq_true rfl, Nat.le_of_ble_eq_true rfl⟩ (fun r4 u3 H locs h5 hP hD hS => ?_)
  obtain ⟨hxu, hxa, hx_mar, hx_tel, hx_gai, hx_fal, hx_day, hx_ali, hx_ans0, hx_ans1, hx_ans2, hx_ans3, hx_top, hx_str, hx_gho, hx_ghs, hx_pto, hx_wal, hx_few, hx_doo, hx_byt, hx_len, hx_mos, hx_wev, hx_aga, hx_apa, hx_lin, hx_agr0, hx_agr1, hx_agr2, hx_agr3, hxs⟩ := h5
  refine lv_pop hx hb dL_law_289 rfl ?_
  refine lv_aload_n hx hb dL_law_290 rfl (lv_at hl 2 rfl) ?_
  refine lv_aload_n hx hb dL_law_291 rfl (lv_at hl 0 rfl) ?_
  refine lv_iload_n hx hb dL_law_292 rfl (lv_at hl 3 rfl) ?_
  refine lv_iconst (v := 1) hx hb dL_law_293 (by decide) ?_
  refine lv_iadd hx hb dL_law_294 ?_
  have f6 : (y + 1).toInt = (y.toInt) + (1) := addC rfl (show (1 : Int32).toInt = 1 from rfl) (by omega) (by omega)
  refine va_sld hx hb hX hbl hbA hS (inC f6 (by omega) (by omega)) dL_law_295 ?_
  refine lv_aload_n hx hb dL_law_296 rfl (lv_at hl 0 rfl) ?_
  refine lv_iload_n hx hb dL_law_297 rfl (lv_at hl 3 rfl) ?_
  refine lv_iconst (v := 2) hx hb dL_law_298 (by decide) ?_
  refine lv_iadd hx hb dL_law_299 ?_
  have f7 : (y + 2).toInt = (y.toInt) + (2) := addC rfl (show (2 : Int32).toInt = 2 from rfl) (by omega) (by omega)
  refine va_sld hx hb hX hbl hbA hS (inC f7 (by omega) (by omega)) dL_law_300 ?_
  refine lwM (As := [.int (xs (y + 1).toNatClampNeg), .int (xs (y + 2).toNatClampNeg)]) (rest := []) ⟨hx, hb, hml, hown, hts⟩ (kU_X10_like l dC dI cI cZ cQ v hv _ ma hma (xs (y + 1).toNatClampNeg) (xs (y + 2).toNatClampNeg)) (cwV 2 hts gL_law_X10_like rfl rfl rfl (by decide +kernel) ⟨Nat.le_of_ble_eq_true rfl, Nat.le_of_ble_eq_true rfl⟩) hP hD hS hK hN hma rfl hl.1 rfl (Nat.le_of_ble_eq_true rfl) dL_law_301 ⟨Nat.le_of_ble_eq_true rfl, Nat.le_of_ble_eq_true rfl⟩ (fun r9 u8 H locs h10 hP hD hS => ?_)
  obtain ⟨hmu, hma, hm_mar, hm_tel, hm_gai, hm_fal, hm_day, hm_ali, hm_ans, hm_top, hm_str, hm_gho, hm_fai, hm_pto, hm_wal, hm_dA, hm_dB, hm_doo, hm_txt, hm_byt, hm_lne, hm_lin, hm_and, hm_anr, hms⟩ := h10
  refine lv_pop hx hb dL_law_304 rfl ?_
  refine lv_goto (tgt := 1248) hx hb dL_law_305 (by decide) ?_
  have hR0 := hR
  rw [hR.1] at hxs
  have hd := spLike_det hxs hms
  have hR2 : rel u3 u8 := ⟨(hx_mar.trans (hR0.1.trans hm_mar.symm)), (hx_tel.trans (hR0.2.1.trans hm_tel.symm)), (hx_gai.trans (hR0.2.2.1.trans hm_gai.symm)), (fun j hj => by rw [hx_fal, hm_fal]; exact hR0.2.2.2.1 j hj), (hx_day.trans (hR0.2.2.2.2.1.trans hm_day.symm)), (hx_ali.trans (hR0.2.2.2.2.2.1.trans hm_ali.symm)), (fun j hj => by rw [hx_ans0, hx_ans1, hx_ans2, hx_ans3, hm_ans]; exact hR0.2.2.2.2.2.2.1 j hj), (fun j hj => by rw [hx_top, hm_top]; exact hR0.2.2.2.2.2.2.2.1 j hj), (by rw [hx_top, hx_str, hx_gho, hx_ghs, hx_pto, hx_wal, hm_top, hm_str, hm_gho, hm_fai, hm_pto, hm_wal]; exact hR0.2.2.2.2.2.2.2.2.1), (by rw [hx_few, hx_doo, hm_dA, hm_dB, hm_doo]; exact hR0.2.2.2.2.2.2.2.2.2.1), (hx_byt.trans (hR0.2.2.2.2.2.2.2.2.2.2.1.trans hm_txt.symm)), (hx_len.trans (hR0.2.2.2.2.2.2.2.2.2.2.2.1.trans hm_byt.symm)), (by rw [hx_mos, hx_wev, hx_aga, hx_apa, hx_lin, hm_lne, hm_lin]; exact hR0.2.2.2.2.2.2.2.2.2.2.2.2.1), (by rw [hx_agr0, hx_agr1, hx_agr2, hx_agr3, hm_ans, hm_and, hm_anr]; exact hR0.2.2.2.2.2.2.2.2.2.2.2.2.2)⟩
  exact kk u3 u8 _ _ ⟨hxu, hmu, hxa, hma, hR2, hP, hD, hS⟩
set_option maxHeartbeats 4000000 in
set_option maxRecDepth 100000 in
theorem lc_4 {p : Program} {l : Launch} {e : Env} {s : State} {m : MethodId} {below : List Frame} {meth : Method} {c : Code} {b L : Nat} {xs : Nat → Int32} {dC : Nat → ClassId} {dI : Nat → Nat → Nat} {cI cZ cQ : ClassId} {ak av : Nat → Nat} {xa ma : Nat} (K : LC p s m meth c b L xs dC dI cI cZ cQ ak av) (hL : L ≤ 2560) (y : Int32) (hy0 : 0 ≤ y.toInt) (hy1 : y.toInt ≤ (L : Int) - 5) (u v : US) (H : Heap) (locs : List Loc) (I : LI dC dI cI cZ cQ s xa ma u v H locs) (ls : Array Slot) (hl : lv_has ls 4 [(0, .ref b), (1, .ref xa), (2, .ref ma), (3, .int y)]) (kk : ∀ (u v : US) (H : Heap) (locs : List Loc), LI dC dI cI cZ cQ s xa ma u v H locs → W p l e room_1 s m #[Value.ref b] below meth c H locs 76 4711 (lw_Z below #[Value.ref b] s) (F0 m 1248 ls [])) : W p l e room_1 s m #[Value.ref b] below meth c H locs 76 4711 (lw_Z below #[Value.ref b] s) (F0 m 308 ls []) := by
  obtain ⟨hx, hb, hml, hown, hts, hX, hbl, hK, hN, hSV⟩ := K
  obtain ⟨hu, hv, hxa, hma, hR, hP, hD, hS⟩ := I
  have hbA : ¬ AL s b := Nat.not_le.mpr hbl
  refine lv_aload_n hx hb dL_law_308 rfl (lv_at hl 1 rfl) ?_
  refine lv_aload_n hx hb dL_law_309 rfl (lv_at hl 0 rfl) ?_
  refine lv_iload_n hx hb dL_law_310 rfl (lv_at hl 3 rfl) ?_
  refine lv_iconst (v := 1) hx hb dL_law_311 (by decide) ?_
  refine lv_iadd hx hb dL_law_312 ?_
  have f1 : (y + 1).toInt = (y.toInt) + (1) := addC rfl (show (1 : Int32).toInt = 1 from rfl) (by omega) (by omega)
  refine va_sld hx hb hX hbl hbA hS (inC f1 (by omega) (by omega)) dL_law_313 ?_
  refine lv_aload_n hx hb dL_law_314 rfl (lv_at hl 0 rfl) ?_
  refine lv_iload_n hx hb dL_law_315 rfl (lv_at hl 3 rfl) ?_
  refine lv_iconst (v := 2) hx hb dL_law_316 (by decide) ?_
  refine lv_iadd hx hb dL_law_317 ?_
  have f2 : (y + 2).toInt = (y.toInt) + (2) := addC rfl (show (2 : Int32).toInt = 2 from rfl) (by omega) (by omega)
  refine va_sld hx hb hX hbl hbA hS (inC f2 (by omega) (by omega)) dL_law_318 ?_
  refine lwP (As := [.int (xs (y + 1).toNatClampNeg), .int (xs (y + 2).toNatClampNeg)]) (rest := []) ⟨hx, hb, hml, hown, hts⟩ (kU_X9_set l dC dI cI cZ cQ ak av u hu _ xa hxa (xs (y + 1).toNatClampNeg) (xs (y + 2).toNatClampNeg)) (cwV 2 hts gL_law_X9_set rfl rfl rfl (by decide +kernel) ⟨Nat.le_of_ble_eq_true rfl, Nat.le_of_ble_eq_true rfl⟩) hSV hP hD hS hK hN hxa rfl hl.1 rfl (Nat.le_of_ble_eq_true rfl) dL_law_319 ⟨Nat.le_of_ble_eq_true rfl, Nat.le_of_ble_eq_true rfl⟩ (fun r4 u3 H locs h5 hP hD hS => ?_)
  obtain ⟨hxu, hxa, hx_mar, hx_fal, hx_day, hx_ali, hx_ans0, hx_ans1, hx_ans2, hx_ans3, hx_top, hx_str, hx_gho, hx_ghs, hx_pto, hx_wal, hx_few, hx_doo, hx_byt, hx_len, hx_mos, hx_wev, hx_aga, hx_apa, hx_lin, hx_agr0, hx_agr1, hx_agr2, hx_agr3, hxs⟩ := h5
  refine lv_pop hx hb dL_law_322 rfl ?_
  refine lv_aload_n hx hb dL_law_323 rfl (lv_at hl 2 rfl) ?_
  refine lv_aload_n hx hb dL_law_324 rfl (lv_at hl 0 rfl) ?_
  refine lv_iload_n hx hb dL_law_325 rfl (lv_at hl 3 rfl) ?_
  refine lv_iconst (v := 1) hx hb dL_law_326 (by decide) ?_
  refine lv_iadd hx hb dL_law_327 ?_
  have f6 : (y + 1).toInt = (y.toInt) + (1) := addC rfl (show (1 : Int32).toInt = 1 from rfl) (by omega) (by omega)
  refine va_sld hx hb hX hbl hbA hS (inC f6 (by omega) (by omega)) dL_law_328 ?_
  refine lv_aload_n hx hb dL_law_329 rfl (lv_at hl 0 rfl) ?_
  refine lv_iload_n hx hb dL_law_330 rfl (lv_at hl 3 rfl) ?_
  refine lv_iconst (v := 2) hx hb dL_law_331 (by decide) ?_
  refine lv_iadd hx hb dL_law_332 ?_
  have f7 : (y + 2).toInt = (y.toInt) + (2) := addC rfl (show (2 : Int32).toInt = 2 from rfl) (by omega) (by omega)
  refine va_sld hx hb hX hbl hbA hS (inC f7 (by omega) (by omega)) dL_law_333 ?_
  refine lwM (As := [.int (xs (y + 1).toNatClampNeg), .int (xs (y + 2).toNatClampNeg)]) (rest := []) ⟨hx, hb, hml, hown, hts⟩ (kU_X10_set l dC dI cI cZ cQ v hv _ ma hma (xs (y + 1).toNatClampNeg) (xs (y + 2).toNatClampNeg)) (cwV 2 hts gL_law_X10_set rfl rfl rfl (by decide +kernel) ⟨Nat.le_of_ble_eq_true rfl, Nat.le_of_ble_eq_true rfl⟩) hP hD hS hK hN hma rfl hl.1 rfl (Nat.le_of_ble_eq_true rfl) dL_law_334 ⟨Nat.le_of_ble_eq_true rfl, Nat.le_of_ble_eq_true rfl⟩ (fun r9 u8 H locs h10 hP hD hS => ?_)
  obtain ⟨hmu, hma, hm_mar, hm_fal, hm_day, hm_ali, hm_ans, hm_top, hm_str, hm_gho, hm_fai, hm_pto, hm_wal, hm_dA, hm_dB, hm_doo, hm_txt, hm_byt, hm_lne, hm_lin, hm_and, hm_anr, hms⟩ := h10
  refine lv_pop hx hb dL_law_337 rfl ?_
  refine lv_goto (tgt := 1248) hx hb dL_law_338 (by decide) ?_
  have hR0 := hR
  rw [hR.2.1, hR.2.2.1] at hxs
  have hd := spSet_det hxs hms
  have hR2 : rel u3 u8 := ⟨(hx_mar.trans (hR0.1.trans hm_mar.symm)), hd.2.1, hd.2.2, (fun j hj => by rw [hx_fal, hm_fal]; exact hR0.2.2.2.1 j hj), (hx_day.trans (hR0.2.2.2.2.1.trans hm_day.symm)), (hx_ali.trans (hR0.2.2.2.2.2.1.trans hm_ali.symm)), (fun j hj => by rw [hx_ans0, hx_ans1, hx_ans2, hx_ans3, hm_ans]; exact hR0.2.2.2.2.2.2.1 j hj), (fun j hj => by rw [hx_top, hm_top]; exact hR0.2.2.2.2.2.2.2.1 j hj), (by rw [hx_top, hx_str, hx_gho, hx_ghs, hx_pto, hx_wal, hm_top, hm_str, hm_gho, hm_fai, hm_pto, hm_wal]; exact hR0.2.2.2.2.2.2.2.2.1), (by rw [hx_few, hx_doo, hm_dA, hm_dB, hm_doo]; exact hR0.2.2.2.2.2.2.2.2.2.1), (hx_byt.trans (hR0.2.2.2.2.2.2.2.2.2.2.1.trans hm_txt.symm)), (hx_len.trans (hR0.2.2.2.2.2.2.2.2.2.2.2.1.trans hm_byt.symm)), (by rw [hx_mos, hx_wev, hx_aga, hx_apa, hx_lin, hm_lne, hm_lin]; exact hR0.2.2.2.2.2.2.2.2.2.2.2.2.1), (by rw [hx_agr0, hx_agr1, hx_agr2, hx_agr3, hm_ans, hm_and, hm_anr]; exact hR0.2.2.2.2.2.2.2.2.2.2.2.2.2)⟩
  exact kk u3 u8 _ _ ⟨hxu, hmu, hxa, hma, hR2, hP, hD, hS⟩
set_option maxHeartbeats 4000000 in
set_option maxRecDepth 100000 in
theorem lc_5 {p : Program} {l : Launch} {e : Env} {s : State} {m : MethodId} {below : List Frame} {meth : Method} {c : Code} {b L : Nat} {xs : Nat → Int32} {dC : Nat → ClassId} {dI : Nat → Nat → Nat} {cI cZ cQ : ClassId} {ak av : Nat → Nat} {xa ma : Nat} (K : LC p s m meth c b L xs dC dI cI cZ cQ ak av) (hL : L ≤ 2560) (y : Int32) (hy0 : 0 ≤ y.toInt) (hy1 : y.toInt ≤ (L : Int) - 5) (u v : US) (H : Heap) (locs : List Loc) (I : LI dC dI cI cZ cQ s xa ma u v H locs) (ls : Array Slot) (hl : lv_has ls 4 [(0, .ref b), (1, .ref xa), (2, .ref ma), (3, .int y)]) (kk : ∀ (u v : US) (H : Heap) (locs : List Loc), LI dC dI cI cZ cQ s xa ma u v H locs → W p l e room_1 s m #[Value.ref b] below meth c H locs 76 4711 (lw_Z below #[Value.ref b] s) (F0 m 1248 ls [])) : W p l e room_1 s m #[Value.ref b] below meth c H locs 76 4711 (lw_Z below #[Value.ref b] s) (F0 m 341 ls []) := by
  obtain ⟨hx, hb, hml, hown, hts, hX, hbl, hK, hN, hSV⟩ := K
  obtain ⟨hu, hv, hxa, hma, hR, hP, hD, hS⟩ := I
  have hbA : ¬ AL s b := Nat.not_le.mpr hbl
  refine lv_aload_n hx hb dL_law_341 rfl (lv_at hl 1 rfl) ?_
  refine lv_aload_n hx hb dL_law_342 rfl (lv_at hl 0 rfl) ?_
  refine lv_iload_n hx hb dL_law_343 rfl (lv_at hl 3 rfl) ?_
  refine lv_iconst (v := 1) hx hb dL_law_344 (by decide) ?_
  refine lv_iadd hx hb dL_law_345 ?_
  have f1 : (y + 1).toInt = (y.toInt) + (1) := addC rfl (show (1 : Int32).toInt = 1 from rfl) (by omega) (by omega)
  refine va_sld hx hb hX hbl hbA hS (inC f1 (by omega) (by omega)) dL_law_346 ?_
  refine lv_aload_n hx hb dL_law_347 rfl (lv_at hl 0 rfl) ?_
  refine lv_iload_n hx hb dL_law_348 rfl (lv_at hl 3 rfl) ?_
  refine lv_iconst (v := 2) hx hb dL_law_349 (by decide) ?_
  refine lv_iadd hx hb dL_law_350 ?_
  have f2 : (y + 2).toInt = (y.toInt) + (2) := addC rfl (show (2 : Int32).toInt = 2 from rfl) (by omega) (by omega)
  refine va_sld hx hb hX hbl hbA hS (inC f2 (by omega) (by omega)) dL_law_351 ?_
  refine lwP (As := [.int (xs (y + 1).toNatClampNeg), .int (xs (y + 2).toNatClampNeg)]) (rest := []) ⟨hx, hb, hml, hown, hts⟩ (kU_X9_fall l dC dI cI cZ cQ ak av u hu _ xa hxa (xs (y + 1).toNatClampNeg) (xs (y + 2).toNatClampNeg)) (cwV 2 hts gL_law_X9_fall rfl rfl rfl (by decide +kernel) ⟨Nat.le_of_ble_eq_true rfl, Nat.le_of_ble_eq_true rfl⟩) hSV hP hD hS hK hN hxa rfl hl.1 rfl (Nat.le_of_ble_eq_true rfl) dL_law_352 ⟨Nat.le_of_ble_eq_true rfl, Nat.le_of_ble_eq_true rfl⟩ (fun r4 u3 H locs h5 hP hD hS => ?_)
  obtain ⟨hxu, hxa, hx_mar, hx_tel, hx_gai, hx_day, hx_ali, hx_ans0, hx_ans1, hx_ans2, hx_ans3, hx_top, hx_str, hx_gho, hx_ghs, hx_pto, hx_wal, hx_few, hx_doo, hx_byt, hx_len, hx_mos, hx_wev, hx_aga, hx_apa, hx_lin, hx_agr0, hx_agr1, hx_agr2, hx_agr3, hxs⟩ := h5
  refine lv_pop hx hb dL_law_355 rfl ?_
  refine lv_aload_n hx hb dL_law_356 rfl (lv_at hl 2 rfl) ?_
  refine lv_aload_n hx hb dL_law_357 rfl (lv_at hl 0 rfl) ?_
  refine lv_iload_n hx hb dL_law_358 rfl (lv_at hl 3 rfl) ?_
  refine lv_iconst (v := 1) hx hb dL_law_359 (by decide) ?_
  refine lv_iadd hx hb dL_law_360 ?_
  have f6 : (y + 1).toInt = (y.toInt) + (1) := addC rfl (show (1 : Int32).toInt = 1 from rfl) (by omega) (by omega)
  refine va_sld hx hb hX hbl hbA hS (inC f6 (by omega) (by omega)) dL_law_361 ?_
  refine lv_aload_n hx hb dL_law_362 rfl (lv_at hl 0 rfl) ?_
  refine lv_iload_n hx hb dL_law_363 rfl (lv_at hl 3 rfl) ?_
  refine lv_iconst (v := 2) hx hb dL_law_364 (by decide) ?_
  refine lv_iadd hx hb dL_law_365 ?_
  have f7 : (y + 2).toInt = (y.toInt) + (2) := addC rfl (show (2 : Int32).toInt = 2 from rfl) (by omega) (by omega)
  refine va_sld hx hb hX hbl hbA hS (inC f7 (by omega) (by omega)) dL_law_366 ?_
  refine lwM (As := [.int (xs (y + 1).toNatClampNeg), .int (xs (y + 2).toNatClampNeg)]) (rest := []) ⟨hx, hb, hml, hown, hts⟩ (kU_X10_fall l dC dI cI cZ cQ v hv _ ma hma (xs (y + 1).toNatClampNeg) (xs (y + 2).toNatClampNeg)) (cwV 2 hts gL_law_X10_fall rfl rfl rfl (by decide +kernel) ⟨Nat.le_of_ble_eq_true rfl, Nat.le_of_ble_eq_true rfl⟩) hP hD hS hK hN hma rfl hl.1 rfl (Nat.le_of_ble_eq_true rfl) dL_law_367 ⟨Nat.le_of_ble_eq_true rfl, Nat.le_of_ble_eq_true rfl⟩ (fun r9 u8 H locs h10 hP hD hS => ?_)
  obtain ⟨hmu, hma, hm_mar, hm_tel, hm_gai, hm_day, hm_ali, hm_ans, hm_top, hm_str, hm_gho, hm_fai, hm_pto, hm_wal, hm_dA, hm_dB, hm_doo, hm_txt, hm_byt, hm_lne, hm_lin, hm_and, hm_anr, hms⟩ := h10
  refine lv_pop hx hb dL_law_370 rfl ?_
  refine lv_goto (tgt := 1248) hx hb dL_law_371 (by decide) ?_
  have hR0 := hR
  have hd := spFall_rel hR.2.2.2.1 hxs hms
  have hR2 : rel u3 u8 := ⟨(hx_mar.trans (hR0.1.trans hm_mar.symm)), (hx_tel.trans (hR0.2.1.trans hm_tel.symm)), (hx_gai.trans (hR0.2.2.1.trans hm_gai.symm)), hd.2, (hx_day.trans (hR0.2.2.2.2.1.trans hm_day.symm)), (hx_ali.trans (hR0.2.2.2.2.2.1.trans hm_ali.symm)), (fun j hj => by rw [hx_ans0, hx_ans1, hx_ans2, hx_ans3, hm_ans]; exact hR0.2.2.2.2.2.2.1 j hj), (fun j hj => by rw [hx_top, hm_top]; exact hR0.2.2.2.2.2.2.2.1 j hj), (by rw [hx_top, hx_str, hx_gho, hx_ghs, hx_pto, hx_wal, hm_top, hm_str, hm_gho, hm_fai, hm_pto, hm_wal]; exact hR0.2.2.2.2.2.2.2.2.1), (by rw [hx_few, hx_doo, hm_dA, hm_dB, hm_doo]; exact hR0.2.2.2.2.2.2.2.2.2.1), (hx_byt.trans (hR0.2.2.2.2.2.2.2.2.2.2.1.trans hm_txt.symm)), (hx_len.trans (hR0.2.2.2.2.2.2.2.2.2.2.2.1.trans hm_byt.symm)), (by rw [hx_mos, hx_wev, hx_aga, hx_apa, hx_lin, hm_lne, hm_lin]; exact hR0.2.2.2.2.2.2.2.2.2.2.2.2.1), (by rw [hx_agr0, hx_agr1, hx_agr2, hx_agr3, hm_ans, hm_and, hm_anr]; exact hR0.2.2.2.2.2.2.2.2.2.2.2.2.2)⟩
  exact kk u3 u8 _ _ ⟨hxu, hmu, hxa, hma, hR2, hP, hD, hS⟩
set_option maxHeartbeats 4000000 in
set_option maxRecDepth 100000 in
theorem lc_6 {p : Program} {l : Launch} {e : Env} {s : State} {m : MethodId} {below : List Frame} {meth : Method} {c : Code} {b L : Nat} {xs : Nat → Int32} {dC : Nat → ClassId} {dI : Nat → Nat → Nat} {cI cZ cQ : ClassId} {ak av : Nat → Nat} {xa ma : Nat} (K : LC p s m meth c b L xs dC dI cI cZ cQ ak av) (hL : L ≤ 2560) (y : Int32) (hy0 : 0 ≤ y.toInt) (hy1 : y.toInt ≤ (L : Int) - 5) (u v : US) (H : Heap) (locs : List Loc) (I : LI dC dI cI cZ cQ s xa ma u v H locs) (ls : Array Slot) (hl : lv_has ls 4 [(0, .ref b), (1, .ref xa), (2, .ref ma), (3, .int y)]) (kk : ∀ (u v : US) (H : Heap) (locs : List Loc), LI dC dI cI cZ cQ s xa ma u v H locs → W p l e room_1 s m #[Value.ref b] below meth c H locs 76 4711 (lw_Z below #[Value.ref b] s) (F0 m 1248 ls [])) : W p l e room_1 s m #[Value.ref b] below meth c H locs 76 4711 (lw_Z below #[Value.ref b] s) (F0 m 374 ls []) := by
  obtain ⟨hx, hb, hml, hown, hts, hX, hbl, hK, hN, hSV⟩ := K
  obtain ⟨hu, hv, hxa, hma, hR, hP, hD, hS⟩ := I
  have hbA : ¬ AL s b := Nat.not_le.mpr hbl
  refine lv_aload_n hx hb dL_law_374 rfl (lv_at hl 1 rfl) ?_
  refine lv_aload_n hx hb dL_law_375 rfl (lv_at hl 0 rfl) ?_
  refine lv_iload_n hx hb dL_law_376 rfl (lv_at hl 3 rfl) ?_
  refine lv_iconst (v := 1) hx hb dL_law_377 (by decide) ?_
  refine lv_iadd hx hb dL_law_378 ?_
  have f1 : (y + 1).toInt = (y.toInt) + (1) := addC rfl (show (1 : Int32).toInt = 1 from rfl) (by omega) (by omega)
  refine va_sld hx hb hX hbl hbA hS (inC f1 (by omega) (by omega)) dL_law_379 ?_
  refine lv_aload_n hx hb dL_law_380 rfl (lv_at hl 0 rfl) ?_
  refine lv_iload_n hx hb dL_law_381 rfl (lv_at hl 3 rfl) ?_
  refine lv_iconst (v := 2) hx hb dL_law_382 (by decide) ?_
  refine lv_iadd hx hb dL_law_383 ?_
  have f2 : (y + 2).toInt = (y.toInt) + (2) := addC rfl (show (2 : Int32).toInt = 2 from rfl) (by omega) (by omega)
  refine va_sld hx hb hX hbl hbA hS (inC f2 (by omega) (by omega)) dL_law_384 ?_
  refine lwP (As := [.int (xs (y + 1).toNatClampNeg), .int (xs (y + 2).toNatClampNeg)]) (rest := []) ⟨hx, hb, hml, hown, hts⟩ (kU_X9_put l dC dI cI cZ cQ ak av u hu _ xa hxa (xs (y + 1).toNatClampNeg) (xs (y + 2).toNatClampNeg)) (cwV 2 hts gL_law_X9_put rfl rfl rfl (by decide +kernel) ⟨Nat.le_of_ble_eq_true rfl, Nat.le_of_ble_eq_true rfl⟩) hSV hP hD hS hK hN hxa rfl hl.1 rfl (Nat.le_of_ble_eq_true rfl) dL_law_385 ⟨Nat.le_of_ble_eq_true rfl, Nat.le_of_ble_eq_true rfl⟩ (fun r4 u3 H locs h5 hP hD hS => ?_)
  obtain ⟨hxu, hxa, hx_mar, hx_tel, hx_gai, hx_fal, hx_day, hx_ali, hx_ans0, hx_ans1, hx_ans2, hx_ans3, hx_wal, hx_few, hx_doo, hx_byt, hx_len, hx_mos, hx_wev, hx_aga, hx_apa, hx_lin, hx_agr0, hx_agr1, hx_agr2, hx_agr3, hxs⟩ := h5
  refine lv_pop hx hb dL_law_388 rfl ?_
  refine lv_aload_n hx hb dL_law_389 rfl (lv_at hl 2 rfl) ?_
  refine lv_aload_n hx hb dL_law_390 rfl (lv_at hl 0 rfl) ?_
  refine lv_iload_n hx hb dL_law_391 rfl (lv_at hl 3 rfl) ?_
  refine lv_iconst (v := 1) hx hb dL_law_392 (by decide) ?_
  refine lv_iadd hx hb dL_law_393 ?_
  have f6 : (y + 1).toInt = (y.toInt) + (1) := addC rfl (show (1 : Int32).toInt = 1 from rfl) (by omega) (by omega)
  refine va_sld hx hb hX hbl hbA hS (inC f6 (by omega) (by omega)) dL_law_394 ?_
  refine lv_aload_n hx hb dL_law_395 rfl (lv_at hl 0 rfl) ?_
  refine lv_iload_n hx hb dL_law_396 rfl (lv_at hl 3 rfl) ?_
  refine lv_iconst (v := 2) hx hb dL_law_397 (by decide) ?_
  refine lv_iadd hx hb dL_law_398 ?_
  have f7 : (y + 2).toInt = (y.toInt) + (2) := addC rfl (show (2 : Int32).toInt = 2 from rfl) (by omega) (by omega)
  refine va_sld hx hb hX hbl hbA hS (inC f7 (by omega) (by omega)) dL_law_399 ?_
  refine lwM (As := [.int (xs (y + 1).toNatClampNeg), .int (xs (y + 2).toNatClampNeg)]) (rest := []) ⟨hx, hb, hml, hown, hts⟩ (kU_X10_put l dC dI cI cZ cQ v hv _ ma hma (xs (y + 1).toNatClampNeg) (xs (y + 2).toNatClampNeg)) (cwV 2 hts gL_law_X10_put rfl rfl rfl (by decide +kernel) ⟨Nat.le_of_ble_eq_true rfl, Nat.le_of_ble_eq_true rfl⟩) hP hD hS hK hN hma rfl hl.1 rfl (Nat.le_of_ble_eq_true rfl) dL_law_400 ⟨Nat.le_of_ble_eq_true rfl, Nat.le_of_ble_eq_true rfl⟩ (fun r9 u8 H locs h10 hP hD hS => ?_)
  obtain ⟨hmu, hma, hm_mar, hm_tel, hm_gai, hm_fal, hm_day, hm_ali, hm_ans, hm_wal, hm_dA, hm_dB, hm_doo, hm_txt, hm_byt, hm_lne, hm_lin, hm_and, hm_anr, hms⟩ := h10
  refine lv_pop hx hb dL_law_403 rfl ?_
  refine lv_goto (tgt := 1248) hx hb dL_law_404 (by decide) ?_
  have hR0 := hR
  have hd := spPutC_rel hR.2.2.2.2.2.2.2.2.1 (hu.2.2.2.2.2.2.2.2.2.2.2.2.2.2.2.2.2.2.2.2.2.2.2.1) hR.2.2.2.2.1 hxs hms
  have hR2 : rel u3 u8 := ⟨(hx_mar.trans (hR0.1.trans hm_mar.symm)), (hx_tel.trans (hR0.2.1.trans hm_tel.symm)), (hx_gai.trans (hR0.2.2.1.trans hm_gai.symm)), (fun j hj => by rw [hx_fal, hm_fal]; exact hR0.2.2.2.1 j hj), (hx_day.trans (hR0.2.2.2.2.1.trans hm_day.symm)), (hx_ali.trans (hR0.2.2.2.2.2.1.trans hm_ali.symm)), (fun j hj => by rw [hx_ans0, hx_ans1, hx_ans2, hx_ans3, hm_ans]; exact hR0.2.2.2.2.2.2.1 j hj), (fun j hj => (hd.2.1 j hj).1), (by rw [hx_wal, hm_wal]; exact hd.2), (by rw [hx_few, hx_doo, hm_dA, hm_dB, hm_doo]; exact hR0.2.2.2.2.2.2.2.2.2.1), (hx_byt.trans (hR0.2.2.2.2.2.2.2.2.2.2.1.trans hm_txt.symm)), (hx_len.trans (hR0.2.2.2.2.2.2.2.2.2.2.2.1.trans hm_byt.symm)), (by rw [hx_mos, hx_wev, hx_aga, hx_apa, hx_lin, hm_lne, hm_lin]; exact hR0.2.2.2.2.2.2.2.2.2.2.2.2.1), (by rw [hx_agr0, hx_agr1, hx_agr2, hx_agr3, hm_ans, hm_and, hm_anr]; exact hR0.2.2.2.2.2.2.2.2.2.2.2.2.2)⟩
  exact kk u3 u8 _ _ ⟨hxu, hmu, hxa, hma, hR2, hP, hD, hS⟩
set_option maxHeartbeats 4000000 in
set_option maxRecDepth 100000 in
theorem lc_7 {p : Program} {l : Launch} {e : Env} {s : State} {m : MethodId} {below : List Frame} {meth : Method} {c : Code} {b L : Nat} {xs : Nat → Int32} {dC : Nat → ClassId} {dI : Nat → Nat → Nat} {cI cZ cQ : ClassId} {ak av : Nat → Nat} {xa ma : Nat} (K : LC p s m meth c b L xs dC dI cI cZ cQ ak av) (hL : L ≤ 2560) (y : Int32) (hy0 : 0 ≤ y.toInt) (hy1 : y.toInt ≤ (L : Int) - 5) (u v : US) (H : Heap) (locs : List Loc) (I : LI dC dI cI cZ cQ s xa ma u v H locs) (ls : Array Slot) (hl : lv_has ls 4 [(0, .ref b), (1, .ref xa), (2, .ref ma), (3, .int y)]) (kk : ∀ (u v : US) (H : Heap) (locs : List Loc), LI dC dI cI cZ cQ s xa ma u v H locs → W p l e room_1 s m #[Value.ref b] below meth c H locs 76 4711 (lw_Z below #[Value.ref b] s) (F0 m 1248 ls [])) : W p l e room_1 s m #[Value.ref b] below meth c H locs 76 4711 (lw_Z below #[Value.ref b] s) (F0 m 407 ls []) := by
  obtain ⟨hx, hb, hml, hown, hts, hX, hbl, hK, hN, hSV⟩ := K
  obtain ⟨hu, hv, hxa, hma, hR, hP, hD, hS⟩ := I
  have hbA : ¬ AL s b := Nat.not_le.mpr hbl
  refine lv_aload_n hx hb dL_law_407 rfl (lv_at hl 1 rfl) ?_
  refine lv_aload_n hx hb dL_law_408 rfl (lv_at hl 0 rfl) ?_
  refine lv_iload_n hx hb dL_law_409 rfl (lv_at hl 3 rfl) ?_
  refine lv_iconst (v := 1) hx hb dL_law_410 (by decide) ?_
  refine lv_iadd hx hb dL_law_411 ?_
  have f1 : (y + 1).toInt = (y.toInt) + (1) := addC rfl (show (1 : Int32).toInt = 1 from rfl) (by omega) (by omega)
  refine va_sld hx hb hX hbl hbA hS (inC f1 (by omega) (by omega)) dL_law_412 ?_
  refine lwP (As := [.int (xs (y + 1).toNatClampNeg)]) (rest := []) ⟨hx, hb, hml, hown, hts⟩ (kU_X9_clear l dC dI cI cZ cQ ak av u hu _ xa hxa (xs (y + 1).toNatClampNeg)) (cwV 1 hts gL_law_X9_clear rfl rfl rfl (by decide +kernel) ⟨Nat.le_of_ble_eq_true rfl, Nat.le_of_ble_eq_true rfl⟩) hSV hP hD hS hK hN hxa rfl hl.1 rfl (Nat.le_of_ble_eq_true rfl) dL_law_413 ⟨Nat.le_of_ble_eq_true rfl, Nat.le_of_ble_eq_true rfl⟩ (fun r3 u2 H locs h4 hP hD hS => ?_)
  obtain ⟨hxu, hxa, hx_mar, hx_tel, hx_gai, hx_fal, hx_day, hx_ali, hx_ans0, hx_ans1, hx_ans2, hx_ans3, hx_str, hx_ghs, hx_pto, hx_wal, hx_few, hx_doo, hx_byt, hx_len, hx_mos, hx_wev, hx_aga, hx_apa, hx_lin, hx_agr0, hx_agr1, hx_agr2, hx_agr3, hxs⟩ := h4
  refine lv_pop hx hb dL_law_416 rfl ?_
  refine lv_aload_n hx hb dL_law_417 rfl (lv_at hl 2 rfl) ?_
  refine lv_aload_n hx hb dL_law_418 rfl (lv_at hl 0 rfl) ?_
  refine lv_iload_n hx hb dL_law_419 rfl (lv_at hl 3 rfl) ?_
  refine lv_iconst (v := 1) hx hb dL_law_420 (by decide) ?_
  refine lv_iadd hx hb dL_law_421 ?_
  have f5 : (y + 1).toInt = (y.toInt) + (1) := addC rfl (show (1 : Int32).toInt = 1 from rfl) (by omega) (by omega)
  refine va_sld hx hb hX hbl hbA hS (inC f5 (by omega) (by omega)) dL_law_422 ?_
  refine lwM (As := [.int (xs (y + 1).toNatClampNeg)]) (rest := []) ⟨hx, hb, hml, hown, hts⟩ (kU_X10_clear l dC dI cI cZ cQ v hv _ ma hma (xs (y + 1).toNatClampNeg)) (cwV 1 hts gL_law_X10_clear rfl rfl rfl (by decide +kernel) ⟨Nat.le_of_ble_eq_true rfl, Nat.le_of_ble_eq_true rfl⟩) hP hD hS hK hN hma rfl hl.1 rfl (Nat.le_of_ble_eq_true rfl) dL_law_423 ⟨Nat.le_of_ble_eq_true rfl, Nat.le_of_ble_eq_true rfl⟩ (fun r7 u6 H locs h8 hP hD hS => ?_)
  obtain ⟨hmu, hma, hm_mar, hm_tel, hm_gai, hm_fal, hm_day, hm_ali, hm_ans, hm_pto, hm_wal, hm_dA, hm_dB, hm_doo, hm_txt, hm_byt, hm_lne, hm_lin, hm_and, hm_anr, hms⟩ := h8
  refine lv_pop hx hb dL_law_426 rfl ?_
  refine lv_goto (tgt := 1248) hx hb dL_law_427 (by decide) ?_
  have hR0 := hR
  have hd := spClrC_rel hR.2.2.2.2.2.2.2.2.1 hxs hms
  have hR2 : rel u2 u6 := ⟨(hx_mar.trans (hR0.1.trans hm_mar.symm)), (hx_tel.trans (hR0.2.1.trans hm_tel.symm)), (hx_gai.trans (hR0.2.2.1.trans hm_gai.symm)), (fun j hj => by rw [hx_fal, hm_fal]; exact hR0.2.2.2.1 j hj), (hx_day.trans (hR0.2.2.2.2.1.trans hm_day.symm)), (hx_ali.trans (hR0.2.2.2.2.2.1.trans hm_ali.symm)), (fun j hj => by rw [hx_ans0, hx_ans1, hx_ans2, hx_ans3, hm_ans]; exact hR0.2.2.2.2.2.2.1 j hj), (fun j hj => (hd.2.1 j hj).1), (by rw [hx_str, hx_ghs, hx_pto, hx_wal, hm_pto, hm_wal]; exact hd.2), (by rw [hx_few, hx_doo, hm_dA, hm_dB, hm_doo]; exact hR0.2.2.2.2.2.2.2.2.2.1), (hx_byt.trans (hR0.2.2.2.2.2.2.2.2.2.2.1.trans hm_txt.symm)), (hx_len.trans (hR0.2.2.2.2.2.2.2.2.2.2.2.1.trans hm_byt.symm)), (by rw [hx_mos, hx_wev, hx_aga, hx_apa, hx_lin, hm_lne, hm_lin]; exact hR0.2.2.2.2.2.2.2.2.2.2.2.2.1), (by rw [hx_agr0, hx_agr1, hx_agr2, hx_agr3, hm_ans, hm_and, hm_anr]; exact hR0.2.2.2.2.2.2.2.2.2.2.2.2.2)⟩
  exact kk u2 u6 _ _ ⟨hxu, hmu, hxa, hma, hR2, hP, hD, hS⟩
set_option maxHeartbeats 4000000 in
set_option maxRecDepth 100000 in
theorem lc_8 {p : Program} {l : Launch} {e : Env} {s : State} {m : MethodId} {below : List Frame} {meth : Method} {c : Code} {b L : Nat} {xs : Nat → Int32} {dC : Nat → ClassId} {dI : Nat → Nat → Nat} {cI cZ cQ : ClassId} {ak av : Nat → Nat} {xa ma : Nat} (K : LC p s m meth c b L xs dC dI cI cZ cQ ak av) (hL : L ≤ 2560) (y : Int32) (hy0 : 0 ≤ y.toInt) (hy1 : y.toInt ≤ (L : Int) - 5) (u v : US) (H : Heap) (locs : List Loc) (I : LI dC dI cI cZ cQ s xa ma u v H locs) (ls : Array Slot) (hl : lv_has ls 4 [(0, .ref b), (1, .ref xa), (2, .ref ma), (3, .int y)]) (kk : ∀ (u v : US) (H : Heap) (locs : List Loc), LI dC dI cI cZ cQ s xa ma u v H locs → W p l e room_1 s m #[Value.ref b] below meth c H locs 76 4711 (lw_Z below #[Value.ref b] s) (F0 m 1248 ls [])) : W p l e room_1 s m #[Value.ref b] below meth c H locs 76 4711 (lw_Z below #[Value.ref b] s) (F0 m 430 ls []) := by
  obtain ⟨hx, hb, hml, hown, hts, hX, hbl, hK, hN, hSV⟩ := K
  obtain ⟨hu, hv, hxa, hma, hR, hP, hD, hS⟩ := I
  have hbA : ¬ AL s b := Nat.not_le.mpr hbl
  refine lv_aload_n hx hb dL_law_430 rfl (lv_at hl 1 rfl) ?_
  refine lv_aload_n hx hb dL_law_431 rfl (lv_at hl 0 rfl) ?_
  refine lv_iload_n hx hb dL_law_432 rfl (lv_at hl 3 rfl) ?_
  refine lv_iconst (v := 1) hx hb dL_law_433 (by decide) ?_
  refine lv_iadd hx hb dL_law_434 ?_
  have f1 : (y + 1).toInt = (y.toInt) + (1) := addC rfl (show (1 : Int32).toInt = 1 from rfl) (by omega) (by omega)
  refine va_sld hx hb hX hbl hbA hS (inC f1 (by omega) (by omega)) dL_law_435 ?_
  refine lv_aload_n hx hb dL_law_436 rfl (lv_at hl 0 rfl) ?_
  refine lv_iload_n hx hb dL_law_437 rfl (lv_at hl 3 rfl) ?_
  refine lv_iconst (v := 2) hx hb dL_law_438 (by decide) ?_
  refine lv_iadd hx hb dL_law_439 ?_
  have f2 : (y + 2).toInt = (y.toInt) + (2) := addC rfl (show (2 : Int32).toInt = 2 from rfl) (by omega) (by omega)
  refine va_sld hx hb hX hbl hbA hS (inC f2 (by omega) (by omega)) dL_law_440 ?_
  refine lwP (As := [.int (xs (y + 1).toNatClampNeg), .int (xs (y + 2).toNatClampNeg)]) (rest := []) ⟨hx, hb, hml, hown, hts⟩ (kU_X9_corner l dC dI cI cZ cQ ak av u hu _ xa hxa (xs (y + 1).toNatClampNeg) (xs (y + 2).toNatClampNeg)) (cwV 2 hts gL_law_X9_corner rfl rfl rfl (by decide +kernel) ⟨Nat.le_of_ble_eq_true rfl, Nat.le_of_ble_eq_true rfl⟩) hSV hP hD hS hK hN hxa rfl hl.1 rfl (Nat.le_of_ble_eq_true rfl) dL_law_441 ⟨Nat.le_of_ble_eq_true rfl, Nat.le_of_ble_eq_true rfl⟩ (fun r4 u3 H locs h5 hP hD hS => ?_)
  obtain ⟨hxu, hxa, hx_mar, hx_tel, hx_gai, hx_fal, hx_day, hx_ali, hx_ans0, hx_ans1, hx_ans2, hx_ans3, hx_top, hx_str, hx_gho, hx_ghs, hx_pto, hx_wal, hx_few, hx_doo, hx_byt, hx_len, hx_mos, hx_wev, hx_aga, hx_apa, hx_lin, hx_agr0, hx_agr1, hx_agr2, hx_agr3, hxs⟩ := h5
  refine lv_pop hx hb dL_law_444 rfl ?_
  refine lv_aload_n hx hb dL_law_445 rfl (lv_at hl 2 rfl) ?_
  refine lv_aload_n hx hb dL_law_446 rfl (lv_at hl 0 rfl) ?_
  refine lv_iload_n hx hb dL_law_447 rfl (lv_at hl 3 rfl) ?_
  refine lv_iconst (v := 1) hx hb dL_law_448 (by decide) ?_
  refine lv_iadd hx hb dL_law_449 ?_
  have f6 : (y + 1).toInt = (y.toInt) + (1) := addC rfl (show (1 : Int32).toInt = 1 from rfl) (by omega) (by omega)
  refine va_sld hx hb hX hbl hbA hS (inC f6 (by omega) (by omega)) dL_law_450 ?_
  refine lv_aload_n hx hb dL_law_451 rfl (lv_at hl 0 rfl) ?_
  refine lv_iload_n hx hb dL_law_452 rfl (lv_at hl 3 rfl) ?_
  refine lv_iconst (v := 2) hx hb dL_law_453 (by decide) ?_
  refine lv_iadd hx hb dL_law_454 ?_
  have f7 : (y + 2).toInt = (y.toInt) + (2) := addC rfl (show (2 : Int32).toInt = 2 from rfl) (by omega) (by omega)
  refine va_sld hx hb hX hbl hbA hS (inC f7 (by omega) (by omega)) dL_law_455 ?_
  refine lwM (As := [.int (xs (y + 1).toNatClampNeg), .int (xs (y + 2).toNatClampNeg)]) (rest := []) ⟨hx, hb, hml, hown, hts⟩ (kU_X10_corner l dC dI cI cZ cQ v hv _ ma hma (xs (y + 1).toNatClampNeg) (xs (y + 2).toNatClampNeg)) (cwV 2 hts gL_law_X10_corner rfl rfl rfl (by decide +kernel) ⟨Nat.le_of_ble_eq_true rfl, Nat.le_of_ble_eq_true rfl⟩) hP hD hS hK hN hma rfl hl.1 rfl (Nat.le_of_ble_eq_true rfl) dL_law_456 ⟨Nat.le_of_ble_eq_true rfl, Nat.le_of_ble_eq_true rfl⟩ (fun r9 u8 H locs h10 hP hD hS => ?_)
  obtain ⟨hmu, hma, hm_mar, hm_tel, hm_gai, hm_fal, hm_day, hm_ali, hm_ans, hm_top, hm_str, hm_gho, hm_fai, hm_pto, hm_wal, hm_dA, hm_dB, hm_doo, hm_txt, hm_byt, hm_lne, hm_lin, hm_and, hm_anr, hms⟩ := h10
  refine lv_pop hx hb dL_law_459 rfl ?_
  refine lv_goto (tgt := 1248) hx hb dL_law_460 (by decide) ?_
  have hR0 := hR
  have hd := spCor_rel hR.2.2.2.2.2.2.2.2.1 hxs hms
  have hR2 : rel u3 u8 := ⟨(hx_mar.trans (hR0.1.trans hm_mar.symm)), (hx_tel.trans (hR0.2.1.trans hm_tel.symm)), (hx_gai.trans (hR0.2.2.1.trans hm_gai.symm)), (fun j hj => by rw [hx_fal, hm_fal]; exact hR0.2.2.2.1 j hj), (hx_day.trans (hR0.2.2.2.2.1.trans hm_day.symm)), (hx_ali.trans (hR0.2.2.2.2.2.1.trans hm_ali.symm)), (fun j hj => by rw [hx_ans0, hx_ans1, hx_ans2, hx_ans3, hm_ans]; exact hR0.2.2.2.2.2.2.1 j hj), (fun j hj => by rw [hx_top, hm_top]; exact hR0.2.2.2.2.2.2.2.1 j hj), (by rw [hx_top, hx_str, hx_gho, hx_ghs, hx_pto, hx_wal, hm_top, hm_str, hm_gho, hm_fai, hm_pto, hm_wal]; exact hR0.2.2.2.2.2.2.2.2.1), (by rw [hx_few, hx_doo, hm_dA, hm_dB, hm_doo]; exact hR0.2.2.2.2.2.2.2.2.2.1), (hx_byt.trans (hR0.2.2.2.2.2.2.2.2.2.2.1.trans hm_txt.symm)), (hx_len.trans (hR0.2.2.2.2.2.2.2.2.2.2.2.1.trans hm_byt.symm)), (by rw [hx_mos, hx_wev, hx_aga, hx_apa, hx_lin, hm_lne, hm_lin]; exact hR0.2.2.2.2.2.2.2.2.2.2.2.2.1), (by rw [hx_agr0, hx_agr1, hx_agr2, hx_agr3, hm_ans, hm_and, hm_anr]; exact hR0.2.2.2.2.2.2.2.2.2.2.2.2.2)⟩
  exact kk u3 u8 _ _ ⟨hxu, hmu, hxa, hma, hR2, hP, hD, hS⟩
set_option maxHeartbeats 4000000 in
set_option maxRecDepth 100000 in
theorem lc_9 {p : Program} {l : Launch} {e : Env} {s : State} {m : MethodId} {below : List Frame} {meth : Method} {c : Code} {b L : Nat} {xs : Nat → Int32} {dC : Nat → ClassId} {dI : Nat → Nat → Nat} {cI cZ cQ : ClassId} {ak av : Nat → Nat} {xa ma : Nat} (K : LC p s m meth c b L xs dC dI cI cZ cQ ak av) (hL : L ≤ 2560) (y : Int32) (hy0 : 0 ≤ y.toInt) (hy1 : y.toInt ≤ (L : Int) - 5) (u v : US) (H : Heap) (locs : List Loc) (I : LI dC dI cI cZ cQ s xa ma u v H locs) (ls : Array Slot) (hl : lv_has ls 4 [(0, .ref b), (1, .ref xa), (2, .ref ma), (3, .int y)]) (kk : ∀ (u v : US) (H : Heap) (locs : List Loc), LI dC dI cI cZ cQ s xa ma u v H locs → W p l e room_1 s m #[Value.ref b] below meth c H locs 76 4711 (lw_Z below #[Value.ref b] s) (F0 m 1248 ls [])) : W p l e room_1 s m #[Value.ref b] below meth c H locs 76 4711 (lw_Z below #[Value.ref b] s) (F0 m 463 ls []) := by
  obtain ⟨hx, hb, hml, hown, hts, hX, hbl, hK, hN, hSV⟩ := K
  obtain ⟨hu, hv, hxa, hma, hR, hP, hD, hS⟩ := I
  have hbA : ¬ AL s b := Nat.not_le.mpr hbl
  refine lv_aload_n hx hb dL_law_463 rfl (lv_at hl 1 rfl) ?_
  refine lv_aload_n hx hb dL_law_464 rfl (lv_at hl 0 rfl) ?_
  refine lv_iload_n hx hb dL_law_465 rfl (lv_at hl 3 rfl) ?_
  refine lv_iconst (v := 1) hx hb dL_law_466 (by decide) ?_
  refine lv_iadd hx hb dL_law_467 ?_
  have f1 : (y + 1).toInt = (y.toInt) + (1) := addC rfl (show (1 : Int32).toInt = 1 from rfl) (by omega) (by omega)
  refine va_sld hx hb hX hbl hbA hS (inC f1 (by omega) (by omega)) dL_law_468 ?_
  refine lwP (As := [.int (xs (y + 1).toNatClampNeg)]) (rest := []) ⟨hx, hb, hml, hown, hts⟩ (kU_X9_where l dC dI cI cZ cQ ak av u hu _ xa hxa (xs (y + 1).toNatClampNeg)) (cwV 1 hts gL_law_X9_where rfl rfl rfl (by decide +kernel) ⟨Nat.le_of_ble_eq_true rfl, Nat.le_of_ble_eq_true rfl⟩) hSV hP hD hS hK hN hxa rfl hl.1 rfl (Nat.le_of_ble_eq_true rfl) dL_law_469 ⟨Nat.le_of_ble_eq_true rfl, Nat.le_of_ble_eq_true rfl⟩ (fun r3 u2 H locs h4 hP hD hS => ?_)
  obtain ⟨hxu, hxa, hx_mar, hx_tel, hx_gai, hx_fal, hx_day, hx_ali, hx_ans0, hx_ans1, hx_ans2, hx_ans3, hx_top, hx_str, hx_gho, hx_ghs, hx_pto, hx_wal, hx_few, hx_doo, hx_byt, hx_len, hx_mos, hx_wev, hx_aga, hx_apa, hx_lin, hx_agr0, hx_agr1, hx_agr2, hx_agr3, hxs⟩ := h4
  refine lv_pop hx hb dL_law_472 rfl ?_
  refine lv_aload_n hx hb dL_law_473 rfl (lv_at hl 2 rfl) ?_
  refine lv_aload_n hx hb dL_law_474 rfl (lv_at hl 0 rfl) ?_
  refine lv_iload_n hx hb dL_law_475 rfl (lv_at hl 3 rfl) ?_
  refine lv_iconst (v := 1) hx hb dL_law_476 (by decide) ?_
  refine lv_iadd hx hb dL_law_477 ?_
  have f5 : (y + 1).toInt = (y.toInt) + (1) := addC rfl (show (1 : Int32).toInt = 1 from rfl) (by omega) (by omega)
  refine va_sld hx hb hX hbl hbA hS (inC f5 (by omega) (by omega)) dL_law_478 ?_
  refine lwM (As := [.int (xs (y + 1).toNatClampNeg)]) (rest := []) ⟨hx, hb, hml, hown, hts⟩ (kU_X10_where l dC dI cI cZ cQ v hv _ ma hma (xs (y + 1).toNatClampNeg)) (cwV 1 hts gL_law_X10_where rfl rfl rfl (by decide +kernel) ⟨Nat.le_of_ble_eq_true rfl, Nat.le_of_ble_eq_true rfl⟩) hP hD hS hK hN hma rfl hl.1 rfl (Nat.le_of_ble_eq_true rfl) dL_law_479 ⟨Nat.le_of_ble_eq_true rfl, Nat.le_of_ble_eq_true rfl⟩ (fun r7 u6 H locs h8 hP hD hS => ?_)
  obtain ⟨hmu, hma, hm_mar, hm_tel, hm_gai, hm_fal, hm_day, hm_ali, hm_ans, hm_top, hm_str, hm_gho, hm_fai, hm_pto, hm_wal, hm_dA, hm_dB, hm_doo, hm_txt, hm_byt, hm_lne, hm_lin, hm_and, hm_anr, hms⟩ := h8
  refine lv_pop hx hb dL_law_482 rfl ?_
  refine lv_goto (tgt := 1248) hx hb dL_law_483 (by decide) ?_
  have hR0 := hR
  have hd := spWhere_rel hR.2.2.2.2.2.2.2.1 hxs hms
  have hR2 : rel u2 u6 := ⟨(hx_mar.trans (hR0.1.trans hm_mar.symm)), (hx_tel.trans (hR0.2.1.trans hm_tel.symm)), (hx_gai.trans (hR0.2.2.1.trans hm_gai.symm)), (fun j hj => by rw [hx_fal, hm_fal]; exact hR0.2.2.2.1 j hj), (hx_day.trans (hR0.2.2.2.2.1.trans hm_day.symm)), (hx_ali.trans (hR0.2.2.2.2.2.1.trans hm_ali.symm)), (fun j hj => by rw [hx_ans0, hx_ans1, hx_ans2, hx_ans3, hm_ans]; exact hR0.2.2.2.2.2.2.1 j hj), (fun j hj => by rw [hx_top, hm_top]; exact hR0.2.2.2.2.2.2.2.1 j hj), (by rw [hx_top, hx_str, hx_gho, hx_ghs, hx_pto, hx_wal, hm_top, hm_str, hm_gho, hm_fai, hm_pto, hm_wal]; exact hR0.2.2.2.2.2.2.2.2.1), (by rw [hx_few, hx_doo, hm_dA, hm_dB, hm_doo]; exact hR0.2.2.2.2.2.2.2.2.2.1), (hx_byt.trans (hR0.2.2.2.2.2.2.2.2.2.2.1.trans hm_txt.symm)), (hx_len.trans (hR0.2.2.2.2.2.2.2.2.2.2.2.1.trans hm_byt.symm)), (by rw [hx_mos, hx_wev, hx_aga, hx_apa, hx_lin, hm_lne, hm_lin]; exact hR0.2.2.2.2.2.2.2.2.2.2.2.2.1), (by rw [hx_agr0, hx_agr1, hx_agr2, hx_agr3, hm_ans, hm_and, hm_anr]; exact hR0.2.2.2.2.2.2.2.2.2.2.2.2.2)⟩
  exact kk u2 u6 _ _ ⟨hxu, hmu, hxa, hma, hR2, hP, hD, hS⟩
set_option maxHeartbeats 4000000 in
set_option maxRecDepth 100000 in
theorem lc_10 {p : Program} {l : Launch} {e : Env} {s : State} {m : MethodId} {below : List Frame} {meth : Method} {c : Code} {b L : Nat} {xs : Nat → Int32} {dC : Nat → ClassId} {dI : Nat → Nat → Nat} {cI cZ cQ : ClassId} {ak av : Nat → Nat} {xa ma : Nat} (K : LC p s m meth c b L xs dC dI cI cZ cQ ak av) (hL : L ≤ 2560) (y : Int32) (hy0 : 0 ≤ y.toInt) (hy1 : y.toInt ≤ (L : Int) - 5) (u v : US) (H : Heap) (locs : List Loc) (I : LI dC dI cI cZ cQ s xa ma u v H locs) (ls : Array Slot) (hl : lv_has ls 4 [(0, .ref b), (1, .ref xa), (2, .ref ma), (3, .int y)]) (kk : ∀ (u v : US) (H : Heap) (locs : List Loc), LI dC dI cI cZ cQ s xa ma u v H locs → W p l e room_1 s m #[Value.ref b] below meth c H locs 76 4711 (lw_Z below #[Value.ref b] s) (F0 m 1248 ls [])) : W p l e room_1 s m #[Value.ref b] below meth c H locs 76 4711 (lw_Z below #[Value.ref b] s) (F0 m 486 ls []) := by
  obtain ⟨hx, hb, hml, hown, hts, hX, hbl, hK, hN, hSV⟩ := K
  obtain ⟨hu, hv, hxa, hma, hR, hP, hD, hS⟩ := I
  have hbA : ¬ AL s b := Nat.not_le.mpr hbl
  refine lv_aload_n hx hb dL_law_486 rfl (lv_at hl 1 rfl) ?_
  refine lv_aload_n hx hb dL_law_487 rfl (lv_at hl 0 rfl) ?_
  refine lv_iload_n hx hb dL_law_488 rfl (lv_at hl 3 rfl) ?_
  refine lv_iconst (v := 1) hx hb dL_law_489 (by decide) ?_
  refine lv_iadd hx hb dL_law_490 ?_
  have f1 : (y + 1).toInt = (y.toInt) + (1) := addC rfl (show (1 : Int32).toInt = 1 from rfl) (by omega) (by omega)
  refine va_sld hx hb hX hbl hbA hS (inC f1 (by omega) (by omega)) dL_law_491 ?_
  refine lwP (As := [.int (xs (y + 1).toNatClampNeg)]) (rest := []) ⟨hx, hb, hml, hown, hts⟩ (kU_X9_days l dC dI cI cZ cQ ak av u hu _ xa hxa (xs (y + 1).toNatClampNeg)) (cwV 1 hts gL_law_X9_days rfl rfl rfl (by decide +kernel) ⟨Nat.le_of_ble_eq_true rfl, Nat.le_of_ble_eq_true rfl⟩) hSV hP hD hS hK hN hxa rfl hl.1 rfl (Nat.le_of_ble_eq_true rfl) dL_law_492 ⟨Nat.le_of_ble_eq_true rfl, Nat.le_of_ble_eq_true rfl⟩ (fun r3 u2 H locs h4 hP hD hS => ?_)
  obtain ⟨hxu, hxa, hx_mar, hx_tel, hx_gai, hx_fal, hx_ali, hx_ans0, hx_ans1, hx_ans2, hx_ans3, hx_top, hx_pto, hx_wal, hx_few, hx_doo, hx_byt, hx_len, hx_mos, hx_wev, hx_aga, hx_apa, hx_lin, hx_agr0, hx_agr1, hx_agr2, hx_agr3, hxs⟩ := h4
  refine lv_pop hx hb dL_law_495 rfl ?_
  refine lv_aload_n hx hb dL_law_496 rfl (lv_at hl 2 rfl) ?_
  refine lv_aload_n hx hb dL_law_497 rfl (lv_at hl 0 rfl) ?_
  refine lv_iload_n hx hb dL_law_498 rfl (lv_at hl 3 rfl) ?_
  refine lv_iconst (v := 1) hx hb dL_law_499 (by decide) ?_
  refine lv_iadd hx hb dL_law_500 ?_
  have f5 : (y + 1).toInt = (y.toInt) + (1) := addC rfl (show (1 : Int32).toInt = 1 from rfl) (by omega) (by omega)
  refine va_sld hx hb hX hbl hbA hS (inC f5 (by omega) (by omega)) dL_law_501 ?_
  refine lwM (As := [.int (xs (y + 1).toNatClampNeg)]) (rest := []) ⟨hx, hb, hml, hown, hts⟩ (kU_X10_days l dC dI cI cZ cQ v hv _ ma hma (xs (y + 1).toNatClampNeg)) (cwV 1 hts gL_law_X10_days rfl rfl rfl (by decide +kernel) ⟨Nat.le_of_ble_eq_true rfl, Nat.le_of_ble_eq_true rfl⟩) hP hD hS hK hN hma rfl hl.1 rfl (Nat.le_of_ble_eq_true rfl) dL_law_502 ⟨Nat.le_of_ble_eq_true rfl, Nat.le_of_ble_eq_true rfl⟩ (fun r7 u6 H locs h8 hP hD hS => ?_)
  obtain ⟨hmu, hma, hm_mar, hm_tel, hm_gai, hm_fal, hm_ali, hm_ans, hm_top, hm_pto, hm_wal, hm_dA, hm_dB, hm_doo, hm_txt, hm_byt, hm_lne, hm_lin, hm_and, hm_anr, hms⟩ := h8
  refine lv_pop hx hb dL_law_505 rfl ?_
  refine lv_goto (tgt := 1248) hx hb dL_law_506 (by decide) ?_
  have hR0 := hR
  have hd := spDysC_rel hR.2.2.2.2.2.2.2.2.1 hR.1 hR.2.1 hR.2.2.2.2.1 hR.2.2.2.1 (hu.2.2.2.2.2.2.2.1) (hu.2.2.1) (hu.2.2.2.2.1) hxs hms
  have hR2 : rel u2 u6 := ⟨(hx_mar.trans (hR0.1.trans hm_mar.symm)), (hx_tel.trans (hR0.2.1.trans hm_tel.symm)), (hx_gai.trans (hR0.2.2.1.trans hm_gai.symm)), (fun j hj => by rw [hx_fal, hm_fal]; exact hR0.2.2.2.1 j hj), hd.2.1, (hx_ali.trans (hR0.2.2.2.2.2.1.trans hm_ali.symm)), (fun j hj => by rw [hx_ans0, hx_ans1, hx_ans2, hx_ans3, hm_ans]; exact hR0.2.2.2.2.2.2.1 j hj), (fun j hj => by rw [hx_top, hm_top]; exact hR0.2.2.2.2.2.2.2.1 j hj), (by rw [hx_top, hx_pto, hx_wal, hm_top, hm_pto, hm_wal]; exact hd.2.2), (by rw [hx_few, hx_doo, hm_dA, hm_dB, hm_doo]; exact hR0.2.2.2.2.2.2.2.2.2.1), (hx_byt.trans (hR0.2.2.2.2.2.2.2.2.2.2.1.trans hm_txt.symm)), (hx_len.trans (hR0.2.2.2.2.2.2.2.2.2.2.2.1.trans hm_byt.symm)), (by rw [hx_mos, hx_wev, hx_aga, hx_apa, hx_lin, hm_lne, hm_lin]; exact hR0.2.2.2.2.2.2.2.2.2.2.2.2.1), (by rw [hx_agr0, hx_agr1, hx_agr2, hx_agr3, hm_ans, hm_and, hm_anr]; exact hR0.2.2.2.2.2.2.2.2.2.2.2.2.2)⟩
  exact kk u2 u6 _ _ ⟨hxu, hmu, hxa, hma, hR2, hP, hD, hS⟩
set_option maxHeartbeats 4000000 in
set_option maxRecDepth 100000 in
theorem lc_11 {p : Program} {l : Launch} {e : Env} {s : State} {m : MethodId} {below : List Frame} {meth : Method} {c : Code} {b L : Nat} {xs : Nat → Int32} {dC : Nat → ClassId} {dI : Nat → Nat → Nat} {cI cZ cQ : ClassId} {ak av : Nat → Nat} {xa ma : Nat} (K : LC p s m meth c b L xs dC dI cI cZ cQ ak av) (hL : L ≤ 2560) (y : Int32) (hy0 : 0 ≤ y.toInt) (hy1 : y.toInt ≤ (L : Int) - 5) (u v : US) (H : Heap) (locs : List Loc) (I : LI dC dI cI cZ cQ s xa ma u v H locs) (ls : Array Slot) (hl : lv_has ls 4 [(0, .ref b), (1, .ref xa), (2, .ref ma), (3, .int y)]) (kk : ∀ (u v : US) (H : Heap) (locs : List Loc), LI dC dI cI cZ cQ s xa ma u v H locs → W p l e room_1 s m #[Value.ref b] below meth c H locs 76 4711 (lw_Z below #[Value.ref b] s) (F0 m 1248 ls [])) : W p l e room_1 s m #[Value.ref b] below meth c H locs 76 4711 (lw_Z below #[Value.ref b] s) (F0 m 509 ls []) := by
  obtain ⟨hx, hb, hml, hown, hts, hX, hbl, hK, hN, hSV⟩ := K
  obtain ⟨hu, hv, hxa, hma, hR, hP, hD, hS⟩ := I
  have hbA : ¬ AL s b := Nat.not_le.mpr hbl
  refine lv_aload_n hx hb dL_law_509 rfl (lv_at hl 1 rfl) ?_
  refine lv_aload_n hx hb dL_law_510 rfl (lv_at hl 0 rfl) ?_
  refine lv_iload_n hx hb dL_law_511 rfl (lv_at hl 3 rfl) ?_
  refine lv_iconst (v := 1) hx hb dL_law_512 (by decide) ?_
  refine lv_iadd hx hb dL_law_513 ?_
  have f1 : (y + 1).toInt = (y.toInt) + (1) := addC rfl (show (1 : Int32).toInt = 1 from rfl) (by omega) (by omega)
  refine va_sld hx hb hX hbl hbA hS (inC f1 (by omega) (by omega)) dL_law_514 ?_
  refine lwP (As := [.int (xs (y + 1).toNatClampNeg)]) (rest := []) ⟨hx, hb, hml, hown, hts⟩ (kU_X9_walk l dC dI cI cZ cQ ak av u hu _ xa hxa (xs (y + 1).toNatClampNeg)) (cwV 1 hts gL_law_X9_walk rfl rfl rfl (by decide +kernel) ⟨Nat.le_of_ble_eq_true rfl, Nat.le_of_ble_eq_true rfl⟩) hSV hP hD hS hK hN hxa rfl hl.1 rfl (Nat.le_of_ble_eq_true rfl) dL_law_515 ⟨Nat.le_of_ble_eq_true rfl, Nat.le_of_ble_eq_true rfl⟩ (fun r3 u2 H locs h4 hP hD hS => ?_)
  obtain ⟨hxu, hxa, hx_mar, hx_tel, hx_gai, hx_fal, hx_day, hx_ali, hx_ans0, hx_ans1, hx_ans2, hx_ans3, hx_top, hx_gho, hx_ghs, hx_pto, hx_few, hx_doo, hx_byt, hx_len, hx_mos, hx_wev, hx_aga, hx_apa, hx_lin, hx_agr0, hx_agr1, hx_agr2, hx_agr3, hxs⟩ := h4
  refine lv_pop hx hb dL_law_518 rfl ?_
  refine lv_aload_n hx hb dL_law_519 rfl (lv_at hl 2 rfl) ?_
  refine lv_aload_n hx hb dL_law_520 rfl (lv_at hl 0 rfl) ?_
  refine lv_iload_n hx hb dL_law_521 rfl (lv_at hl 3 rfl) ?_
  refine lv_iconst (v := 1) hx hb dL_law_522 (by decide) ?_
  refine lv_iadd hx hb dL_law_523 ?_
  have f5 : (y + 1).toInt = (y.toInt) + (1) := addC rfl (show (1 : Int32).toInt = 1 from rfl) (by omega) (by omega)
  refine va_sld hx hb hX hbl hbA hS (inC f5 (by omega) (by omega)) dL_law_524 ?_
  refine lwM (As := [.int (xs (y + 1).toNatClampNeg)]) (rest := []) ⟨hx, hb, hml, hown, hts⟩ (kU_X10_walk l dC dI cI cZ cQ v hv _ ma hma (xs (y + 1).toNatClampNeg)) (cwV 1 hts gL_law_X10_walk rfl rfl rfl (by decide +kernel) ⟨Nat.le_of_ble_eq_true rfl, Nat.le_of_ble_eq_true rfl⟩) hP hD hS hK hN hma rfl hl.1 rfl (Nat.le_of_ble_eq_true rfl) dL_law_525 ⟨Nat.le_of_ble_eq_true rfl, Nat.le_of_ble_eq_true rfl⟩ (fun r7 u6 H locs h8 hP hD hS => ?_)
  obtain ⟨hmu, hma, hm_mar, hm_tel, hm_gai, hm_fal, hm_day, hm_ali, hm_ans, hm_top, hm_gho, hm_fai, hm_pto, hm_dA, hm_dB, hm_doo, hm_txt, hm_byt, hm_lne, hm_lin, hm_and, hm_anr, hms⟩ := h8
  refine lv_pop hx hb dL_law_528 rfl ?_
  refine lv_goto (tgt := 1248) hx hb dL_law_529 (by decide) ?_
  have hR0 := hR
  have hd := spWlkC_rel hR.2.2.2.2.2.2.2.2.1 hR.2.2.1 hR.2.2.2.2.1 hxs hms
  have hR2 : rel u2 u6 := ⟨(hx_mar.trans (hR0.1.trans hm_mar.symm)), (hx_tel.trans (hR0.2.1.trans hm_tel.symm)), (hx_gai.trans (hR0.2.2.1.trans hm_gai.symm)), (fun j hj => by rw [hx_fal, hm_fal]; exact hR0.2.2.2.1 j hj), (hx_day.trans (hR0.2.2.2.2.1.trans hm_day.symm)), (hx_ali.trans (hR0.2.2.2.2.2.1.trans hm_ali.symm)), (fun j hj => by rw [hx_ans0, hx_ans1, hx_ans2, hx_ans3, hm_ans]; exact hR0.2.2.2.2.2.2.1 j hj), (fun j hj => by rw [hx_top, hm_top]; exact hR0.2.2.2.2.2.2.2.1 j hj), (by rw [hx_top, hx_gho, hx_ghs, hx_pto, hm_top, hm_gho, hm_fai, hm_pto]; exact hd.2), (by rw [hx_few, hx_doo, hm_dA, hm_dB, hm_doo]; exact hR0.2.2.2.2.2.2.2.2.2.1), (hx_byt.trans (hR0.2.2.2.2.2.2.2.2.2.2.1.trans hm_txt.symm)), (hx_len.trans (hR0.2.2.2.2.2.2.2.2.2.2.2.1.trans hm_byt.symm)), (by rw [hx_mos, hx_wev, hx_aga, hx_apa, hx_lin, hm_lne, hm_lin]; exact hR0.2.2.2.2.2.2.2.2.2.2.2.2.1), (by rw [hx_agr0, hx_agr1, hx_agr2, hx_agr3, hm_ans, hm_and, hm_anr]; exact hR0.2.2.2.2.2.2.2.2.2.2.2.2.2)⟩
  exact kk u2 u6 _ _ ⟨hxu, hmu, hxa, hma, hR2, hP, hD, hS⟩
set_option maxHeartbeats 4000000 in
set_option maxRecDepth 100000 in
theorem lc_12 {p : Program} {l : Launch} {e : Env} {s : State} {m : MethodId} {below : List Frame} {meth : Method} {c : Code} {b L : Nat} {xs : Nat → Int32} {dC : Nat → ClassId} {dI : Nat → Nat → Nat} {cI cZ cQ : ClassId} {ak av : Nat → Nat} {xa ma : Nat} (K : LC p s m meth c b L xs dC dI cI cZ cQ ak av) (hL : L ≤ 2560) (y : Int32) (hy0 : 0 ≤ y.toInt) (hy1 : y.toInt ≤ (L : Int) - 5) (u v : US) (H : Heap) (locs : List Loc) (I : LI dC dI cI cZ cQ s xa ma u v H locs) (ls : Array Slot) (hl : lv_has ls 4 [(0, .ref b), (1, .ref xa), (2, .ref ma), (3, .int y)]) (kk : ∀ (u v : US) (H : Heap) (locs : List Loc), LI dC dI cI cZ cQ s xa ma u v H locs → W p l e room_1 s m #[Value.ref b] below meth c H locs 76 4711 (lw_Z below #[Value.ref b] s) (F0 m 1248 ls [])) : W p l e room_1 s m #[Value.ref b] below meth c H locs 76 4711 (lw_Z below #[Value.ref b] s) (F0 m 532 ls []) := by
  obtain ⟨hx, hb, hml, hown, hts, hX, hbl, hK, hN, hSV⟩ := K
  obtain ⟨hu, hv, hxa, hma, hR, hP, hD, hS⟩ := I
  have hbA : ¬ AL s b := Nat.not_le.mpr hbl
  refine lv_aload_n hx hb dL_law_532 rfl (lv_at hl 1 rfl) ?_
  refine lv_aload_n hx hb dL_law_533 rfl (lv_at hl 0 rfl) ?_
  refine lv_iload_n hx hb dL_law_534 rfl (lv_at hl 3 rfl) ?_
  refine lv_iconst (v := 1) hx hb dL_law_535 (by decide) ?_
  refine lv_iadd hx hb dL_law_536 ?_
  have f1 : (y + 1).toInt = (y.toInt) + (1) := addC rfl (show (1 : Int32).toInt = 1 from rfl) (by omega) (by omega)
  refine va_sld hx hb hX hbl hbA hS (inC f1 (by omega) (by omega)) dL_law_537 ?_
  refine lv_i2l hx hb dL_law_538 rfl ?_
  refine lv_bipush (v := 32) hx hb dL_law_539 (by decide) ?_
  refine lv_lshl hx hb dL_law_541 rfl ?_
  refine lv_aload_n hx hb dL_law_542 rfl (lv_at hl 0 rfl) ?_
  refine lv_iload_n hx hb dL_law_543 rfl (lv_at hl 3 rfl) ?_
  refine lv_iconst (v := 2) hx hb dL_law_544 (by decide) ?_
  refine lv_iadd hx hb dL_law_545 ?_
  have f2 : (y + 2).toInt = (y.toInt) + (2) := addC rfl (show (2 : Int32).toInt = 2 from rfl) (by omega) (by omega)
  refine va_sld hx hb hX hbl hbA hS (inC f2 (by omega) (by omega)) dL_law_546 ?_
  refine lv_i2l hx hb dL_law_547 rfl ?_
  refine lv_ldc2 (v := 4294967295) hx hb hown (hts (.constantLong RL 63 (4294967295)) (by decide +kernel)) dL_law_548 ?_
  refine lv_land hx hb dL_law_551 ?_
  refine lv_lor hx hb dL_law_552 ?_
  refine lv_aload_n hx hb dL_law_553 rfl (lv_at hl 0 rfl) ?_
  refine lv_iload_n hx hb dL_law_554 rfl (lv_at hl 3 rfl) ?_
  refine lv_iconst (v := 3) hx hb dL_law_555 (by decide) ?_
  refine lv_iadd hx hb dL_law_556 ?_
  have f3 : (y + 3).toInt = (y.toInt) + (3) := addC rfl (show (3 : Int32).toInt = 3 from rfl) (by omega) (by omega)
  refine va_sld hx hb hX hbl hbA hS (inC f3 (by omega) (by omega)) dL_law_557 ?_
  refine lwP (As := [.long ((((xs (y + 1).toNatClampNeg).toInt64) <<< ((32 : Int32).toInt64 &&& 63)) ||| (((xs (y + 2).toNatClampNeg).toInt64) &&& 4294967295)), .int (xs (y + 3).toNatClampNeg)]) (rest := []) ⟨hx, hb, hml, hown, hts⟩ (kU_X9_write l dC dI cI cZ cQ ak av u hu _ xa hxa ((((xs (y + 1).toNatClampNeg).toInt64) <<< ((32 : Int32).toInt64 &&& 63)) ||| (((xs (y + 2).toNatClampNeg).toInt64) &&& 4294967295)) (xs (y + 3).toNatClampNeg)) (cwV 2 hts gL_law_X9_write rfl rfl rfl (by decide +kernel) ⟨Nat.le_of_ble_eq_true rfl, Nat.le_of_ble_eq_true rfl⟩) hSV hP hD hS hK hN hxa rfl hl.1 rfl (Nat.le_of_ble_eq_true rfl) dL_law_558 ⟨Nat.le_of_ble_eq_true rfl, Nat.le_of_ble_eq_true rfl⟩ (fun r5 u4 H locs h6 hP hD hS => ?_)
  obtain ⟨hxu, hxa, hx_mar, hx_tel, hx_gai, hx_fal, hx_day, hx_ali, hx_ans0, hx_ans1, hx_ans2, hx_ans3, hx_top, hx_str, hx_gho, hx_ghs, hx_pto, hx_wal, hx_few, hx_doo, hx_mos, hx_wev, hx_aga, hx_apa, hx_lin, hx_agr0, hx_agr1, hx_agr2, hx_agr3, hxs⟩ := h6
  refine lv_pop hx hb dL_law_561 rfl ?_
  refine lv_aload_n hx hb dL_law_562 rfl (lv_at hl 2 rfl) ?_
  refine lv_aload_n hx hb dL_law_563 rfl (lv_at hl 0 rfl) ?_
  refine lv_iload_n hx hb dL_law_564 rfl (lv_at hl 3 rfl) ?_
  refine lv_iconst (v := 1) hx hb dL_law_565 (by decide) ?_
  refine lv_iadd hx hb dL_law_566 ?_
  have f7 : (y + 1).toInt = (y.toInt) + (1) := addC rfl (show (1 : Int32).toInt = 1 from rfl) (by omega) (by omega)
  refine va_sld hx hb hX hbl hbA hS (inC f7 (by omega) (by omega)) dL_law_567 ?_
  refine lv_i2l hx hb dL_law_568 rfl ?_
  refine lv_bipush (v := 32) hx hb dL_law_569 (by decide) ?_
  refine lv_lshl hx hb dL_law_571 rfl ?_
  refine lv_aload_n hx hb dL_law_572 rfl (lv_at hl 0 rfl) ?_
  refine lv_iload_n hx hb dL_law_573 rfl (lv_at hl 3 rfl) ?_
  refine lv_iconst (v := 2) hx hb dL_law_574 (by decide) ?_
  refine lv_iadd hx hb dL_law_575 ?_
  have f8 : (y + 2).toInt = (y.toInt) + (2) := addC rfl (show (2 : Int32).toInt = 2 from rfl) (by omega) (by omega)
  refine va_sld hx hb hX hbl hbA hS (inC f8 (by omega) (by omega)) dL_law_576 ?_
  refine lv_i2l hx hb dL_law_577 rfl ?_
  refine lv_ldc2 (v := 4294967295) hx hb hown (hts (.constantLong RL 63 (4294967295)) (by decide +kernel)) dL_law_578 ?_
  refine lv_land hx hb dL_law_581 ?_
  refine lv_lor hx hb dL_law_582 ?_
  refine lv_aload_n hx hb dL_law_583 rfl (lv_at hl 0 rfl) ?_
  refine lv_iload_n hx hb dL_law_584 rfl (lv_at hl 3 rfl) ?_
  refine lv_iconst (v := 3) hx hb dL_law_585 (by decide) ?_
  refine lv_iadd hx hb dL_law_586 ?_
  have f9 : (y + 3).toInt = (y.toInt) + (3) := addC rfl (show (3 : Int32).toInt = 3 from rfl) (by omega) (by omega)
  refine va_sld hx hb hX hbl hbA hS (inC f9 (by omega) (by omega)) dL_law_587 ?_
  refine lwM (As := [.long ((((xs (y + 1).toNatClampNeg).toInt64) <<< ((32 : Int32).toInt64 &&& 63)) ||| (((xs (y + 2).toNatClampNeg).toInt64) &&& 4294967295)), .int (xs (y + 3).toNatClampNeg)]) (rest := []) ⟨hx, hb, hml, hown, hts⟩ (kU_X10_write l dC dI cI cZ cQ v hv _ ma hma ((((xs (y + 1).toNatClampNeg).toInt64) <<< ((32 : Int32).toInt64 &&& 63)) ||| (((xs (y + 2).toNatClampNeg).toInt64) &&& 4294967295)) (xs (y + 3).toNatClampNeg)) (cwV 2 hts gL_law_X10_write rfl rfl rfl (by decide +kernel) ⟨Nat.le_of_ble_eq_true rfl, Nat.le_of_ble_eq_true rfl⟩) hP hD hS hK hN hma rfl hl.1 rfl (Nat.le_of_ble_eq_true rfl) dL_law_588 ⟨Nat.le_of_ble_eq_true rfl, Nat.le_of_ble_eq_true rfl⟩ (fun r11 u10 H locs h12 hP hD hS => ?_)
  obtain ⟨hmu, hma, hm_mar, hm_tel, hm_gai, hm_fal, hm_day, hm_ali, hm_ans, hm_top, hm_str, hm_gho, hm_fai, hm_pto, hm_wal, hm_dA, hm_dB, hm_doo, hm_lne, hm_lin, hm_and, hm_anr, hms⟩ := h12
  refine lv_pop hx hb dL_law_591 rfl ?_
  refine lv_goto (tgt := 1248) hx hb dL_law_592 (by decide) ?_
  have hR0 := hR
  have hd := spWri_rel hR.2.2.2.2.2.2.2.2.2.2.1 hR.2.2.2.2.2.2.2.2.2.2.2.1 hxs hms
  have hR2 : rel u4 u10 := ⟨(hx_mar.trans (hR0.1.trans hm_mar.symm)), (hx_tel.trans (hR0.2.1.trans hm_tel.symm)), (hx_gai.trans (hR0.2.2.1.trans hm_gai.symm)), (fun j hj => by rw [hx_fal, hm_fal]; exact hR0.2.2.2.1 j hj), (hx_day.trans (hR0.2.2.2.2.1.trans hm_day.symm)), (hx_ali.trans (hR0.2.2.2.2.2.1.trans hm_ali.symm)), (fun j hj => by rw [hx_ans0, hx_ans1, hx_ans2, hx_ans3, hm_ans]; exact hR0.2.2.2.2.2.2.1 j hj), (fun j hj => by rw [hx_top, hm_top]; exact hR0.2.2.2.2.2.2.2.1 j hj), (by rw [hx_top, hx_str, hx_gho, hx_ghs, hx_pto, hx_wal, hm_top, hm_str, hm_gho, hm_fai, hm_pto, hm_wal]; exact hR0.2.2.2.2.2.2.2.2.1), (by rw [hx_few, hx_doo, hm_dA, hm_dB, hm_doo]; exact hR0.2.2.2.2.2.2.2.2.2.1), hd.2.1, hd.2.2, (by rw [hx_mos, hx_wev, hx_aga, hx_apa, hx_lin, hm_lne, hm_lin]; exact hR0.2.2.2.2.2.2.2.2.2.2.2.2.1), (by rw [hx_agr0, hx_agr1, hx_agr2, hx_agr3, hm_ans, hm_and, hm_anr]; exact hR0.2.2.2.2.2.2.2.2.2.2.2.2.2)⟩
  exact kk u4 u10 _ _ ⟨hxu, hmu, hxa, hma, hR2, hP, hD, hS⟩
set_option maxHeartbeats 4000000 in
set_option maxRecDepth 100000 in
theorem lc_13 {p : Program} {l : Launch} {e : Env} {s : State} {m : MethodId} {below : List Frame} {meth : Method} {c : Code} {b L : Nat} {xs : Nat → Int32} {dC : Nat → ClassId} {dI : Nat → Nat → Nat} {cI cZ cQ : ClassId} {ak av : Nat → Nat} {xa ma : Nat} (K : LC p s m meth c b L xs dC dI cI cZ cQ ak av) (hL : L ≤ 2560) (y : Int32) (hy0 : 0 ≤ y.toInt) (hy1 : y.toInt ≤ (L : Int) - 5) (u v : US) (H : Heap) (locs : List Loc) (I : LI dC dI cI cZ cQ s xa ma u v H locs) (ls : Array Slot) (hl : lv_has ls 4 [(0, .ref b), (1, .ref xa), (2, .ref ma), (3, .int y)]) (kk : ∀ (u v : US) (H : Heap) (locs : List Loc), LI dC dI cI cZ cQ s xa ma u v H locs → W p l e room_1 s m #[Value.ref b] below meth c H locs 76 4711 (lw_Z below #[Value.ref b] s) (F0 m 1248 ls [])) : W p l e room_1 s m #[Value.ref b] below meth c H locs 76 4711 (lw_Z below #[Value.ref b] s) (F0 m 595 ls []) := by
  obtain ⟨hx, hb, hml, hown, hts, hX, hbl, hK, hN, hSV⟩ := K
  obtain ⟨hu, hv, hxa, hma, hR, hP, hD, hS⟩ := I
  have hbA : ¬ AL s b := Nat.not_le.mpr hbl
  refine lv_aload_n hx hb dL_law_595 rfl (lv_at hl 1 rfl) ?_
  refine lwP (As := []) (rest := []) ⟨hx, hb, hml, hown, hts⟩ (kU_X9_erase l dC dI cI cZ cQ ak av u hu _ xa hxa) (cwV 0 hts gL_law_X9_erase rfl rfl rfl (by decide +kernel) ⟨Nat.le_of_ble_eq_true rfl, Nat.le_of_ble_eq_true rfl⟩) hSV hP hD hS hK hN hxa rfl hl.1 rfl (Nat.le_of_ble_eq_true rfl) dL_law_596 ⟨Nat.le_of_ble_eq_true rfl, Nat.le_of_ble_eq_true rfl⟩ (fun r2 u1 H locs h3 hP hD hS => ?_)
  obtain ⟨hxu, hxa, hx_mar, hx_tel, hx_gai, hx_fal, hx_day, hx_ali, hx_ans0, hx_ans1, hx_ans2, hx_ans3, hx_top, hx_str, hx_gho, hx_ghs, hx_pto, hx_wal, hx_few, hx_doo, hx_byt, hx_mos, hx_wev, hx_aga, hx_apa, hx_lin, hx_agr0, hx_agr1, hx_agr2, hx_agr3, hxs⟩ := h3
  refine lv_pop hx hb dL_law_599 rfl ?_
  refine lv_aload_n hx hb dL_law_600 rfl (lv_at hl 2 rfl) ?_
  refine lwM (As := []) (rest := []) ⟨hx, hb, hml, hown, hts⟩ (kU_X10_erase l dC dI cI cZ cQ v hv _ ma hma) (cwV 0 hts gL_law_X10_erase rfl rfl rfl (by decide +kernel) ⟨Nat.le_of_ble_eq_true rfl, Nat.le_of_ble_eq_true rfl⟩) hP hD hS hK hN hma rfl hl.1 rfl (Nat.le_of_ble_eq_true rfl) dL_law_601 ⟨Nat.le_of_ble_eq_true rfl, Nat.le_of_ble_eq_true rfl⟩ (fun r5 u4 H locs h6 hP hD hS => ?_)
  obtain ⟨hmu, hma, hm_mar, hm_tel, hm_gai, hm_fal, hm_day, hm_ali, hm_ans, hm_top, hm_str, hm_gho, hm_fai, hm_pto, hm_wal, hm_dA, hm_dB, hm_doo, hm_txt, hm_lne, hm_lin, hm_and, hm_anr, hms⟩ := h6
  refine lv_pop hx hb dL_law_604 rfl ?_
  refine lv_goto (tgt := 1248) hx hb dL_law_605 (by decide) ?_
  have hR0 := hR
  have hd := spEra_rel hR.2.2.2.2.2.2.2.2.2.2.2.1 hxs hms
  have hR2 : rel u1 u4 := ⟨(hx_mar.trans (hR0.1.trans hm_mar.symm)), (hx_tel.trans (hR0.2.1.trans hm_tel.symm)), (hx_gai.trans (hR0.2.2.1.trans hm_gai.symm)), (fun j hj => by rw [hx_fal, hm_fal]; exact hR0.2.2.2.1 j hj), (hx_day.trans (hR0.2.2.2.2.1.trans hm_day.symm)), (hx_ali.trans (hR0.2.2.2.2.2.1.trans hm_ali.symm)), (fun j hj => by rw [hx_ans0, hx_ans1, hx_ans2, hx_ans3, hm_ans]; exact hR0.2.2.2.2.2.2.1 j hj), (fun j hj => by rw [hx_top, hm_top]; exact hR0.2.2.2.2.2.2.2.1 j hj), (by rw [hx_top, hx_str, hx_gho, hx_ghs, hx_pto, hx_wal, hm_top, hm_str, hm_gho, hm_fai, hm_pto, hm_wal]; exact hR0.2.2.2.2.2.2.2.2.1), (by rw [hx_few, hx_doo, hm_dA, hm_dB, hm_doo]; exact hR0.2.2.2.2.2.2.2.2.2.1), (hx_byt.trans (hR0.2.2.2.2.2.2.2.2.2.2.1.trans hm_txt.symm)), hd.2, (by rw [hx_mos, hx_wev, hx_aga, hx_apa, hx_lin, hm_lne, hm_lin]; exact hR0.2.2.2.2.2.2.2.2.2.2.2.2.1), (by rw [hx_agr0, hx_agr1, hx_agr2, hx_agr3, hm_ans, hm_and, hm_anr]; exact hR0.2.2.2.2.2.2.2.2.2.2.2.2.2)⟩
  exact kk u1 u4 _ _ ⟨hxu, hmu, hxa, hma, hR2, hP, hD, hS⟩
set_option maxHeartbeats 4000000 in
set_option maxRecDepth 100000 in
theorem lc_14 {p : Program} {l : Launch} {e : Env} {s : State} {m : MethodId} {below : List Frame} {meth : Method} {c : Code} {b L : Nat} {xs : Nat → Int32} {dC : Nat → ClassId} {dI : Nat → Nat → Nat} {cI cZ cQ : ClassId} {ak av : Nat → Nat} {xa ma : Nat} (K : LC p s m meth c b L xs dC dI cI cZ cQ ak av) (hL : L ≤ 2560) (y : Int32) (hy0 : 0 ≤ y.toInt) (hy1 : y.toInt ≤ (L : Int) - 5) (u v : US) (H : Heap) (locs : List Loc) (I : LI dC dI cI cZ cQ s xa ma u v H locs) (ls : Array Slot) (hl : lv_has ls 4 [(0, .ref b), (1, .ref xa), (2, .ref ma), (3, .int y)]) (kk : ∀ (u v : US) (H : Heap) (locs : List Loc), LI dC dI cI cZ cQ s xa ma u v H locs → W p l e room_1 s m #[Value.ref b] below meth c H locs 76 4711 (lw_Z below #[Value.ref b] s) (F0 m 1248 ls [])) : W p l e room_1 s m #[Value.ref b] below meth c H locs 76 4711 (lw_Z below #[Value.ref b] s) (F0 m 608 ls []) := by
  obtain ⟨hx, hb, hml, hown, hts, hX, hbl, hK, hN, hSV⟩ := K
  obtain ⟨hu, hv, hxa, hma, hR, hP, hD, hS⟩ := I
  have hbA : ¬ AL s b := Nat.not_le.mpr hbl
  refine lv_aload_n hx hb dL_law_608 rfl (lv_at hl 1 rfl) ?_
  refine lwP (As := []) (rest := []) ⟨hx, hb, hml, hown, hts⟩ (kU_X9_fault l dC dI cI cZ cQ ak av u hu _ xa hxa) (cwV 0 hts gL_law_X9_fault rfl rfl rfl (by decide +kernel) ⟨Nat.le_of_ble_eq_true rfl, Nat.le_of_ble_eq_true rfl⟩) hSV hP hD hS hK hN hxa rfl hl.1 rfl (Nat.le_of_ble_eq_true rfl) dL_law_609 ⟨Nat.le_of_ble_eq_true rfl, Nat.le_of_ble_eq_true rfl⟩ (fun r2 u1 H locs h3 hP hD hS => ?_)
  obtain ⟨hxu, hxa, hx_mar, hx_tel, hx_gai, hx_fal, hx_day, hx_ali, hx_ans0, hx_ans1, hx_ans2, hx_ans3, hx_top, hx_str, hx_gho, hx_ghs, hx_pto, hx_wal, hx_few, hx_doo, hx_byt, hx_len, hx_mos, hx_wev, hx_aga, hx_apa, hx_lin, hx_agr0, hx_agr1, hx_agr2, hx_agr3, hxs⟩ := h3
  refine lv_pop hx hb dL_law_612 rfl ?_
  refine lv_aload_n hx hb dL_law_613 rfl (lv_at hl 2 rfl) ?_
  refine lwM (As := []) (rest := []) ⟨hx, hb, hml, hown, hts⟩ (kU_X10_fault l dC dI cI cZ cQ v hv _ ma hma) (cwV 0 hts gL_law_X10_fault rfl rfl rfl (by decide +kernel) ⟨Nat.le_of_ble_eq_true rfl, Nat.le_of_ble_eq_true rfl⟩) hP hD hS hK hN hma rfl hl.1 rfl (Nat.le_of_ble_eq_true rfl) dL_law_614 ⟨Nat.le_of_ble_eq_true rfl, Nat.le_of_ble_eq_true rfl⟩ (fun r5 u4 H locs h6 hP hD hS => ?_)
  obtain ⟨hmu, hma, hm_mar, hm_tel, hm_gai, hm_fal, hm_day, hm_ali, hm_ans, hm_top, hm_str, hm_gho, hm_fai, hm_pto, hm_wal, hm_dA, hm_dB, hm_doo, hm_txt, hm_byt, hm_lne, hm_lin, hm_and, hm_anr, hms⟩ := h6
  refine lv_pop hx hb dL_law_617 rfl ?_
  refine lv_goto (tgt := 1248) hx hb dL_law_618 (by decide) ?_
  have hR0 := hR
  have hd := spFlt_rel hR.2.2.2.2.2.2.2.2.2.2.1 hR.2.2.2.2.2.2.2.2.2.2.2.1 hxs hms
  have hR2 : rel u1 u4 := ⟨(hx_mar.trans (hR0.1.trans hm_mar.symm)), (hx_tel.trans (hR0.2.1.trans hm_tel.symm)), (hx_gai.trans (hR0.2.2.1.trans hm_gai.symm)), (fun j hj => by rw [hx_fal, hm_fal]; exact hR0.2.2.2.1 j hj), (hx_day.trans (hR0.2.2.2.2.1.trans hm_day.symm)), (hx_ali.trans (hR0.2.2.2.2.2.1.trans hm_ali.symm)), (fun j hj => by rw [hx_ans0, hx_ans1, hx_ans2, hx_ans3, hm_ans]; exact hR0.2.2.2.2.2.2.1 j hj), (fun j hj => by rw [hx_top, hm_top]; exact hR0.2.2.2.2.2.2.2.1 j hj), (by rw [hx_top, hx_str, hx_gho, hx_ghs, hx_pto, hx_wal, hm_top, hm_str, hm_gho, hm_fai, hm_pto, hm_wal]; exact hR0.2.2.2.2.2.2.2.2.1), (by rw [hx_few, hx_doo, hm_dA, hm_dB, hm_doo]; exact hR0.2.2.2.2.2.2.2.2.2.1), (hx_byt.trans (hR0.2.2.2.2.2.2.2.2.2.2.1.trans hm_txt.symm)), (hx_len.trans (hR0.2.2.2.2.2.2.2.2.2.2.2.1.trans hm_byt.symm)), (by rw [hx_mos, hx_wev, hx_aga, hx_apa, hx_lin, hm_lne, hm_lin]; exact hR0.2.2.2.2.2.2.2.2.2.2.2.2.1), (by rw [hx_agr0, hx_agr1, hx_agr2, hx_agr3, hm_ans, hm_and, hm_anr]; exact hR0.2.2.2.2.2.2.2.2.2.2.2.2.2)⟩
  exact kk u1 u4 _ _ ⟨hxu, hmu, hxa, hma, hR2, hP, hD, hS⟩
set_option maxHeartbeats 4000000 in
set_option maxRecDepth 100000 in
theorem lc_15 {p : Program} {l : Launch} {e : Env} {s : State} {m : MethodId} {below : List Frame} {meth : Method} {c : Code} {b L : Nat} {xs : Nat → Int32} {dC : Nat → ClassId} {dI : Nat → Nat → Nat} {cI cZ cQ : ClassId} {ak av : Nat → Nat} {xa ma : Nat} (K : LC p s m meth c b L xs dC dI cI cZ cQ ak av) (hL : L ≤ 2560) (y : Int32) (hy0 : 0 ≤ y.toInt) (hy1 : y.toInt ≤ (L : Int) - 5) (u v : US) (H : Heap) (locs : List Loc) (I : LI dC dI cI cZ cQ s xa ma u v H locs) (ls : Array Slot) (hl : lv_has ls 4 [(0, .ref b), (1, .ref xa), (2, .ref ma), (3, .int y)]) (kk : ∀ (u v : US) (H : Heap) (locs : List Loc), LI dC dI cI cZ cQ s xa ma u v H locs → W p l e room_1 s m #[Value.ref b] below meth c H locs 76 4711 (lw_Z below #[Value.ref b] s) (F0 m 1248 ls [])) : W p l e room_1 s m #[Value.ref b] below meth c H locs 76 4711 (lw_Z below #[Value.ref b] s) (F0 m 621 ls []) := by
  obtain ⟨hx, hb, hml, hown, hts, hX, hbl, hK, hN, hSV⟩ := K
  obtain ⟨hu, hv, hxa, hma, hR, hP, hD, hS⟩ := I
  have hbA : ¬ AL s b := Nat.not_le.mpr hbl
  refine lv_aload_n hx hb dL_law_621 rfl (lv_at hl 1 rfl) ?_
  refine lwP (As := []) (rest := []) ⟨hx, hb, hml, hown, hts⟩ (kU_X9_rules l dC dI cI cZ cQ ak av u hu _ xa hxa) (cwV 0 hts gL_law_X9_rules rfl rfl rfl (by decide +kernel) ⟨Nat.le_of_ble_eq_true rfl, Nat.le_of_ble_eq_true rfl⟩) hSV hP hD hS hK hN hxa rfl hl.1 rfl (Nat.le_of_ble_eq_true rfl) dL_law_622 ⟨Nat.le_of_ble_eq_true rfl, Nat.le_of_ble_eq_true rfl⟩ (fun r2 u1 H locs h3 hP hD hS => ?_)
  obtain ⟨hxu, hxa, hx_mar, hx_tel, hx_gai, hx_fal, hx_day, hx_ali, hx_ans0, hx_ans1, hx_ans2, hx_ans3, hx_top, hx_str, hx_gho, hx_ghs, hx_pto, hx_wal, hx_few, hx_doo, hx_byt, hx_agr0, hx_agr1, hx_agr2, hx_agr3, hxs⟩ := h3
  refine lv_pop hx hb dL_law_625 rfl ?_
  refine lv_aload_n hx hb dL_law_626 rfl (lv_at hl 2 rfl) ?_
  refine lwM (As := []) (rest := []) ⟨hx, hb, hml, hown, hts⟩ (kU_X10_rules l dC dI cI cZ cQ v hv _ ma hma) (cwV 0 hts gL_law_X10_rules rfl rfl rfl (by decide +kernel) ⟨Nat.le_of_ble_eq_true rfl, Nat.le_of_ble_eq_true rfl⟩) hP hD hS hK hN hma rfl hl.1 rfl (Nat.le_of_ble_eq_true rfl) dL_law_627 ⟨Nat.le_of_ble_eq_true rfl, Nat.le_of_ble_eq_true rfl⟩ (fun r5 u4 H locs h6 hP hD hS => ?_)
  obtain ⟨hmu, hma, hm_mar, hm_tel, hm_gai, hm_fal, hm_day, hm_ali, hm_ans, hm_top, hm_str, hm_gho, hm_fai, hm_pto, hm_wal, hm_dA, hm_dB, hm_doo, hm_txt, hm_and, hm_anr, hms⟩ := h6
  refine lv_pop hx hb dL_law_630 rfl ?_
  refine lv_goto (tgt := 1248) hx hb dL_law_631 (by decide) ?_
  have hR0 := hR
  have hd := spRul_rel hR.2.2.2.2.2.2.2.2.2.2.1 hR.2.2.2.2.2.2.2.2.2.2.2.1 (hv.2.2.2.2.2.2.2.2.2.2.2.2.2.2.1) hR.2.2.2.2.2.2.2.2.2.2.2.2.1 hxs hms
  have hR2 : rel u1 u4 := ⟨(hx_mar.trans (hR0.1.trans hm_mar.symm)), (hx_tel.trans (hR0.2.1.trans hm_tel.symm)), (hx_gai.trans (hR0.2.2.1.trans hm_gai.symm)), (fun j hj => by rw [hx_fal, hm_fal]; exact hR0.2.2.2.1 j hj), (hx_day.trans (hR0.2.2.2.2.1.trans hm_day.symm)), (hx_ali.trans (hR0.2.2.2.2.2.1.trans hm_ali.symm)), (fun j hj => by rw [hx_ans0, hx_ans1, hx_ans2, hx_ans3, hm_ans]; exact hR0.2.2.2.2.2.2.1 j hj), (fun j hj => by rw [hx_top, hm_top]; exact hR0.2.2.2.2.2.2.2.1 j hj), (by rw [hx_top, hx_str, hx_gho, hx_ghs, hx_pto, hx_wal, hm_top, hm_str, hm_gho, hm_fai, hm_pto, hm_wal]; exact hR0.2.2.2.2.2.2.2.2.1), (by rw [hx_few, hx_doo, hm_dA, hm_dB, hm_doo]; exact hR0.2.2.2.2.2.2.2.2.2.1), (hx_byt.trans (hR0.2.2.2.2.2.2.2.2.2.2.1.trans hm_txt.symm)), hd.2.1, hd.2.2, (by rw [hx_agr0, hx_agr1, hx_agr2, hx_agr3, hm_ans, hm_and, hm_anr]; exact hR0.2.2.2.2.2.2.2.2.2.2.2.2.2)⟩
  exact kk u1 u4 _ _ ⟨hxu, hmu, hxa, hma, hR2, hP, hD, hS⟩
