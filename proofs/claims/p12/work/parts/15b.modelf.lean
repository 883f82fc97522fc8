set_option maxRecDepth 20000 in
theorem ggX10_right_X10_isCorner : GoodIn wsX10_right wsX10_isCorner := goodIn_r _ [9, 10, 11, 8, 12] rfl (by decide +kernel)
set_option maxRecDepth 20000 in
theorem gX10_right_X10_isCorner : GoodIn wsX10_right (va_wsS RX10 118 yX10_isCorner wsX10_isCorner) := goodIn_app (goodIn_of _ (by decide +kernel)) ggX10_right_X10_isCorner
set_option maxRecDepth 20000 in
theorem ggX10_right_X10_in : GoodIn wsX10_right wsX10_in := goodIn_r _ [12] rfl (by decide +kernel)
set_option maxRecDepth 20000 in
theorem gX10_right_X10_in : GoodIn wsX10_right (va_wsS RX10 93 yX10_in wsX10_in) := goodIn_app (goodIn_of _ (by decide +kernel)) ggX10_right_X10_in
set_option maxRecDepth 20000 in
theorem ggX10_right_X10_likeness : GoodIn wsX10_right wsX10_likeness := goodIn_r _ [16, 17, 18, 19, 20, 21, 22, 23, 24, 25, 26, 27, 28, 29, 30, 31, 32, 33, 34, 35, 36, 37, 38, 39, 40, 41, 42, 43, 44, 45, 46, 47, 48, 49, 50, 51, 52, 53, 54, 55, 56] rfl (by decide +kernel)
set_option maxRecDepth 20000 in
theorem gX10_right_X10_likeness : GoodIn wsX10_right (wsV RX10 115 RX10 yX10_likeness wsX10_likeness) := goodIn_app (goodIn_of _ (by decide +kernel)) ggX10_right_X10_likeness
theorem dX10_right_209 : decode cX10_right 209 = .ok (.ireturn, 1) := by decide +kernel
set_option maxRecDepth 20000 in
theorem ggX10_causes_X10_isCorner : GoodIn wsX10_causes wsX10_isCorner := goodIn_r _ [7, 8, 9, 6, 10] rfl (by decide +kernel)
set_option maxRecDepth 20000 in
theorem gX10_causes_X10_isCorner : GoodIn wsX10_causes (va_wsS RX10 118 yX10_isCorner wsX10_isCorner) := goodIn_app (goodIn_of _ (by decide +kernel)) ggX10_causes_X10_isCorner
set_option maxRecDepth 20000 in
theorem ggX10_causes_X10_isThing : GoodIn wsX10_causes wsX10_isThing := goodIn_r _ [13, 8, 9, 6, 10] rfl (by decide +kernel)
set_option maxRecDepth 20000 in
theorem gX10_causes_X10_isThing : GoodIn wsX10_causes (va_wsS RX10 112 yX10_isThing wsX10_isThing) := goodIn_app (goodIn_of _ (by decide +kernel)) ggX10_causes_X10_isThing
set_option maxRecDepth 20000 in
theorem ggX10_causes_X10_cornerOf : GoodIn wsX10_causes wsX10_cornerOf := goodIn_r _ [17, 1, 30, 31, 32, 33, 34, 35, 36, 37, 38, 39, 40, 41, 42, 43, 44, 45, 46, 47, 48, 49, 50, 51, 52, 53, 54, 55, 56, 57, 58, 59, 60, 61, 62, 63, 64, 65, 66, 67, 68] rfl (by decide +kernel)
set_option maxRecDepth 20000 in
theorem gX10_causes_X10_cornerOf : GoodIn wsX10_causes (wsV RX10 121 RX10 yX10_cornerOf wsX10_cornerOf) := goodIn_app (goodIn_of _ (by decide +kernel)) ggX10_causes_X10_cornerOf
set_option maxRecDepth 20000 in
theorem ggX10_causes_X10_likeness : GoodIn wsX10_causes wsX10_likeness := goodIn_r _ [21, 22, 30, 31, 32, 33, 34, 35, 36, 37, 38, 39, 40, 41, 42, 43, 44, 45, 46, 47, 48, 49, 50, 51, 52, 53, 54, 55, 56, 57, 58, 59, 60, 61, 62, 63, 64, 65, 66, 67, 68] rfl (by decide +kernel)
set_option maxRecDepth 20000 in
theorem gX10_causes_X10_likeness : GoodIn wsX10_causes (wsV RX10 115 RX10 yX10_likeness wsX10_likeness) := goodIn_app (goodIn_of _ (by decide +kernel)) ggX10_causes_X10_likeness
set_option maxRecDepth 20000 in
theorem ggX10_causes_X10_areJoined : GoodIn wsX10_causes wsX10_areJoined := goodIn_r _ [26, 27, 28, 29, 30, 31, 32, 33, 34, 35, 36, 37, 38, 39, 40, 41, 42, 43, 44, 45, 46, 47, 48, 49, 50, 51, 52, 53, 54, 55, 56, 57, 58, 59, 60, 61, 62, 63, 64, 65, 66, 67, 68] rfl (by decide +kernel)
set_option maxRecDepth 20000 in
theorem gX10_causes_X10_areJoined : GoodIn wsX10_causes (wsV RX10 104 RX10 yX10_areJoined wsX10_areJoined) := goodIn_app (goodIn_of _ (by decide +kernel)) ggX10_causes_X10_areJoined
set_option maxRecDepth 20000 in
theorem ggX10_asked_X10_isThing : GoodIn wsX10_asked wsX10_isThing := goodIn_r _ [4, 5, 6, 3, 7] rfl (by decide +kernel)
set_option maxRecDepth 20000 in
theorem gX10_asked_X10_isThing : GoodIn wsX10_asked (va_wsS RX10 112 yX10_isThing wsX10_isThing) := goodIn_app (goodIn_of _ (by decide +kernel)) ggX10_asked_X10_isThing
set_option maxRecDepth 20000 in
theorem ggX10_asked_X10_isRoom : GoodIn wsX10_asked wsX10_isRoom := goodIn_r _ [10, 5, 6, 3, 7] rfl (by decide +kernel)
set_option maxRecDepth 20000 in
theorem gX10_asked_X10_isRoom : GoodIn wsX10_asked (va_wsS RX10 100 yX10_isRoom wsX10_isRoom) := goodIn_app (goodIn_of _ (by decide +kernel)) ggX10_asked_X10_isRoom
set_option maxRecDepth 20000 in
theorem ggX10_asked_X10_cornerOf : GoodIn wsX10_asked wsX10_cornerOf := goodIn_r _ [14, 15, 24, 25, 26, 27, 28, 29, 30, 31, 32, 33, 34, 35, 36, 37, 38, 39, 40, 41, 42, 43, 44, 45, 46, 47, 48, 49, 50, 51, 52, 53, 54, 55, 56, 57, 58, 59, 60, 61, 62] rfl (by decide +kernel)
set_option maxRecDepth 20000 in
theorem gX10_asked_X10_cornerOf : GoodIn wsX10_asked (wsV RX10 121 RX10 yX10_cornerOf wsX10_cornerOf) := goodIn_app (goodIn_of _ (by decide +kernel)) ggX10_asked_X10_cornerOf
set_option maxRecDepth 20000 in
theorem ggX10_asked_X10_doorsTo : GoodIn wsX10_asked wsX10_doorsTo := goodIn_r _ [19, 20, 21, 22, 23, 24, 25, 26, 27, 28, 29, 30, 31, 32, 33, 34, 35, 36, 37, 38, 39, 40, 41, 42, 43, 44, 45, 46, 47, 48, 49, 50, 51, 52, 53, 54, 55, 56, 57, 58, 59, 60, 61, 62] rfl (by decide +kernel)
set_option maxRecDepth 20000 in
theorem gX10_asked_X10_doorsTo : GoodIn wsX10_asked (wsV RX10 108 RX10 yX10_doorsTo wsX10_doorsTo) := goodIn_app (goodIn_of _ (by decide +kernel)) ggX10_asked_X10_doorsTo
set_option maxRecDepth 20000 in
theorem ggX10_beside_X10_isThing : GoodIn wsX10_beside wsX10_isThing := goodIn_r _ [5, 6, 7, 4, 8] rfl (by decide +kernel)
set_option maxRecDepth 20000 in
theorem gX10_beside_X10_isThing : GoodIn wsX10_beside (va_wsS RX10 112 yX10_isThing wsX10_isThing) := goodIn_app (goodIn_of _ (by decide +kernel)) ggX10_beside_X10_isThing
set_option maxRecDepth 20000 in
theorem ggX10_beside_X10_in : GoodIn wsX10_beside wsX10_in := goodIn_r _ [8] rfl (by decide +kernel)
set_option maxRecDepth 20000 in
theorem gX10_beside_X10_in : GoodIn wsX10_beside (va_wsS RX10 93 yX10_in wsX10_in) := goodIn_app (goodIn_of _ (by decide +kernel)) ggX10_beside_X10_in
set_option maxRecDepth 20000 in
theorem ggX10_beside_X10_cornerOf : GoodIn wsX10_beside wsX10_cornerOf := goodIn_r _ [12, 1, 13, 14, 15, 16, 17, 18, 19, 20, 21, 22, 23, 24, 25, 26, 27, 28, 29, 30, 31, 32, 33, 34, 35, 36, 37, 38, 39, 40, 41, 42, 43, 44, 45, 46, 47, 48, 49, 50, 51] rfl (by decide +kernel)
set_option maxRecDepth 20000 in
theorem gX10_beside_X10_cornerOf : GoodIn wsX10_beside (wsV RX10 121 RX10 yX10_cornerOf wsX10_cornerOf) := goodIn_app (goodIn_of _ (by decide +kernel)) ggX10_beside_X10_cornerOf
set_option maxRecDepth 20000 in
theorem ggX10_answer_X10_isPupil : GoodIn wsX10_answer wsX10_isPupil := goodIn_r _ [7, 8, 9, 6, 10] rfl (by decide +kernel)
set_option maxRecDepth 20000 in
theorem gX10_answer_X10_isPupil : GoodIn wsX10_answer (va_wsS RX10 254 yX10_isPupil wsX10_isPupil) := goodIn_app (goodIn_of _ (by decide +kernel)) ggX10_answer_X10_isPupil
set_option maxRecDepth 20000 in
theorem ggX10_answer_X10_in : GoodIn wsX10_answer wsX10_in := goodIn_r _ [10] rfl (by decide +kernel)
set_option maxRecDepth 20000 in
theorem gX10_answer_X10_in : GoodIn wsX10_answer (va_wsS RX10 93 yX10_in wsX10_in) := goodIn_app (goodIn_of _ (by decide +kernel)) ggX10_answer_X10_in
theorem dX10_isRight_28 : decode cX10_isRight 28 = .ok (.ireturn, 1) := by decide +kernel
set_option maxRecDepth 20000 in
theorem ggX10_agrees_X10_isRight : GoodIn wsX10_agrees wsX10_isRight := goodIn_r _ [7] rfl (by decide +kernel)
set_option maxRecDepth 20000 in
theorem gX10_agrees_X10_isRight : GoodIn wsX10_agrees (va_wsS RX10 257 yX10_isRight wsX10_isRight) := goodIn_app (goodIn_of _ (by decide +kernel)) ggX10_agrees_X10_isRight
set_option maxRecDepth 20000 in
theorem ggX10_partsMost_X10_agrees : GoodIn wsX10_partsMost wsX10_agrees := goodIn_r _ [6, 1, 7, 8, 9, 10, 5, 11, 12, 13, 14, 15, 16, 17, 18, 19, 20, 21, 22, 23, 24, 25, 26, 27, 28, 29, 30, 31, 32, 33, 34, 35, 36, 37, 38, 39, 40, 41, 42, 43, 44, 45, 46, 47, 48, 49, 50] rfl (by decide +kernel)
set_option maxRecDepth 20000 in
theorem gX10_partsMost_X10_agrees : GoodIn wsX10_partsMost (wsV RX10 260 RX10 yX10_agrees wsX10_agrees) := goodIn_app (goodIn_of _ (by decide +kernel)) ggX10_partsMost_X10_agrees
set_option maxRecDepth 20000 in
theorem ggX10_partsMost_X10_isRight : GoodIn wsX10_partsMost wsX10_isRight := goodIn_r _ [11] rfl (by decide +kernel)
set_option maxRecDepth 20000 in
theorem gX10_partsMost_X10_isRight : GoodIn wsX10_partsMost (va_wsS RX10 257 yX10_isRight wsX10_isRight) := goodIn_app (goodIn_of _ (by decide +kernel)) ggX10_partsMost_X10_isRight
set_option maxRecDepth 20000 in
theorem ggX10_pupil_X10_isPupil : GoodIn wsX10_pupil wsX10_isPupil := goodIn_r _ [5, 6, 7, 4, 8] rfl (by decide +kernel)
set_option maxRecDepth 20000 in
theorem gX10_pupil_X10_isPupil : GoodIn wsX10_pupil (va_wsS RX10 254 yX10_isPupil wsX10_isPupil) := goodIn_app (goodIn_of _ (by decide +kernel)) ggX10_pupil_X10_isPupil
set_option maxRecDepth 20000 in
theorem ggX10_pupil_X10_in : GoodIn wsX10_pupil wsX10_in := goodIn_r _ [8] rfl (by decide +kernel)
set_option maxRecDepth 20000 in
theorem gX10_pupil_X10_in : GoodIn wsX10_pupil (va_wsS RX10 93 yX10_in wsX10_in) := goodIn_app (goodIn_of _ (by decide +kernel)) ggX10_pupil_X10_in
set_option maxRecDepth 20000 in
theorem ggX10_pupil_X10_agrees : GoodIn wsX10_pupil wsX10_agrees := goodIn_r _ [12, 1, 13, 14, 15, 16, 4, 17, 22, 23, 24, 25, 26, 27, 28, 29, 30, 31, 32, 33, 34, 35, 36, 37, 38, 39, 40, 41, 42, 43, 44, 45, 46, 47, 48, 49, 50, 51, 52, 53, 54, 55, 56, 57, 58, 59, 60] rfl (by decide +kernel)
set_option maxRecDepth 20000 in
theorem gX10_pupil_X10_agrees : GoodIn wsX10_pupil (wsV RX10 260 RX10 yX10_agrees wsX10_agrees) := goodIn_app (goodIn_of _ (by decide +kernel)) ggX10_pupil_X10_agrees
set_option maxRecDepth 20000 in
theorem ggX10_pupil_X10_partsMost : GoodIn wsX10_pupil wsX10_partsMost := goodIn_r _ [21, 1, 9, 10, 11, 4, 12, 13, 14, 15, 16, 17, 22, 23, 24, 25, 26, 27, 28, 29, 30, 31, 32, 33, 34, 35, 36, 37, 38, 39, 40, 41, 42, 43, 44, 45, 46, 47, 48, 49, 50, 51, 52, 53, 54, 55, 56, 57, 58, 59, 60] rfl (by decide +kernel)
set_option maxRecDepth 20000 in
theorem gX10_pupil_X10_partsMost : GoodIn wsX10_pupil (wsV RX10 263 RX10 yX10_partsMost wsX10_partsMost) := goodIn_app (goodIn_of _ (by decide +kernel)) ggX10_pupil_X10_partsMost
set_option maxRecDepth 20000 in
theorem ggX10_figures_X10_in : GoodIn wsX10_figures wsX10_in := goodIn_r _ [5] rfl (by decide +kernel)
set_option maxRecDepth 20000 in
theorem gX10_figures_X10_in : GoodIn wsX10_figures (va_wsS RX10 93 yX10_in wsX10_in) := goodIn_app (goodIn_of _ (by decide +kernel)) ggX10_figures_X10_in
set_option maxRecDepth 20000 in
theorem ggX10_enough_X10_in : GoodIn wsX10_enough wsX10_in := goodIn_r _ [4] rfl (by decide +kernel)
set_option maxRecDepth 20000 in
theorem gX10_enough_X10_in : GoodIn wsX10_enough (va_wsS RX10 93 yX10_in wsX10_in) := goodIn_app (goodIn_of _ (by decide +kernel)) ggX10_enough_X10_in
set_option maxRecDepth 20000 in
theorem ggX10_enough_X10_doorsTo : GoodIn wsX10_enough wsX10_doorsTo := goodIn_r _ [8, 9, 10, 11, 12, 19, 20, 21, 22, 23, 24, 25, 26, 27, 28, 29, 30, 31, 32, 33, 34, 35, 36, 37, 38, 39, 40, 41, 42, 43, 44, 45, 46, 47, 48, 49, 50, 51, 52, 53, 54, 55, 56, 57] rfl (by decide +kernel)
set_option maxRecDepth 20000 in
theorem gX10_enough_X10_doorsTo : GoodIn wsX10_enough (wsV RX10 108 RX10 yX10_doorsTo wsX10_doorsTo) := goodIn_app (goodIn_of _ (by decide +kernel)) ggX10_enough_X10_doorsTo
set_option maxRecDepth 20000 in
theorem ggX10_enough_X10_lastOf : GoodIn wsX10_enough wsX10_lastOf := goodIn_r _ [16, 17, 18, 19, 20, 21, 22, 23, 24, 25, 26, 27, 28, 29, 30, 31, 32, 33, 34, 35, 36, 37, 38, 39, 40, 41, 42, 43, 44, 45, 46, 47, 48, 49, 50, 51, 52, 53, 54, 55, 56, 57] rfl (by decide +kernel)
set_option maxRecDepth 20000 in
theorem gX10_enough_X10_lastOf : GoodIn wsX10_enough (wsV RX10 216 RX10 yX10_lastOf wsX10_lastOf) := goodIn_app (goodIn_of _ (by decide +kernel)) ggX10_enough_X10_lastOf
set_option maxRecDepth 20000 in
theorem ggX10_count_X10_standIn : GoodIn wsX10_count wsX10_standIn := goodIn_r _ [12, 4, 13, 14, 15, 16, 17, 18, 19, 20, 21, 22, 23, 24, 25, 26, 27, 28, 29, 30, 31, 32, 33, 34, 35, 36, 37, 38, 39, 40, 41, 42, 43, 44, 45, 46, 47, 48, 49, 50, 51] rfl (by decide +kernel)
set_option maxRecDepth 20000 in
theorem gX10_count_X10_standIn : GoodIn wsX10_count (wsV RX10 213 RX10 yX10_standIn wsX10_standIn) := goodIn_app (goodIn_of _ (by decide +kernel)) ggX10_count_X10_standIn
set_option maxHeartbeats 4000000 in
set_option maxRecDepth 100000 in
theorem k_X10_figures (l : Launch) (dC : Nat → ClassId) (dI : Nat → Nat → Nat) (cI cZ cQ : ClassId) (b : Nat → Nat) (mday : Int32) (mdoo : Int32) (mdA : Nat → Int32) (mdB : Nat → Int32) (mfar : Nat → Int32) (mmar : Nat → Int32) (mtel : Int32) (mgai : Int32) (mfal : Nat → Int32) (mtop : Nat → Int32) (mstr : Nat → Int32) (mgho : Nat → Int32) (mfai : Nat → Int32) (mpto : Nat → Int32) (mwal : Nat → Int32) (mahd : Nat → Int32) (mahf : Nat → Int32) (mcho : Nat → Int32) (mbes : Nat → Int32) (mbyt : Int32) (mtxt : Nat → Int32) (mpos : Int32) (mtka : Int32) (mtok : Int64) (mdig : Int32) (mnum : Int32) (mfau : Int32) (mrdm : Int32) (mrea : Nat → Int32) (mlin : Int32) (mlne : Nat → Int32) (mthg : Nat → Int32) (mord : Nat → Int32) (mbor : Nat → Int32) (mbsm : Int32) (mans : Nat → Int32) (mand : Nat → Int32) (manr : Nat → Int32) (mali : Nat → Int32) (sz : Nat) (x : Int32) (y : Int32) (v : Int32) (r_mday : 0 ≤ mday.toInt ∧ mday.toInt ≤ 400) (r_mdoo : 0 ≤ mdoo.toInt ∧ mdoo.toInt ≤ 14) (r_mdA : rg 14 (0) (7) mdA) (r_mdB : rg 14 (0) (7) mdB) (r_mmar : rg 24 (0) (255) mmar) (r_mgai : 0 ≤ mgai.toInt ∧ mgai.toInt ≤ 100) (r_mfal : rg 11 (0) (30) mfal) (r_mtop : rg 48 (-1) (23) mtop) (r_mstr : rg 48 (0) (100) mstr) (r_mgho : rg 48 (-1) (23) mgho) (r_mfai : rg 48 (0) (100) mfai) (r_mahd : rg 240 (0) (100) mahd) (r_mahf : rg 240 (0) (100) mahf) (r_mcho : rg 5 (-1) (9) mcho) (r_mbyt : 0 ≤ mbyt.toInt ∧ mbyt.toInt ≤ 160) (r_mpos : 0 ≤ mpos.toInt ∧ mpos.toInt ≤ 160) (r_mrdm : 0 ≤ mrdm.toInt ∧ mrdm.toInt ≤ 10) (r_mlin : 0 ≤ mlin.toInt ∧ mlin.toInt ≤ 10) (r_mthg : rg 8 (0) (31) mthg) (r_mord : rg 8 (-1) (8) mord) (r_mans : rg 4 (0) (12) mans) : KW l yX10_figures wsX10_figures { frames := 1, cells := 0, slots := 0, locals := 22 } (dC, dI) (TY cI cZ cQ) (wMod cI cZ cQ b mday mdoo mdA mdB mfar mmar mtel mgai mfal mtop mstr mgho mfai mpto mwal mahd mahf mcho mbes mbyt mtxt mpos mtka mtok mdig mnum mfau mrdm mrea mlin mlne mthg mord mbor mbsm mans mand manr mali) [.ref (b 39), .int x, .int y, .int v] sz 0 0 (fun (r : Int32) (u : US) => (spFig mali x y v r (u.1 0))) (fun u : US => (wMod cI cZ cQ b mday mdoo mdA mdB mfar mmar mtel mgai mfal mtop mstr mgho mfai mpto mwal mahd mahf mcho mbes mbyt mtxt mpos mtka mtok mdig mnum mfau mrdm mrea mlin mlne mthg mord mbor mbsm mans mand manr (u.1 0))) := by
  refine Met.ofW (cc := cX10_figures) (maxL := 5) (ret := (some .int)) (by decide) rfl ?_
  intro p e s m args below meth c s₁ B hml hv
  obtain ⟨rfl, hsz, hP, hK, hD0, hN⟩ := hv
  have hx := B.exec
  have hb := B.bytes
  have hr := B.returns
  have hts := atoms_spec (ws := wsX10_figures) B.pre
  have hown : s.vm.findClass RX10 = some m.cls := findClass_of_methodNamed B.named
  have hlocks := B.notSynchronized
  have lf90 := hts (.fieldLink RX10 90 "PalaceOfRoomsModel" "alike" "[I") (List.mem_cons_of_mem _ (List.mem_append_left _ (List.mem_of_getElem? (i := 0) rfl)))
  have inX10 : ∀ w ∈ wsX100, w ∈ wsX10_figures := fun w h => List.mem_cons_of_mem _ (List.mem_append_right _ h)
  subst hsz
  have hD := hD0.self (sz := s.heap.size)
  generalize hAe : va_A (wMod cI cZ cQ b mday mdoo mdA mdB mfar mmar mtel mgai mfal mtop mstr mgho mfai mpto mwal mahd mahf mcho mbes mbyt mtxt mpos mtka mtok mdig mnum mfau mrdm mrea mlin mlne mthg mord mbor mbsm mans mand manr mali) s.heap.size = A at hD ⊢
  have hA : ∀ q : Nat, s.heap.size ≤ q → A q := fun q h => by rw [← hAe]; exact Or.inr h
  have hS : va_S A s.heap s.heap [] := va_S.rf
  have hl := lv_entry ([.ref (b 39), .int x, .int y, .int v]) (n := 5) (Nat.le_of_ble_eq_true rfl)
  rw [lg_entry_eq]
  generalize (lg_sl ([.ref (b 39), .int x, .int y, .int v]) ++ List.replicate (5 - (lg_sl ([.ref (b 39), .int x, .int y, .int v])).length) Slot.unset).toArray = ls at hl ⊢
  have hl : lv_has ls 5 [(0, .ref (b 39)), (1, .int x), (2, .int y), (3, .int v)] := hl
  refine lv_iload_n hx hb dX10_figures_0 rfl (lv_at hl 1 rfl) ?_
  refine lv_iconst (v := 0) hx hb dX10_figures_1 (by decide) ?_
  refine lv_bipush (v := 9) hx hb dX10_figures_2 (by decide) ?_
  refine rdS (As := [.int x, .int 0, .int 9]) (rest := []) ⟨hx, hb, hml, hown, hts⟩ (k_X10_in l dC dI cI cZ cQ x (0 : Int32) (9 : Int32)) (va_cwS 3 hts gX10_figures_X10_in rfl rfl rfl (by decide +kernel) ⟨Nat.le_of_ble_eq_true rfl, Nat.le_of_ble_eq_true rfl⟩) hP hK hN [] rfl rfl hl.1 rfl (Nat.le_of_ble_eq_true rfl) dX10_figures_4 ⟨Nat.le_of_ble_eq_true rfl, Nat.le_of_ble_eq_true rfl⟩ (fun r1 h2 => ?_)
  have h2 : ((((r1 = 1) ∧ ((0) ≤ x.toInt) ∧ (x.toInt ≤ (9))) ∨ ((r1 = 0) ∧ (x.toInt < (0) ∨ (9) < x.toInt)))) := h2
  rcases h2 with (⟨rfl, h2_a0, h2_a1⟩ | ⟨rfl, h2_a0⟩)
  · refine lv_if_eq (tgt := 25) hx hb dX10_figures_7 (by decide) (fun c9 => absurd c9 (by decide)) (fun _ => ?_)
    refine lv_iload_n hx hb dX10_figures_10 rfl (lv_at hl 2 rfl) ?_
    refine lv_iconst (v := 0) hx hb dX10_figures_11 (by decide) ?_
    refine lv_bipush (v := 9) hx hb dX10_figures_12 (by decide) ?_
    refine rdS (As := [.int y, .int 0, .int 9]) (rest := []) ⟨hx, hb, hml, hown, hts⟩ (k_X10_in l dC dI cI cZ cQ y (0 : Int32) (9 : Int32)) (va_cwS 3 hts gX10_figures_X10_in rfl rfl rfl (by decide +kernel) ⟨Nat.le_of_ble_eq_true rfl, Nat.le_of_ble_eq_true rfl⟩) hP hK hN [] rfl rfl hl.1 rfl (Nat.le_of_ble_eq_true rfl) dX10_figures_14 ⟨Nat.le_of_ble_eq_true rfl, Nat.le_of_ble_eq_true rfl⟩ (fun r3 h4 => ?_)
    have h4 : ((((r3 = 1) ∧ ((0) ≤ y.toInt) ∧ (y.toInt ≤ (9))) ∨ ((r3 = 0) ∧ (y.toInt < (0) ∨ (9) < y.toInt)))) := h4
    rcases h4 with (⟨rfl, h4_a0, h4_a1⟩ | ⟨rfl, h4_a0⟩)
    · refine lv_if_eq (tgt := 25) hx hb dX10_figures_17 (by decide) (fun c9 => absurd c9 (by decide)) (fun _ => ?_)
      refine lv_iload_n hx hb dX10_figures_20 rfl (lv_at hl 1 rfl) ?_
      refine lv_iload_n hx hb dX10_figures_21 rfl (lv_at hl 2 rfl) ?_
      refine lv_icmp_ne (tgt := 28) hx hb dX10_figures_22 (by decide) (fun c5 => ?_) (fun c5 => ?_)
      · have dc5 : x.toInt ≠ y.toInt := neC rfl rfl c5
        refine lv_iload_n hx hb dX10_figures_28 rfl (lv_at hl 3 rfl) ?_
        refine lv_iconst (v := 0) hx hb dX10_figures_29 (by decide) ?_
        refine lv_bipush (v := 9) hx hb dX10_figures_30 (by decide) ?_
        refine rdS (As := [.int v, .int 0, .int 9]) (rest := []) ⟨hx, hb, hml, hown, hts⟩ (k_X10_in l dC dI cI cZ cQ v (0 : Int32) (9 : Int32)) (va_cwS 3 hts gX10_figures_X10_in rfl rfl rfl (by decide +kernel) ⟨Nat.le_of_ble_eq_true rfl, Nat.le_of_ble_eq_true rfl⟩) hP hK hN [] rfl rfl hl.1 rfl (Nat.le_of_ble_eq_true rfl) dX10_figures_32 ⟨Nat.le_of_ble_eq_true rfl, Nat.le_of_ble_eq_true rfl⟩ (fun r6 h7 => ?_)
        have h7 : ((((r6 = 1) ∧ ((0) ≤ v.toInt) ∧ (v.toInt ≤ (9))) ∨ ((r6 = 0) ∧ (v.toInt < (0) ∨ (9) < v.toInt)))) := h7
        rcases h7 with (⟨rfl, h7_a0, h7_a1⟩ | ⟨rfl, h7_a0⟩)
        · refine lv_if_ne (tgt := 41) hx hb dX10_figures_35 (by decide) (fun _ => ?_) (fun c9 => absurd c9 (by decide))
          refine lv_aload_n hx hb dX10_figures_41 rfl (lv_at hl 0 rfl) ?_
          refine va_get (D := (dC, dI)) (ci := 10) (v := .ref (b 38)) (C := RX10) (T := TX10) (N := 39) hx hb hts inX10 hown hK hP 0 rfl rfl 38 (by decide) lf90 (fun _ h9 => h9) rfl dX10_figures_42 ?_
          refine lv_bipush (v := 10) hx hb dX10_figures_45 (by decide) ?_
          refine lv_iload_n hx hb dX10_figures_47 rfl (lv_at hl 1 rfl) ?_
          refine lv_imul hx hb dX10_figures_48 ?_
          have f8 : (10 * x).toInt = (10) * (x.toInt) := mulC (show (10 : Int32).toInt = 10 from rfl) rfl (by omega) (by omega)
          refine lv_iload_n hx hb dX10_figures_49 rfl (lv_at hl 2 rfl) ?_
          refine lv_iadd hx hb dX10_figures_50 ?_
          have f9 : ((10 * x) + y).toInt = ((10) * (x.toInt)) + (y.toInt) := addC f8 rfl (by omega) (by omega)
          have b10 : vp_in ((10 * x) + y) 100 := inC f9 (by omega) (by omega)
          refine va_iald hx hb hK hP 25 0 rfl rfl b10 dX10_figures_51 ?_
          refine lv_topi (fun x11 ex11 => ?_)
          have ix11 : x11.toInt = (mali ((10 * x) + y).toNatClampNeg).toInt := by rw [ex11]
          refine lv_istore (lv' := [(4, .int x11), (0, .ref (b 39)), (1, .int x), (2, .int y), (3, .int v)]) hx hb dX10_figures_52 hl (by decide) rfl (fun ls hl => ?_)
          refine lv_aload_n hx hb dX10_figures_54 rfl (lv_at hl 1 rfl) ?_
          refine va_get (D := (dC, dI)) (ci := 10) (v := .ref (b 38)) (C := RX10) (T := TX10) (N := 39) hx hb hts inX10 hown hK hP 0 rfl rfl 38 (by decide) lf90 (fun _ h9 => h9) rfl dX10_figures_55 ?_
          refine lv_bipush (v := 10) hx hb dX10_figures_58 (by decide) ?_
          refine lv_iload_n hx hb dX10_figures_60 rfl (lv_at hl 2 rfl) ?_
          refine lv_imul hx hb dX10_figures_61 ?_
          have f12 : (10 * x).toInt = (10) * (x.toInt) := mulC (show (10 : Int32).toInt = 10 from rfl) rfl (by omega) (by omega)
          refine lv_iload_n hx hb dX10_figures_62 rfl (lv_at hl 3 rfl) ?_
          refine lv_iadd hx hb dX10_figures_63 ?_
          have f13 : ((10 * x) + y).toInt = ((10) * (x.toInt)) + (y.toInt) := addC f12 rfl (by omega) (by omega)
          refine lv_iload_n hx hb dX10_figures_64 rfl (lv_at hl 4 rfl) ?_
          have b14 : vp_in ((10 * x) + y) 100 := inC f13 (by omega) (by omega)
          refine va_iast hx hb hK hP hD hS 25 0 rfl rfl b14 dX10_figures_65 (fun H locs hP hD hS => ?_)
          obtain ⟨mali_u15, emali_u15⟩ : ∃ f : Nat → Int32, f = upd mali ((10 * x) + y).toNatClampNeg v := ⟨_, rfl⟩
          have hP : va_P (dC, dI) vwCl (wMod cI cZ cQ b mday mdoo mdA mdB mfar mmar mtel mgai mfal mtop mstr mgho mfai mpto mwal mahd mahf mcho mbes mbyt mtxt mpos mtka mtok mdig mnum mfau mrdm mrea mlin mlne mthg mord mbor mbsm mans mand manr mali_u15) H := by rw [emali_u15]; exact hP
          have hD : va_D A (wMod cI cZ cQ b mday mdoo mdA mdB mfar mmar mtel mgai mfal mtop mstr mgho mfai mpto mwal mahd mahf mcho mbes mbyt mtxt mpos mtka mtok mdig mnum mfau mrdm mrea mlin mlne mthg mord mbor mbsm mans mand manr mali_u15) := by rw [emali_u15]; exact hD
          refine lv_aload_n hx hb dX10_figures_66 rfl (lv_at hl 1 rfl) ?_
          refine va_get (D := (dC, dI)) (ci := 10) (v := .ref (b 38)) (C := RX10) (T := TX10) (N := 39) hx hb hts inX10 hown hK hP 0 rfl rfl 38 (by decide) lf90 (fun _ h9 => h9) rfl dX10_figures_67 ?_
          refine lv_bipush (v := 10) hx hb dX10_figures_70 (by decide) ?_
          refine lv_iload_n hx hb dX10_figures_72 rfl (lv_at hl 3 rfl) ?_
          refine lv_imul hx hb dX10_figures_73 ?_
          have f16 : (10 * y).toInt = (10) * (y.toInt) := mulC (show (10 : Int32).toInt = 10 from rfl) rfl (by omega) (by omega)
          refine lv_iload_n hx hb dX10_figures_74 rfl (lv_at hl 2 rfl) ?_
          refine lv_iadd hx hb dX10_figures_75 ?_
          have f17 : ((10 * y) + x).toInt = ((10) * (y.toInt)) + (x.toInt) := addC f16 rfl (by omega) (by omega)
          refine lv_iload_n hx hb dX10_figures_76 rfl (lv_at hl 4 rfl) ?_
          have b18 : vp_in ((10 * y) + x) 100 := inC f17 (by omega) (by omega)
          refine va_iast hx hb hK hP hD hS 25 0 rfl rfl b18 dX10_figures_77 (fun H locs hP hD hS => ?_)
          obtain ⟨mali_u19, emali_u19⟩ : ∃ f : Nat → Int32, f = upd mali_u15 ((10 * y) + x).toNatClampNeg v := ⟨_, rfl⟩
          have hP : va_P (dC, dI) vwCl (wMod cI cZ cQ b mday mdoo mdA mdB mfar mmar mtel mgai mfal mtop mstr mgho mfai mpto mwal mahd mahf mcho mbes mbyt mtxt mpos mtka mtok mdig mnum mfau mrdm mrea mlin mlne mthg mord mbor mbsm mans mand manr mali_u19) H := by rw [emali_u19]; exact hP
          have hD : va_D A (wMod cI cZ cQ b mday mdoo mdA mdB mfar mmar mtel mgai mfal mtop mstr mgho mfai mpto mwal mahd mahf mcho mbes mbyt mtxt mpos mtka mtok mdig mnum mfau mrdm mrea mlin mlne mthg mord mbor mbsm mans mand manr mali_u19) := by rw [emali_u19]; exact hD
          refine lv_iload hx hb dX10_figures_78 (lv_at hl 0 rfl) ?_
          exact W.iret (v := x11) hx hb hr (fun tq ht hW => ⟨⟨x11, (uS [mali_u19] 0 (fun _ => 0)), rfl, (show spFig mali x y v x11 mali_u19 from by (unfold spFig; subst_vars; first | exact Or.inl ⟨by omega, rfl, rfl⟩ | exact Or.inr (Or.inl ⟨by omega, by omega, by omega, by omega, rfl, rfl⟩) | exact Or.inr (Or.inr ⟨by omega, by omega, by omega, by omega, by (rw [clC (x := 10 * x + y) (X := x.toInt * 10 + y.toInt) (by omega)]), by (rw [clC (x := 10 * x + y) (X := x.toInt * 10 + y.toInt) (by omega), clC (x := 10 * y + x) (X := y.toInt * 10 + x.toInt) (by omega)])⟩))), by rw [ht]; exact hP, hD⟩, hS.F ht⟩) hS.2.2 dX10_figures_80
        · refine lv_if_ne (tgt := 41) hx hb dX10_figures_35 (by decide) (fun c9 => absurd (by decide) c9) (fun _ => ?_)
          refine lv_bipush (v := (-3)) hx hb dX10_figures_38 (by decide) ?_
          exact W.iret (v := (-3)) hx hb hr (fun tq ht hW => ⟨⟨(-3), (uS [mali] 0 (fun _ => 0)), rfl, (show spFig mali x y v ((-3) : Int32) mali from by (try rw [show ((-3) : Int32).toInt = (-3) from (show ((-3) : Int32).toInt = (-3) from rfl)]); (unfold spFig; subst_vars; first | exact Or.inl ⟨by omega, rfl, rfl⟩ | exact Or.inr (Or.inl ⟨by omega, by omega, by omega, by omega, rfl, rfl⟩) | exact Or.inr (Or.inr ⟨by omega, by omega, by omega, by omega, by (rw [clC (x := 10 * x + y) (X := x.toInt * 10 + y.toInt) (by omega)]), by (rw [clC (x := 10 * x + y) (X := x.toInt * 10 + y.toInt) (by omega), clC (x := 10 * y + x) (X := y.toInt * 10 + x.toInt) (by omega)])⟩))), by rw [ht]; exact hP, hD⟩, hS.F ht⟩) hS.2.2 dX10_figures_40
      · have dc5 : x.toInt = y.toInt := eqC rfl rfl c5
        refine lv_bipush (v := (-2)) hx hb dX10_figures_25 (by decide) ?_
        exact W.iret (v := (-2)) hx hb hr (fun tq ht hW => ⟨⟨(-2), (uS [mali] 0 (fun _ => 0)), rfl, (show spFig mali x y v ((-2) : Int32) mali from by (try rw [show ((-2) : Int32).toInt = (-2) from (show ((-2) : Int32).toInt = (-2) from rfl)]); (unfold spFig; subst_vars; first | exact Or.inl ⟨by omega, rfl, rfl⟩ | exact Or.inr (Or.inl ⟨by omega, by omega, by omega, by omega, rfl, rfl⟩) | exact Or.inr (Or.inr ⟨by omega, by omega, by omega, by omega, by (rw [clC (x := 10 * x + y) (X := x.toInt * 10 + y.toInt) (by omega)]), by (rw [clC (x := 10 * x + y) (X := x.toInt * 10 + y.toInt) (by omega), clC (x := 10 * y + x) (X := y.toInt * 10 + x.toInt) (by omega)])⟩))), by rw [ht]; exact hP, hD⟩, hS.F ht⟩) hS.2.2 dX10_figures_27
    · refine lv_if_eq (tgt := 25) hx hb dX10_figures_17 (by decide) (fun _ => ?_) (fun c9 => absurd (by decide) c9)
      refine lv_bipush (v := (-2)) hx hb dX10_figures_25 (by decide) ?_
      exact W.iret (v := (-2)) hx hb hr (fun tq ht hW => ⟨⟨(-2), (uS [mali] 0 (fun _ => 0)), rfl, (show spFig mali x y v ((-2) : Int32) mali from by (try rw [show ((-2) : Int32).toInt = (-2) from (show ((-2) : Int32).toInt = (-2) from rfl)]); (unfold spFig; subst_vars; first | exact Or.inl ⟨by omega, rfl, rfl⟩ | exact Or.inr (Or.inl ⟨by omega, by omega, by omega, by omega, rfl, rfl⟩) | exact Or.inr (Or.inr ⟨by omega, by omega, by omega, by omega, by (rw [clC (x := 10 * x + y) (X := x.toInt * 10 + y.toInt) (by omega)]), by (rw [clC (x := 10 * x + y) (X := x.toInt * 10 + y.toInt) (by omega), clC (x := 10 * y + x) (X := y.toInt * 10 + x.toInt) (by omega)])⟩))), by rw [ht]; exact hP, hD⟩, hS.F ht⟩) hS.2.2 dX10_figures_27
  · refine lv_if_eq (tgt := 25) hx hb dX10_figures_7 (by decide) (fun _ => ?_) (fun c9 => absurd (by decide) c9)
    refine lv_bipush (v := (-2)) hx hb dX10_figures_25 (by decide) ?_
    exact W.iret (v := (-2)) hx hb hr (fun tq ht hW => ⟨⟨(-2), (uS [mali] 0 (fun _ => 0)), rfl, (show spFig mali x y v ((-2) : Int32) mali from by (try rw [show ((-2) : Int32).toInt = (-2) from (show ((-2) : Int32).toInt = (-2) from rfl)]); (unfold spFig; subst_vars; first | exact Or.inl ⟨by omega, rfl, rfl⟩ | exact Or.inr (Or.inl ⟨by omega, by omega, by omega, by omega, rfl, rfl⟩) | exact Or.inr (Or.inr ⟨by omega, by omega, by omega, by omega, by (rw [clC (x := 10 * x + y) (X := x.toInt * 10 + y.toInt) (by omega)]), by (rw [clC (x := 10 * x + y) (X := x.toInt * 10 + y.toInt) (by omega), clC (x := 10 * y + x) (X := y.toInt * 10 + x.toInt) (by omega)])⟩))), by rw [ht]; exact hP, hD⟩, hS.F ht⟩) hS.2.2 dX10_figures_27

