theorem dX10_laid_78 : decode cX10_laid 78 = .ok (.getfield 71, 3) := by decide +kernel
theorem dX10_laid_81 : decode cX10_laid 81 = .ok (.iload 6, 2) := by decide +kernel
theorem dX10_laid_83 : decode cX10_laid 83 = .ok (.iaload, 1) := by decide +kernel
theorem dX10_laid_84 : decode cX10_laid 84 = .ok (.goto 10, 3) := by decide +kernel
theorem dX10_laid_87 : decode cX10_laid 87 = .ok (.aload_n 0, 1) := by decide +kernel
theorem dX10_laid_88 : decode cX10_laid 88 = .ok (.getfield 71, 3) := by decide +kernel
theorem dX10_laid_91 : decode cX10_laid 91 = .ok (.iload 7, 2) := by decide +kernel
theorem dX10_laid_93 : decode cX10_laid 93 = .ok (.iaload, 1) := by decide +kernel
theorem dX10_laid_94 : decode cX10_laid 94 = .ok (.istore 8, 2) := by decide +kernel
theorem dX10_laid_96 : decode cX10_laid 96 = .ok (.aload_n 0, 1) := by decide +kernel
theorem dX10_laid_97 : decode cX10_laid 97 = .ok (.getfield 71, 3) := by decide +kernel
theorem dX10_laid_100 : decode cX10_laid 100 = .ok (.iload 7, 2) := by decide +kernel
theorem dX10_laid_102 : decode cX10_laid 102 = .ok (.aload_n 0, 1) := by decide +kernel
theorem dX10_laid_103 : decode cX10_laid 103 = .ok (.getfield 71, 3) := by decide +kernel
theorem dX10_laid_106 : decode cX10_laid 106 = .ok (.iload 6, 2) := by decide +kernel
theorem dX10_laid_108 : decode cX10_laid 108 = .ok (.iaload, 1) := by decide +kernel
theorem dX10_laid_109 : decode cX10_laid 109 = .ok (.aload_n 0, 1) := by decide +kernel
theorem dX10_laid_110 : decode cX10_laid 110 = .ok (.getfield 71, 3) := by decide +kernel
theorem dX10_laid_113 : decode cX10_laid 113 = .ok (.iload 7, 2) := by decide +kernel
theorem dX10_laid_115 : decode cX10_laid 115 = .ok (.iaload, 1) := by decide +kernel
theorem dX10_laid_116 : decode cX10_laid 116 = .ok (.iadd, 1) := by decide +kernel
theorem dX10_laid_117 : decode cX10_laid 117 = .ok (.iload 8, 2) := by decide +kernel
theorem dX10_laid_119 : decode cX10_laid 119 = .ok (.isub, 1) := by decide +kernel
theorem dX10_laid_120 : decode cX10_laid 120 = .ok (.iastore, 1) := by decide +kernel
theorem dX10_laid_121 : decode cX10_laid 121 = .ok (.aload_n 0, 1) := by decide +kernel
theorem dX10_laid_122 : decode cX10_laid 122 = .ok (.getfield 71, 3) := by decide +kernel
theorem dX10_laid_125 : decode cX10_laid 125 = .ok (.iload 6, 2) := by decide +kernel
theorem dX10_laid_127 : decode cX10_laid 127 = .ok (.iload 8, 2) := by decide +kernel
theorem dX10_laid_129 : decode cX10_laid 129 = .ok (.iastore, 1) := by decide +kernel
theorem dX10_laid_130 : decode cX10_laid 130 = .ok (.iinc 7 1, 3) := by decide +kernel
theorem dX10_laid_133 : decode cX10_laid 133 = .ok (.goto (-79), 3) := by decide +kernel
theorem dX10_laid_136 : decode cX10_laid 136 = .ok (.iinc 6 1, 3) := by decide +kernel
theorem dX10_laid_139 : decode cX10_laid 139 = .ok (.goto (-97), 3) := by decide +kernel
theorem dX10_laid_142 : decode cX10_laid 142 = .ok (.aload_n 0, 1) := by decide +kernel
theorem dX10_laid_143 : decode cX10_laid 143 = .ok (.iload_n 3, 1) := by decide +kernel
theorem dX10_laid_144 : decode cX10_laid 144 = .ok (.iconst 1, 1) := by decide +kernel
theorem dX10_laid_145 : decode cX10_laid 145 = .ok (.invokevirtual 238, 3) := by decide +kernel
theorem dX10_laid_148 : decode cX10_laid 148 = .ok (.iload 4, 2) := by decide +kernel
theorem dX10_laid_150 : decode cX10_laid 150 = .ok (.iconst (-1), 1) := by decide +kernel
theorem dX10_laid_151 : decode cX10_laid 151 = .ok (.if_icmp .ne 10, 3) := by decide +kernel
theorem dX10_laid_154 : decode cX10_laid 154 = .ok (.aload_n 0, 1) := by decide +kernel
theorem dX10_laid_155 : decode cX10_laid 155 = .ok (.getfield 225, 3) := by decide +kernel
theorem dX10_laid_158 : decode cX10_laid 158 = .ok (.goto 20, 3) := by decide +kernel
theorem dX10_laid_161 : decode cX10_laid 161 = .ok (.iload 4, 2) := by decide +kernel
theorem dX10_laid_163 : decode cX10_laid 163 = .ok (.iload_n 3, 1) := by decide +kernel
theorem dX10_laid_164 : decode cX10_laid 164 = .ok (.if_icmp .ge 13, 3) := by decide +kernel
theorem dX10_laid_167 : decode cX10_laid 167 = .ok (.aload_n 0, 1) := by decide +kernel
theorem dX10_laid_168 : decode cX10_laid 168 = .ok (.getfield 77, 3) := by decide +kernel
theorem dX10_laid_171 : decode cX10_laid 171 = .ok (.iload 4, 2) := by decide +kernel
theorem dX10_laid_173 : decode cX10_laid 173 = .ok (.iaload, 1) := by decide +kernel
theorem dX10_laid_174 : decode cX10_laid 174 = .ok (.goto 4, 3) := by decide +kernel
theorem dX10_laid_177 : decode cX10_laid 177 = .ok (.iconst (-1), 1) := by decide +kernel
theorem dX10_laid_178 : decode cX10_laid 178 = .ok (.ireturn, 1) := by decide +kernel
set_option maxRecDepth 20000 in
theorem ggX10_code_X10_in : GoodIn wsX10_code wsX10_in := goodIn_r _ [6] rfl (by decide +kernel)
set_option maxRecDepth 20000 in
theorem gX10_code_X10_in : GoodIn wsX10_code (va_wsS RX10 93 yX10_in wsX10_in) := goodIn_app (goodIn_of _ (by decide +kernel)) ggX10_code_X10_in
set_option maxRecDepth 20000 in
theorem ggX10_code_X10_take : GoodIn wsX10_code wsX10_take := goodIn_r _ [10, 11, 12, 32, 33, 34, 35, 36, 37, 38, 39, 40, 41, 42, 43, 44, 45, 46, 47, 48, 49, 50, 51, 52, 53, 54, 55, 56, 57, 58, 59, 60, 61, 62, 63, 64, 65, 66, 67, 68, 69, 70] rfl (by decide +kernel)
set_option maxRecDepth 20000 in
theorem gX10_code_X10_take : GoodIn wsX10_code (wsV RX10 234 RX10 yX10_take wsX10_take) := goodIn_app (goodIn_of _ (by decide +kernel)) ggX10_code_X10_take
set_option maxRecDepth 20000 in
theorem ggX10_code_X10_findOrder : GoodIn wsX10_code wsX10_findOrder := goodIn_r _ [16, 1, 17, 2, 11, 18, 19, 20, 5, 21, 22, 23, 24, 25, 26, 27, 28, 29, 30, 31, 32, 33, 34, 35, 36, 37, 38, 39, 40, 41, 42, 43, 44, 45, 46, 47, 48, 49, 50, 51, 52, 53, 54, 55, 56, 57, 58, 59, 60, 61, 62, 63, 64, 65, 66, 67, 68, 69, 70] rfl (by decide +kernel)
set_option maxRecDepth 20000 in
theorem gX10_code_X10_findOrder : GoodIn wsX10_code (wsV RX10 238 RX10 yX10_findOrder wsX10_findOrder) := goodIn_app (goodIn_of _ (by decide +kernel)) ggX10_code_X10_findOrder
theorem dX10_code_0 : decode cX10_code 0 = .ok (.iload_n 3, 1) := by decide +kernel
theorem dX10_code_1 : decode cX10_code 1 = .ok (.iconst 2, 1) := by decide +kernel
theorem dX10_code_2 : decode cX10_code 2 = .ok (.bipush 6, 2) := by decide +kernel
theorem dX10_code_4 : decode cX10_code 4 = .ok (.invokestatic 93, 3) := by decide +kernel
theorem dX10_code_7 : decode cX10_code 7 = .ok (.ifCond .ne 6, 3) := by decide +kernel
theorem dX10_code_10 : decode cX10_code 10 = .ok (.bipush (-3), 2) := by decide +kernel
theorem dX10_code_12 : decode cX10_code 12 = .ok (.ireturn, 1) := by decide +kernel
theorem dX10_code_13 : decode cX10_code 13 = .ok (.aload_n 0, 1) := by decide +kernel
theorem dX10_code_14 : decode cX10_code 14 = .ok (.lload_n 1, 1) := by decide +kernel
theorem dX10_code_15 : decode cX10_code 15 = .ok (.iload_n 3, 1) := by decide +kernel
theorem dX10_code_16 : decode cX10_code 16 = .ok (.invokevirtual 234, 3) := by decide +kernel
theorem dX10_code_19 : decode cX10_code 19 = .ok (.istore 5, 2) := by decide +kernel
theorem dX10_code_21 : decode cX10_code 21 = .ok (.iload 5, 2) := by decide +kernel
theorem dX10_code_23 : decode cX10_code 23 = .ok (.iconst 1, 1) := by decide +kernel
theorem dX10_code_24 : decode cX10_code 24 = .ok (.if_icmp .eq 6, 3) := by decide +kernel
theorem dX10_code_27 : decode cX10_code 27 = .ok (.iload 5, 2) := by decide +kernel
theorem dX10_code_29 : decode cX10_code 29 = .ok (.ireturn, 1) := by decide +kernel
theorem dX10_code_30 : decode cX10_code 30 = .ok (.iload 4, 2) := by decide +kernel
theorem dX10_code_32 : decode cX10_code 32 = .ok (.iconst (-1), 1) := by decide +kernel
theorem dX10_code_33 : decode cX10_code 33 = .ok (.if_icmp .ge 6, 3) := by decide +kernel
theorem dX10_code_36 : decode cX10_code 36 = .ok (.bipush (-3), 2) := by decide +kernel
theorem dX10_code_38 : decode cX10_code 38 = .ok (.ireturn, 1) := by decide +kernel
theorem dX10_code_39 : decode cX10_code 39 = .ok (.aload_n 0, 1) := by decide +kernel
theorem dX10_code_40 : decode cX10_code 40 = .ok (.iload_n 3, 1) := by decide +kernel
theorem dX10_code_41 : decode cX10_code 41 = .ok (.iconst 0, 1) := by decide +kernel
theorem dX10_code_42 : decode cX10_code 42 = .ok (.invokevirtual 238, 3) := by decide +kernel
theorem dX10_code_45 : decode cX10_code 45 = .ok (.iload 4, 2) := by decide +kernel
theorem dX10_code_47 : decode cX10_code 47 = .ok (.iconst (-1), 1) := by decide +kernel
theorem dX10_code_48 : decode cX10_code 48 = .ok (.if_icmp .ne 10, 3) := by decide +kernel
theorem dX10_code_51 : decode cX10_code 51 = .ok (.aload_n 0, 1) := by decide +kernel
theorem dX10_code_52 : decode cX10_code 52 = .ok (.getfield 225, 3) := by decide +kernel
theorem dX10_code_55 : decode cX10_code 55 = .ok (.goto 20, 3) := by decide +kernel
theorem dX10_code_58 : decode cX10_code 58 = .ok (.iload 4, 2) := by decide +kernel
theorem dX10_code_60 : decode cX10_code 60 = .ok (.iload_n 3, 1) := by decide +kernel
theorem dX10_code_61 : decode cX10_code 61 = .ok (.if_icmp .ge 13, 3) := by decide +kernel
theorem dX10_code_64 : decode cX10_code 64 = .ok (.aload_n 0, 1) := by decide +kernel
theorem dX10_code_65 : decode cX10_code 65 = .ok (.getfield 77, 3) := by decide +kernel
theorem dX10_code_68 : decode cX10_code 68 = .ok (.iload 4, 2) := by decide +kernel
theorem dX10_code_70 : decode cX10_code 70 = .ok (.iaload, 1) := by decide +kernel
theorem dX10_code_71 : decode cX10_code 71 = .ok (.goto 4, 3) := by decide +kernel
theorem dX10_code_74 : decode cX10_code 74 = .ok (.iconst (-1), 1) := by decide +kernel
theorem dX10_code_75 : decode cX10_code 75 = .ok (.ireturn, 1) := by decide +kernel
set_option maxHeartbeats 4000000 in
set_option maxRecDepth 100000 in
theorem k_X10_take (l : Launch) (dC : Nat → ClassId) (dI : Nat → Nat → Nat) (cI cZ cQ : ClassId) (b : Nat → Nat) (mday : Int32) (mdoo : Int32) (mdA : Nat → Int32) (mdB : Nat → Int32) (mfar : Nat → Int32) (mmar : Nat → Int32) (mtel : Int32) (mgai : Int32) (mfal : Nat → Int32) (mtop : Nat → Int32) (mstr : Nat → Int32) (mgho : Nat → Int32) (mfai : Nat → Int32) (mpto : Nat → Int32) (mwal : Nat → Int32) (mahd : Nat → Int32) (mahf : Nat → Int32) (mcho : Nat → Int32) (mbes : Nat → Int32) (mbyt : Int32) (mtxt : Nat → Int32) (mpos : Int32) (mtka : Int32) (mtok : Int64) (mdig : Int32) (mnum : Int32) (mfau : Int32) (mrdm : Int32) (mrea : Nat → Int32) (mlin : Int32) (mlne : Nat → Int32) (mthg : Nat → Int32) (mord : Nat → Int32) (mbor : Nat → Int32) (mbsm : Int32) (mans : Nat → Int32) (mand : Nat → Int32) (manr : Nat → Int32) (mali : Nat → Int32) (sz : Nat) (row : Int64) (n : Int32) (r_mday : 0 ≤ mday.toInt ∧ mday.toInt ≤ 400) (r_mdoo : 0 ≤ mdoo.toInt ∧ mdoo.toInt ≤ 14) (r_mdA : rg 14 (0) (7) mdA) (r_mdB : rg 14 (0) (7) mdB) (r_mmar : rg 24 (0) (255) mmar) (r_mgai : 0 ≤ mgai.toInt ∧ mgai.toInt ≤ 100) (r_mfal : rg 11 (0) (30) mfal) (r_mtop : rg 48 (-1) (23) mtop) (r_mstr : rg 48 (0) (100) mstr) (r_mgho : rg 48 (-1) (23) mgho) (r_mfai : rg 48 (0) (100) mfai) (r_mahd : rg 240 (0) (100) mahd) (r_mahf : rg 240 (0) (100) mahf) (r_mcho : rg 5 (-1) (9) mcho) (r_mbyt : 0 ≤ mbyt.toInt ∧ mbyt.toInt ≤ 160) (r_mpos : 0 ≤ mpos.toInt ∧ mpos.toInt ≤ 160) (r_mrdm : 0 ≤ mrdm.toInt ∧ mrdm.toInt ≤ 10) (r_mlin : 0 ≤ mlin.toInt ∧ mlin.toInt ≤ 10) (r_mthg : rg 8 (0) (31) mthg) (r_mord : rg 8 (-1) (8) mord) (r_mans : rg 4 (0) (12) mans) (q0 : 1 ≤ n.toInt) (q1 : n.toInt ≤ 8) : KW l yX10_take wsX10_take { frames := 0, cells := 0, slots := 0, locals := 0 } (dC, dI) (TY cI cZ cQ) (wMod cI cZ cQ b mday mdoo mdA mdB mfar mmar mtel mgai mfal mtop mstr mgho mfai mpto mwal mahd mahf mcho mbes mbyt mtxt mpos mtka mtok mdig mnum mfau mrdm mrea mlin mlne mthg mord mbor mbsm mans mand manr mali) [.ref (b 39), .long row, .int n] sz 0 0 (fun (r : Int32) (u : US) => ((((r = 1) ∧ (∀ j : Nat, (j : Int) < n.toInt → ((u.1 0) j).toInt ≤ 23)) ∨ ((r = (-2))) ∨ ((r = (-3))))) ∧ (rg 8 (0) (31) (u.1 0))) (fun u : US => (wMod cI cZ cQ b mday mdoo mdA mdB mfar mmar mtel mgai mfal mtop mstr mgho mfai mpto mwal mahd mahf mcho mbes mbyt mtxt mpos mtka mtok mdig mnum mfau mrdm mrea mlin mlne (u.1 0) mord mbor mbsm mans mand manr mali)) := by
  refine Met.ofW (cc := cX10_take) (maxL := 7) (ret := (some .int)) (by decide) rfl ?_
  intro p e s m args below meth c s₁ B hml hv
  obtain ⟨rfl, hsz, hP, hK, hD0, hN⟩ := hv
  have hx := B.exec
  have hb := B.bytes
  have hr := B.returns
  have hts := atoms_spec (ws := wsX10_take) B.pre
  have hown : s.vm.findClass RX10 = some m.cls := findClass_of_methodNamed B.named
  have hlocks := B.notSynchronized
  have lf71 := hts (.fieldLink RX10 71 "PalaceOfRoomsModel" "things" "[I") (by decide +kernel)
  have inX10 : ∀ w ∈ wsX100, w ∈ wsX10_take := by decide +kernel
  subst hsz
  have hD := hD0.self (sz := s.heap.size)
  generalize hAe : va_A (wMod cI cZ cQ b mday mdoo mdA mdB mfar mmar mtel mgai mfal mtop mstr mgho mfai mpto mwal mahd mahf mcho mbes mbyt mtxt mpos mtka mtok mdig mnum mfau mrdm mrea mlin mlne mthg mord mbor mbsm mans mand manr mali) s.heap.size = A at hD ⊢
  have hA : ∀ q : Nat, s.heap.size ≤ q → A q := fun q h => by rw [← hAe]; exact Or.inr h
  have hS : va_S A s.heap s.heap [] := va_S.rf
  have hl := lv_entry ([.ref (b 39), .long row, .int n]) (n := 7) (Nat.le_of_ble_eq_true rfl)
  rw [lg_entry_eq]
  generalize (lg_sl ([.ref (b 39), .long row, .int n]) ++ List.replicate (7 - (lg_sl ([.ref (b 39), .long row, .int n])).length) Slot.unset).toArray = ls at hl ⊢
  have hl : lv_has ls 7 [(0, .ref (b 39)), (1, .long row), (3, .int n)] := hl
  refine lv_iconst (v := 0) hx hb dX10_take_0 (by decide) ?_
  refine lv_istore (lv' := [(4, .int 0), (0, .ref (b 39)), (1, .long row), (3, .int n)]) hx hb dX10_take_1 hl (by decide) rfl (fun ls hl => ?_)
  refine lv_iconst (v := 0) hx hb dX10_take_3 (by decide) ?_
  refine lv_istore (lv' := [(5, .int 0), (4, .int 0), (0, .ref (b 39)), (1, .long row), (3, .int n)]) hx hb dX10_take_4 hl (by decide) rfl (fun ls hl => ?_)
  refine lv_iconst (v := 0) hx hb dX10_take_6 (by decide) ?_
  refine lv_istore (lv' := [(6, .int 0), (5, .int 0), (4, .int 0), (0, .ref (b 39)), (1, .long row), (3, .int n)]) hx hb dX10_take_7 hl (by decide) rfl (fun ls hl => ?_)
  have L9 : ∀ (nn : Nat) (y9_4 : Int32) (y9_5 : Int32) (y9_6 : Int32) (mthg_9 : Nat → Int32) (H : Heap) (locs : List Loc) (ls : Array Slot), (rg 8 (0) (31) mthg_9) → (0 ≤ (y9_6.toInt)) → ((y9_6.toInt) ≤ 8) → (∀ j : Nat, (j : Int) < (y9_6.toInt) → (mthg_9 j).toInt ≤ 23) → (8 - (y9_6.toInt)).toNat < nn → va_P (dC, dI) vwCl (wMod cI cZ cQ b mday mdoo mdA mdB mfar mmar mtel mgai mfal mtop mstr mgho mfai mpto mwal mahd mahf mcho mbes mbyt mtxt mpos mtka mtok mdig mnum mfau mrdm mrea mlin mlne mthg_9 mord mbor mbsm mans mand manr mali) H → va_D A (wMod cI cZ cQ b mday mdoo mdA mdB mfar mmar mtel mgai mfal mtop mstr mgho mfai mpto mwal mahd mahf mcho mbes mbyt mtxt mpos mtka mtok mdig mnum mfau mrdm mrea mlin mlne mthg_9 mord mbor mbsm mans mand manr mali) → va_S A s.heap H locs → lv_has ls 7 [(0, .ref (b 39)), (1, .long row), (3, .int n), (4, .int y9_4), (5, .int y9_5), (6, .int y9_6)] → W p l e (headSpec wsX10_take { frames := 0, cells := 0, slots := 0, locals := 0 }).room s m ([.ref (b 39), .long row, .int n] : List Value).toArray below meth c H locs 0 0 (MQ below (va_Qi (fun (r : Int32) (u : US) => ((((r = 1) ∧ (∀ j : Nat, (j : Int) < n.toInt → ((u.1 0) j).toInt ≤ 23)) ∨ ((r = (-2))) ∨ ((r = (-3))))) ∧ (rg 8 (0) (31) (u.1 0))) (Bw (dC, dI) A (fun u : US => (wMod cI cZ cQ b mday mdoo mdA mdB mfar mmar mtel mgai mfal mtop mstr mgho mfai mpto mwal mahd mahf mcho mbes mbyt mtxt mpos mtka mtok mdig mnum mfau mrdm mrea mlin mlne (u.1 0) mord mbor mbsm mans mand manr mali))) A) ([.ref (b 39), .long row, .int n] : List Value).toArray s 0 0 A) (F0 m 9 ls []) := by
    intro nn
    induction nn with
    | zero =>
      intro y9_4 y9_5 y9_6 mthg_9 H locs ls r_mthg_9 i9_0 i9_1 i9_2 hm9
      exact absurd hm9 (Nat.not_lt_zero _)
    | succ nn ih9 =>
      intro y9_4 y9_5 y9_6 mthg_9 H locs ls r_mthg_9 i9_0 i9_1 i9_2 hm9 hP hD hS hl
      refine lv_iload hx hb dX10_take_9 (lv_at hl 5 rfl) ?_
      refine lv_iload_n hx hb dX10_take_11 rfl (lv_at hl 2 rfl) ?_
      refine lv_icmp_ge (tgt := 96) hx hb dX10_take_12 (by decide) (fun c1 => ?_) (fun c1 => ?_)
      · have dc1 : n.toInt ≤ y9_6.toInt := leC rfl rfl c1
        refine lv_iload hx hb dX10_take_96 (lv_at hl 4 rfl) ?_
        refine lv_if_eq (tgt := 106) hx hb dX10_take_98 (by decide) (fun c2 => ?_) (fun c2 => ?_)
        · have dc2 : y9_5.toInt = 0 := eqC rfl (show (0 : Int32).toInt = 0 from rfl) c2
          refine lv_iconst (v := 1) hx hb dX10_take_106 (by decide) ?_
          exact W.iret (v := 1) hx hb hr (fun tq ht hW => ⟨⟨1, (uS [mthg_9] 0 (fun _ => 0)), rfl, ⟨(Or.inl (⟨rfl, (show ∀ j : Nat, (j : Int) < n.toInt → (mthg_9 j).toInt ≤ 23 from by (try rw [show (1 : Int32).toInt = 1 from (show (1 : Int32).toInt = 1 from rfl)]); (intro j hj; exact i9_2 j (by omega)))⟩)), r_mthg_9⟩, by rw [ht]; exact hP, hD⟩, hS.F ht⟩) hS.2.2 dX10_take_107
        · have dc2 : y9_5.toInt ≠ 0 := neC rfl (show (0 : Int32).toInt = 0 from rfl) c2
          refine lv_bipush (v := (-3)) hx hb dX10_take_101 (by decide) ?_
          refine lv_goto (tgt := 107) hx hb dX10_take_103 (by decide) ?_
          exact W.iret (v := (-3)) hx hb hr (fun tq ht hW => ⟨⟨(-3), (uS [mthg_9] 0 (fun _ => 0)), rfl, ⟨(Or.inr (Or.inr rfl)), r_mthg_9⟩, by rw [ht]; exact hP, hD⟩, hS.F ht⟩) hS.2.2 dX10_take_107
      · have dc1 : y9_6.toInt < n.toInt := nleC rfl rfl c1
        refine lv_aload_n hx hb dX10_take_15 rfl (lv_at hl 0 rfl) ?_
        refine va_get (D := (dC, dI)) (ci := 10) (v := .ref (b 31)) (C := RX10) (T := TX10) (N := 39) hx hb hts inX10 hown hK hP 0 rfl rfl 31 (by decide) lf71 (fun _ h9 => h9) rfl dX10_take_16 ?_
        refine lv_iload hx hb dX10_take_19 (lv_at hl 5 rfl) ?_
        refine lv_lload_n hx hb dX10_take_21 rfl (lv_at hl 1 rfl) ?_
        refine lv_iconst (v := 5) hx hb dX10_take_22 (by decide) ?_
        refine lv_iload hx hb dX10_take_23 (lv_at hl 5 rfl) ?_
        refine lv_imul hx hb dX10_take_25 ?_
        have f3 : (5 * y9_6).toInt = (5) * (y9_6.toInt) := mulC (show (5 : Int32).toInt = 5 from rfl) rfl (by omega) (by omega)
        refine lv_lshr hx hb dX10_take_26 rfl ?_
        refine lv_ldc2 (v := 31) hx hb hown (hts (.constantLong RX10 223 (31)) (by decide +kernel)) dX10_take_27 ?_
        refine lv_land hx hb dX10_take_30 ?_
        refine lv_l2i hx hb dX10_take_31 rfl ?_
        have f4 : 0 ≤ (((row >>> ((5 * y9_6).toInt64 &&& 63)) &&& 31).toInt32).toInt ∧ (((row >>> ((5 * y9_6).toInt64 &&& 63)) &&& 31).toInt32).toInt ≤ 31 := l2iM31 _
        refine lv_topi (fun x5 ex5 => ?_)
        have ix5 : x5.toInt = (((row >>> ((5 * y9_6).toInt64 &&& 63)) &&& 31).toInt32).toInt := by rw [ex5]
        have b6 : vp_in y9_6 8 := inC rfl (by omega) (by omega)
        have g7 : rg 8 (0) (31) (upd mthg_9 y9_6.toNatClampNeg x5) := rg_upd r_mthg_9 rfl (by omega) (by omega)
        refine va_iast hx hb hK hP hD hS 19 0 rfl rfl b6 dX10_take_32 (fun H locs hP hD hS => ?_)
        obtain ⟨mthg_u8, emthg_u8⟩ : ∃ f : Nat → Int32, f = upd mthg_9 y9_6.toNatClampNeg x5 := ⟨_, rfl⟩
        have rmthg_u8 : rg 8 (0) (31) mthg_u8 := by rw [emthg_u8]; exact g7
        have hP : va_P (dC, dI) vwCl (wMod cI cZ cQ b mday mdoo mdA mdB mfar mmar mtel mgai mfal mtop mstr mgho mfai mpto mwal mahd mahf mcho mbes mbyt mtxt mpos mtka mtok mdig mnum mfau mrdm mrea mlin mlne mthg_u8 mord mbor mbsm mans mand manr mali) H := by rw [emthg_u8]; exact hP
        have hD : va_D A (wMod cI cZ cQ b mday mdoo mdA mdB mfar mmar mtel mgai mfal mtop mstr mgho mfai mpto mwal mahd mahf mcho mbes mbyt mtxt mpos mtka mtok mdig mnum mfau mrdm mrea mlin mlne mthg_u8 mord mbor mbsm mans mand manr mali) := by rw [emthg_u8]; exact hD
        refine lv_aload_n hx hb dX10_take_33 rfl (lv_at hl 0 rfl) ?_
        refine va_get (D := (dC, dI)) (ci := 10) (v := .ref (b 31)) (C := RX10) (T := TX10) (N := 39) hx hb hts inX10 hown hK hP 0 rfl rfl 31 (by decide) lf71 (fun _ h9 => h9) rfl dX10_take_34 ?_
        refine lv_iload hx hb dX10_take_37 (lv_at hl 5 rfl) ?_
        have b9 : vp_in y9_6 8 := inC rfl (by omega) (by omega)
        refine va_iald hx hb hK hP 19 0 rfl rfl b9 dX10_take_39 ?_
        have g10 : 0 ≤ (mthg_u8 y9_6.toNatClampNeg).toInt ∧ (mthg_u8 y9_6.toNatClampNeg).toInt ≤ 31 := rg_at rmthg_u8 b9
        have o11 : (mthg_u8 y9_6.toNatClampNeg).toInt = x5.toInt := by rw [emthg_u8, pk_us]
        refine lv_bipush (v := 23) hx hb dX10_take_40 (by decide) ?_
        refine lv_icmp_le (tgt := 48) hx hb dX10_take_42 (by decide) (fun c12 => ?_) (fun c12 => ?_)
        · have dc12 : (mthg_u8 y9_6.toNatClampNeg).toInt ≤ 23 := leC rfl (show (23 : Int32).toInt = 23 from rfl) c12
          have L76 : ∀ (y76_5 : Int32) (H : Heap) (locs : List Loc) (ls : Array Slot), va_P (dC, dI) vwCl (wMod cI cZ cQ b mday mdoo mdA mdB mfar mmar mtel mgai mfal mtop mstr mgho mfai mpto mwal mahd mahf mcho mbes mbyt mtxt mpos mtka mtok mdig mnum mfau mrdm mrea mlin mlne mthg_u8 mord mbor mbsm mans mand manr mali) H → va_D A (wMod cI cZ cQ b mday mdoo mdA mdB mfar mmar mtel mgai mfal mtop mstr mgho mfai mpto mwal mahd mahf mcho mbes mbyt mtxt mpos mtka mtok mdig mnum mfau mrdm mrea mlin mlne mthg_u8 mord mbor mbsm mans mand manr mali) → va_S A s.heap H locs → lv_has ls 7 [(0, .ref (b 39)), (1, .long row), (3, .int n), (4, .int y9_4), (5, .int y76_5), (6, .int y9_6)] → W p l e (headSpec wsX10_take { frames := 0, cells := 0, slots := 0, locals := 0 }).room s m ([.ref (b 39), .long row, .int n] : List Value).toArray below meth c H locs 0 0 (MQ below (va_Qi (fun (r : Int32) (u : US) => ((((r = 1) ∧ (∀ j : Nat, (j : Int) < n.toInt → ((u.1 0) j).toInt ≤ 23)) ∨ ((r = (-2))) ∨ ((r = (-3))))) ∧ (rg 8 (0) (31) (u.1 0))) (Bw (dC, dI) A (fun u : US => (wMod cI cZ cQ b mday mdoo mdA mdB mfar mmar mtel mgai mfal mtop mstr mgho mfai mpto mwal mahd mahf mcho mbes mbyt mtxt mpos mtka mtok mdig mnum mfau mrdm mrea mlin mlne (u.1 0) mord mbor mbsm mans mand manr mali))) A) ([.ref (b 39), .long row, .int n] : List Value).toArray s 0 0 A) (F0 m 76 ls []) := by
            intro y76_5 H locs ls  hP hD hS hl
            refine lv_iload hx hb dX10_take_76 (lv_at hl 3 rfl) ?_
            refine lv_iconst (v := 1) hx hb dX10_take_78 (by decide) ?_
            refine lv_aload_n hx hb dX10_take_79 rfl (lv_at hl 0 rfl) ?_
            refine va_get (D := (dC, dI)) (ci := 10) (v := .ref (b 31)) (C := RX10) (T := TX10) (N := 39) hx hb hts inX10 hown hK hP 0 rfl rfl 31 (by decide) lf71 (fun _ h9 => h9) rfl dX10_take_80 ?_
            refine lv_iload hx hb dX10_take_83 (lv_at hl 5 rfl) ?_
            have b13 : vp_in y9_6 8 := inC rfl (by omega) (by omega)
            refine va_iald hx hb hK hP 19 0 rfl rfl b13 dX10_take_85 ?_
            have g14 : 0 ≤ (mthg_u8 y9_6.toNatClampNeg).toInt ∧ (mthg_u8 y9_6.toNatClampNeg).toInt ≤ 31 := rg_at rmthg_u8 b13
            have o15 : (mthg_u8 y9_6.toNatClampNeg).toInt = x5.toInt := by rw [emthg_u8, pk_us]
            refine lv_ishl hx hb dX10_take_86 ?_
            refine lv_ior hx hb dX10_take_87 ?_
            refine lv_topi (fun x16 ex16 => ?_)
            have ix16 : x16.toInt = (y9_4 ||| ((1 : Int32) <<< ((mthg_u8 y9_6.toNatClampNeg) &&& 31))).toInt := by rw [ex16]
            refine lv_istore (lv' := [(4, .int x16), (0, .ref (b 39)), (1, .long row), (3, .int n), (5, .int y76_5), (6, .int y9_6)]) hx hb dX10_take_88 hl (by decide) rfl (fun ls hl => ?_)
            obtain ⟨z17, ez17⟩ : ∃ y : Int32, y = y9_6 + 1 := ⟨_, rfl⟩
            have iz17 : z17.toInt = y9_6.toInt + 1 := by rw [ez17]; exact addC rfl rfl (by omega) (by omega)
            refine lv_iinc (v := z17) (lv' := [(6, .int z17), (4, .int x16), (0, .ref (b 39)), (1, .long row), (3, .int n), (5, .int y76_5)]) hx hb dX10_take_90 hl (k := 5) rfl (by rw [ez17]; rfl) (by decide) rfl (fun ls hl => ?_)
            refine lv_goto (tgt := 9) hx hb dX10_take_93 (by decide) ?_
            exact ih9 x16 y76_5 z17 mthg_u8 _ _ _ rmthg_u8 (by omega) (by omega) (by (first | (intro j hj; omega) | exact th_step emthg_u8 i9_2 rfl (by omega) (by omega) (by omega))) (by omega) hP hD hS (lv_sub hl [2, 3, 4, 1, 5, 0] rfl)
          refine lv_iload hx hb dX10_take_48 (lv_at hl 4 rfl) ?_
          refine lv_if_ne (tgt := 69) hx hb dX10_take_50 (by decide) (fun c18 => ?_) (fun c18 => ?_)
          · have dc18 : y9_5.toInt ≠ 0 := neC rfl (show (0 : Int32).toInt = 0 from rfl) c18
            refine lv_iconst (v := 1) hx hb dX10_take_69 (by decide) ?_
            refine lv_goto (tgt := 74) hx hb dX10_take_70 (by decide) ?_
            refine lv_istore (lv' := [(5, .int 1), (0, .ref (b 39)), (1, .long row), (3, .int n), (4, .int y9_4), (6, .int y9_6)]) hx hb dX10_take_74 hl (by decide) rfl (fun ls hl => ?_)
            have kc19 : (1 : Int32).toInt = 1 := rfl
            exact L76 1 _ _ _  hP hD hS (lv_sub hl [1, 2, 3, 4, 0, 5] rfl)
          · have dc18 : y9_5.toInt = 0 := eqC rfl (show (0 : Int32).toInt = 0 from rfl) c18
            refine lv_iload hx hb dX10_take_53 (lv_at hl 3 rfl) ?_
            refine lv_aload_n hx hb dX10_take_55 rfl (lv_at hl 0 rfl) ?_
            refine va_get (D := (dC, dI)) (ci := 10) (v := .ref (b 31)) (C := RX10) (T := TX10) (N := 39) hx hb hts inX10 hown hK hP 0 rfl rfl 31 (by decide) lf71 (fun _ h9 => h9) rfl dX10_take_56 ?_
            refine lv_iload hx hb dX10_take_59 (lv_at hl 5 rfl) ?_
            have b20 : vp_in y9_6 8 := inC rfl (by omega) (by omega)
            refine va_iald hx hb hK hP 19 0 rfl rfl b20 dX10_take_61 ?_
            have g21 : 0 ≤ (mthg_u8 y9_6.toNatClampNeg).toInt ∧ (mthg_u8 y9_6.toNatClampNeg).toInt ≤ 31 := rg_at rmthg_u8 b20
            have o22 : (mthg_u8 y9_6.toNatClampNeg).toInt = x5.toInt := by rw [emthg_u8, pk_us]
            refine lv_ishr hx hb dX10_take_62 ?_
            refine lv_iconst (v := 1) hx hb dX10_take_63 (by decide) ?_
            refine lv_iand hx hb dX10_take_64 ?_
            have f23 := andR (a := (y9_4 >>> ((mthg_u8 y9_6.toNatClampNeg) &&& 31))) (m := 1) (M := 1) rfl (by decide)
            refine lv_iconst (v := 1) hx hb dX10_take_65 (by decide) ?_
            refine lv_icmp_ne (tgt := 73) hx hb dX10_take_66 (by decide) (fun c24 => ?_) (fun c24 => ?_)
            · have dc24 : ((y9_4 >>> ((mthg_u8 y9_6.toNatClampNeg) &&& 31)) &&& 1).toInt ≤ 0 := ka_hi (by omega) (neC rfl (show (1 : Int32).toInt = 1 from rfl) c24)
              refine lv_iconst (v := 0) hx hb dX10_take_73 (by decide) ?_
              refine lv_istore (lv' := [(5, .int 0), (0, .ref (b 39)), (1, .long row), (3, .int n), (4, .int y9_4), (6, .int y9_6)]) hx hb dX10_take_74 hl (by decide) rfl (fun ls hl => ?_)
              have kc25 : (0 : Int32).toInt = 0 := rfl
              exact L76 0 _ _ _  hP hD hS (lv_sub hl [1, 2, 3, 4, 0, 5] rfl)
            · have dc24 : ((y9_4 >>> ((mthg_u8 y9_6.toNatClampNeg) &&& 31)) &&& 1).toInt = 1 := eqC rfl (show (1 : Int32).toInt = 1 from rfl) c24
              refine lv_iconst (v := 1) hx hb dX10_take_69 (by decide) ?_
              refine lv_goto (tgt := 74) hx hb dX10_take_70 (by decide) ?_
              refine lv_istore (lv' := [(5, .int 1), (0, .ref (b 39)), (1, .long row), (3, .int n), (4, .int y9_4), (6, .int y9_6)]) hx hb dX10_take_74 hl (by decide) rfl (fun ls hl => ?_)
              have kc26 : (1 : Int32).toInt = 1 := rfl
              exact L76 1 _ _ _  hP hD hS (lv_sub hl [1, 2, 3, 4, 0, 5] rfl)
        · have dc12 : 23 < (mthg_u8 y9_6.toNatClampNeg).toInt := nleC rfl (show (23 : Int32).toInt = 23 from rfl) c12
          refine lv_bipush (v := (-2)) hx hb dX10_take_45 (by decide) ?_
          exact W.iret (v := (-2)) hx hb hr (fun tq ht hW => ⟨⟨(-2), (uS [mthg_u8] 0 (fun _ => 0)), rfl, ⟨(Or.inr (Or.inl rfl)), rmthg_u8⟩, by rw [ht]; exact hP, hD⟩, hS.F ht⟩) hS.2.2 dX10_take_47
  have kc27 : (0 : Int32).toInt = 0 := rfl
  exact L9 _ 0 0 0 mthg _ _ _ r_mthg (by omega) (by omega) (by (first | (intro j hj; omega) | exact th_step emthg i9_2 rfl (by omega) (by omega) (by omega))) (Nat.lt_succ_self _) hP hD hS (lv_sub hl [3, 4, 5, 2, 1, 0] rfl)
