theorem ls_known {s : State} {b : Nat} (hts : ∀ w ∈ wsL_law, w.before #[Value.ref b] s = true) : ∃ (dC : Nat → ClassId) (dI : Nat → Nat → Nat), ∀ (k : Nat) (q : vw_C), vwCl[k]? = some q → u_Kn s q.1 q.2.1 q.2.2 (dC k) (dI k) := by
  obtain ⟨c0, i0, k0⟩ := u_known (C := RX0) (T := TX0) (N := 6) (n := 6) hts inlX0 (hts (.instantiable RX0 6) (by decide +kernel))
  obtain ⟨c1, i1, k1⟩ := u_known (C := RX1) (T := TX1) (N := 13) (n := 13) hts inlX1 (hts (.instantiable RX1 13) (by decide +kernel))
  obtain ⟨c2, i2, k2⟩ := u_known (C := RX2) (T := TX2) (N := 1) (n := 1) hts inlX2 (hts (.instantiable RX2 1) (by decide +kernel))
  obtain ⟨c3, i3, k3⟩ := u_known (C := RX3) (T := TX3) (N := 9) (n := 9) hts inlX3 (hts (.instantiable RX3 9) (by decide +kernel))
  obtain ⟨c4, i4, k4⟩ := u_known (C := RX4) (T := TX4) (N := 2) (n := 2) hts inlX4 (hts (.instantiable RX4 2) (by decide +kernel))
  obtain ⟨c5, i5, k5⟩ := u_known (C := RX5) (T := TX5) (N := 5) (n := 5) hts inlX5 (hts (.instantiable RX5 5) (by decide +kernel))
  obtain ⟨c6, i6, k6⟩ := u_known (C := RX6) (T := TX6) (N := 5) (n := 5) hts inlX6 (hts (.instantiable RX6 5) (by decide +kernel))
  obtain ⟨c7, i7, k7⟩ := u_known (C := RX7) (T := TX7) (N := 4) (n := 4) hts inlX7 (hts (.instantiable RX7 4) (by decide +kernel))
  obtain ⟨c8, i8, k8⟩ := u_known (C := RX8) (T := TX8) (N := 2) (n := 2) hts inlX8 (hts (.instantiable RX8 2) (by decide +kernel))
  obtain ⟨c9, i9, k9⟩ := u_known (C := RX9) (T := TX9) (N := 11) (n := 11) hts inlX9 (hts (.instantiable RX9 11) (by decide +kernel))
  obtain ⟨c10, i10, k10⟩ := u_known (C := RX10) (T := TX10) (N := 39) (n := 39) hts inlX10 (hts (.instantiable RX10 39) (by decide +kernel))
  refine ⟨fun k => ([c0, c1, c2, c3, c4, c5, c6, c7, c8, c9, c10] : List ClassId).getD k c0, fun k => ([i0, i1, i2, i3, i4, i5, i6, i7, i8, i9, i10] : List (Nat → Nat)).getD k i0, ?_⟩
  intro k q hq
  match k, hq with
  | 0, hq => cases hq; exact k0
  | 1, hq => cases hq; exact k1
  | 2, hq => cases hq; exact k2
  | 3, hq => cases hq; exact k3
  | 4, hq => cases hq; exact k4
  | 5, hq => cases hq; exact k5
  | 6, hq => cases hq; exact k6
  | 7, hq => cases hq; exact k7
  | 8, hq => cases hq; exact k8
  | 9, hq => cases hq; exact k9
  | 10, hq => cases hq; exact k10
  | k + 11, hq => exact absurd hq (by simp [vwCl])
theorem ls_over : Cond.arrayOver (.object "PalaceOfRooms$Pupil") ∈ lw_tbl := by decide +kernel
theorem ls_ci : Cond.arrayClass .int ∈ lw_tbl := by decide +kernel
theorem ls_cz : Cond.arrayClass .boolean ∈ lw_tbl := by decide +kernel
theorem NWs_tbl : ∀ w ∈ NWs, w ∈ lw_tbl := by decide +kernel
theorem ls_arrs {s : State} {b : Nat} (hts : ∀ w ∈ lw_tbl, w.before #[Value.ref b] s = true) : ∃ cI cZ cQ : ClassId, ∀ (k : Nat) (q : ClassId × FieldType), (TY cI cZ cQ)[k]? = some q → ArrOfT s q.1 q.2 ∧ va_RA s q.1 q.2 := by
  obtain ⟨cI, kI, pI, a1, a2, a3⟩ := Cond.arrayClass_spec (hts _ ls_ci)
  obtain ⟨cZ, kZ, pZ, b1, b2, b3⟩ := Cond.arrayClass_spec (hts _ ls_cz)
  obtain ⟨pQ, cQ, kQ, e1, e2, e3, e4, e5⟩ := Cond.arrayOver_spec (hts _ ls_over)
  refine ⟨cI, cZ, cQ, ?_⟩
  intro k q hq
  match k, hq with
  | 0, hq => cases hq; exact ⟨fun n z => ⟨fun k h => (by cases h), kI, a2, pI, a3⟩, a1⟩
  | 1, hq => cases hq; exact ⟨fun n z => ⟨fun k h => (by cases h), kZ, b2, pZ, b3⟩, b1⟩
  | 2, hq => cases hq; exact ⟨fun n z => ⟨fun k h => (by cases h), kQ, e3, pQ, e4⟩, kQ, pQ, e3, e4, e1, e5⟩
  | k + 3, hq => exact absurd hq (by simp)
def tmS (i : Nat) : Term := .string "PalaceOfRooms$Text" ([42, 51, 59, 63, 71].getD i 0)
def flS : List Cond := flatC (Jvm.Cond.and given_1 narrow_1)
theorem ls_ex : ∀ i, i < 5 → Cond.exactly (tmS i) "java/lang/String" ∈ flS := by decide +kernel
theorem ls_co : ∀ i, i < 5 → Cond.eq (.field (tmS i) "java/lang/String" "coder" "B") (.int 0) ∈ flS := by decide +kernel
theorem ls_ar : ∀ i, i < 5 → Cond.arrayOf (.field (tmS i) "java/lang/String" "value" "[B") .byte ∈ flS := by decide +kernel
theorem ls_le : ∀ i, i < 5 → Cond.eq (.length (.field (tmS i) "java/lang/String" "value" "[B")) (.int (Int32.ofNat (lenS.getD i 0))) ∈ flS := by decide +kernel
theorem ls_el : ∀ i, i < 5 → ∀ j, j < lenS.getD i 0 → Cond.eq (.elem (.field (tmS i) "java/lang/String" "value" "[B") (.int (Int32.ofNat j))) (.int ((bytS.getD i []).getD j 0)) ∈ flS := by decide +kernel
theorem ls_ne : ∀ i, i < 5 → ∀ j, j < 5 → i ≠ j → Cond.not (Cond.eq (tmS i) (tmS j)) ∈ flS ∨ Cond.not (Cond.eq (tmS j) (tmS i)) ∈ flS := by decide +kernel
theorem ls_cs : Cond.eq (.static "java/lang/String" "COMPACT_STRINGS" "Z") (.int 1) ∈ flS := by decide +kernel
theorem ls_si : Cond.isRef (.static "jdk/internal/util/Preconditions" "SIOOBE_FORMATTER" "Ljava/util/function/BiFunction;") ∈ flS := by decide +kernel
theorem ls_z1 : Cond.laysStatic "java/lang/String" "COMPACT_STRINGS" "Z" ∈ lw_tbl := by decide +kernel
theorem ls_z2 : Cond.laysStatic "jdk/internal/util/Preconditions" "SIOOBE_FORMATTER" "Ljava/util/function/BiFunction;" ∈ lw_tbl := by decide +kernel
theorem ls_z3 : Cond.initialized "java/lang/String" ∈ lw_tbl := by decide +kernel
theorem ls_z4 : Cond.initialized "jdk/internal/util/Preconditions" ∈ lw_tbl := by decide +kernel
theorem ls_sr : Cond.stringRef "PalaceOfRooms$Text" 42 "room" ∈ lw_tbl ∧ Cond.stringRef "PalaceOfRooms$Text" 51 "again" ∈ lw_tbl ∧ Cond.stringRef "PalaceOfRooms$Text" 59 "apart" ∈ lw_tbl ∧ Cond.stringRef "PalaceOfRooms$Text" 63 "walk" ∈ lw_tbl ∧ Cond.stringRef "PalaceOfRooms$Text" 71 "every" ∈ lw_tbl := by decide +kernel
theorem sr_of {s : State} {b k a : Nat} {tx : String} (h1 : (Cond.stringRef "PalaceOfRooms$Text" k tx).before #[Value.ref b] s = true) (h2 : (Term.string "PalaceOfRooms$Text" k).eval #[Value.ref b] s none [] s = some (.ref a)) : vk_R RX7 k tx a s := vk_R.of (A := #[Value.ref b]) h1 h2
theorem ls_strs {s : State} {b : Nat} (hts : ∀ w ∈ lw_tbl, w.before #[Value.ref b] s = true) (hgv : (Jvm.Cond.and given_1 narrow_1).before #[Value.ref b] s = true) : ∃ ak av : Nat → Nat, SV ak av (AL s) s s.heap := by
  have hs : ∀ w ∈ flS, w.before #[Value.ref b] s = true := flat_of_before _ hgv
  have hA2 : ∀ a : Nat, a < s.heap.size → ¬ AL s a := fun a h => Nat.not_le.mpr h
  obtain ⟨ak, av, hk, he⟩ := vk_Sof (N := 5) (tm := tmS) (len := lenS) (byt := bytS) (A := AL s) (by decide) (fun i hi => hs _ (ls_ex i hi)) (fun i hi => hs _ (ls_co i hi)) (fun i hi => hs _ (ls_ar i hi)) (fun i hi => hs _ (ls_le i hi)) (fun i hi j hj => hs _ (ls_el i hi j hj)) (fun i j hi hj hij => (ls_ne i hi j hj hij).imp (hs _) (hs _)) hA2
  have z1 := va_Zof (A := AL s) (hts _ ls_z1) (hts _ ls_z3) (va_eqi (hs _ ls_cs)) hA2
  have z2 := va_Zqof (A := AL s) (hts _ ls_z2) (hts _ ls_z4) (hs _ ls_si) hA2
  obtain ⟨r1, r2, r3, r4, r5⟩ := ls_sr
  refine ⟨ak, av, fun i hi => ⟨(hk.1 i hi).1, (hk.1 i hi).2.1, (hk.1 i hi).2.2.1, (hk.1 i hi).2.2.2, z1, z2⟩, ?_⟩
  exact ⟨sr_of (hts _ r1) (he 0 (by decide)), sr_of (hts _ r2) (he 1 (by decide)), sr_of (hts _ r3) (he 2 (by decide)), sr_of (hts _ r4) (he 3 (by decide)), sr_of (hts _ r5) (he 4 (by decide))⟩
