/-! ===== BEGIN code read from its bytes, one instruction behind another ===== -/
theorem dz_bind {α β : Type} {r : Jvm.ClassFile.Decoder α} {f : α → Jvm.ClassFile.Decoder β} {c : ByteArray} {p q : Nat} {a : α} (h : r c p = .ok (a, q)) : (r >>= f) c p = f a c q := by
  have e : (r >>= f) c p = (r c p >>= fun x => f x.1 c x.2) := rfl
  rw [e, h]; rfl
theorem dz_dec {c : ByteArray} {p n : Nat} {i : Jvm.ClassFile.Instr} (h : Jvm.ClassFile.Decoder.instr p c p = .ok (i, p + n)) : decode c p = .ok (i, n) := by
  have e : decode c p = (Jvm.ClassFile.Decoder.instr p c p >>= fun x => .ok (x.1, x.2 - p)) := rfl
  rw [e, h]
  show Except.ok (i, p + n - p) = _
  rw [Nat.add_sub_cancel_left]
theorem dz_tl {l : List UInt8} {p : Nat} {x : UInt8} {r : List UInt8} (h : l.drop p = x :: r) : l.drop (p + 1) = r := by
  rw [← List.drop_drop, h]; rfl
theorem dz_u1 {c : ByteArray} {p : Nat} {x : UInt8} {r : List UInt8} (h : c.data.toList.drop p = x :: r) : (Jvm.ClassFile.Reader.u1 : Jvm.ClassFile.Decoder Nat) c p = .ok (x.toNat, p + 1) := by
  have h2 : c.data.toList[p]? = some x := by
    have z : (c.data.toList.drop p)[0]? = (x :: r)[0]? := by rw [h]
    rw [List.getElem?_drop] at z
    exact z
  obtain ⟨hl, h3⟩ := List.getElem?_eq_some_iff.mp h2
  have hs : p < c.size := by first | exact hl | simpa using hl
  have hv : c[p]'hs = x := h3
  have e : (Jvm.ClassFile.Reader.u1 : Jvm.ClassFile.Decoder Nat) c p = ((if h : p < c.size then (do set (p + 1); pure (c[p]'h).toNat) else throw (Jvm.ClassFile.HasTruncated.truncated p) : Jvm.ClassFile.Decoder Nat)) c p := rfl
  rw [e, dif_pos hs, hv]; rfl
theorem dz_u1k {c : ByteArray} {p k : Nat} {x : UInt8} {r : List UInt8} (h : c.data.toList.drop p = x :: r) (hx : x.toNat = k) : (Jvm.ClassFile.Reader.u1 : Jvm.ClassFile.Decoder Nat) c p = .ok (k, p + 1) := by
  subst hx; exact dz_u1 h
theorem dz_u2 {c : ByteArray} {p : Nat} {x y : UInt8} {r : List UInt8} (h : c.data.toList.drop p = x :: y :: r) : (Jvm.ClassFile.Reader.u2 : Jvm.ClassFile.Decoder Nat) c p = .ok (x.toNat * 256 + y.toNat, p + 2) :=
  (dz_bind (dz_u1 h)).trans ((dz_bind (dz_u1 (dz_tl h))).trans rfl)
theorem dz_s1 {c : ByteArray} {p : Nat} {x : UInt8} {r : List UInt8} (h : c.data.toList.drop p = x :: r) : (Jvm.ClassFile.Reader.s1 : Jvm.ClassFile.Decoder Int) c p = .ok (Jvm.ClassFile.Reader.signed 8 x.toNat, p + 1) := by
  have e : (Jvm.ClassFile.Reader.s1 : Jvm.ClassFile.Decoder Int) c p = ((Jvm.ClassFile.Reader.u1 : Jvm.ClassFile.Decoder Nat) c p >>= fun z => .ok (Jvm.ClassFile.Reader.signed 8 z.1, z.2)) := rfl
  rw [e, dz_u1 h]; rfl
theorem dz_s2 {c : ByteArray} {p : Nat} {x y : UInt8} {r : List UInt8} (h : c.data.toList.drop p = x :: y :: r) : (Jvm.ClassFile.Reader.s2 : Jvm.ClassFile.Decoder Int) c p = .ok (Jvm.ClassFile.Reader.signed 16 (x.toNat * 256 + y.toNat), p + 2) := by
  have e : (Jvm.ClassFile.Reader.s2 : Jvm.ClassFile.Decoder Int) c p = ((Jvm.ClassFile.Reader.u2 : Jvm.ClassFile.Decoder Nat) c p >>= fun z => .ok (Jvm.ClassFile.Reader.signed 16 z.1, z.2)) := rfl
  rw [e, dz_u2 h]; rfl
def dzA : List (Nat × Jvm.ClassFile.Instr) := [(26, Jvm.ClassFile.Instr.iload_n 0), (27, Jvm.ClassFile.Instr.iload_n 1), (28, Jvm.ClassFile.Instr.iload_n 2), (29, Jvm.ClassFile.Instr.iload_n 3), (42, Jvm.ClassFile.Instr.aload_n 0), (43, Jvm.ClassFile.Instr.aload_n 1), (44, Jvm.ClassFile.Instr.aload_n 2), (45, Jvm.ClassFile.Instr.aload_n 3), (3, Jvm.ClassFile.Instr.iconst 0), (4, Jvm.ClassFile.Instr.iconst 1), (46, Jvm.ClassFile.Instr.iaload), (96, Jvm.ClassFile.Instr.iadd), (172, Jvm.ClassFile.Instr.ireturn), (2, Jvm.ClassFile.Instr.iconst (-1)), (5, Jvm.ClassFile.Instr.iconst 2), (6, Jvm.ClassFile.Instr.iconst 3), (7, Jvm.ClassFile.Instr.iconst 4), (8, Jvm.ClassFile.Instr.iconst 5), (59, Jvm.ClassFile.Instr.istore_n 0), (60, Jvm.ClassFile.Instr.istore_n 1), (61, Jvm.ClassFile.Instr.istore_n 2), (62, Jvm.ClassFile.Instr.istore_n 3), (79, Jvm.ClassFile.Instr.iastore), (104, Jvm.ClassFile.Instr.imul), (87, Jvm.ClassFile.Instr.pop), (177, Jvm.ClassFile.Instr.return_), (100, Jvm.ClassFile.Instr.isub), (108, Jvm.ClassFile.Instr.idiv), (89, Jvm.ClassFile.Instr.dup), (126, Jvm.ClassFile.Instr.iand), (112, Jvm.ClassFile.Instr.irem), (120, Jvm.ClassFile.Instr.ishl), (122, Jvm.ClassFile.Instr.ishr), (133, Jvm.ClassFile.Instr.i2l), (30, Jvm.ClassFile.Instr.lload_n 0), (31, Jvm.ClassFile.Instr.lload_n 1), (32, Jvm.ClassFile.Instr.lload_n 2), (33, Jvm.ClassFile.Instr.lload_n 3), (127, Jvm.ClassFile.Instr.land), (128, Jvm.ClassFile.Instr.ior), (148, Jvm.ClassFile.Instr.lcmp), (92, Jvm.ClassFile.Instr.dup2), (121, Jvm.ClassFile.Instr.lshl), (129, Jvm.ClassFile.Instr.lor), (190, Jvm.ClassFile.Instr.arraylength), (124, Jvm.ClassFile.Instr.iushr), (123, Jvm.ClassFile.Instr.lshr), (75, Jvm.ClassFile.Instr.astore_n 0), (76, Jvm.ClassFile.Instr.astore_n 1), (77, Jvm.ClassFile.Instr.astore_n 2), (78, Jvm.ClassFile.Instr.astore_n 3)]
abbrev dzAP (q : Nat × Jvm.ClassFile.Instr) : Prop := ∀ (c : ByteArray) (p : Nat) (x : UInt8) (r : List UInt8), c.data.toList.drop p = x :: r → x.toNat = q.1 → Jvm.ClassFile.Decoder.instr p c p = .ok (q.2, p + 1)
set_option maxRecDepth 20000 in
theorem dzA_0 : dzAP (26, Jvm.ClassFile.Instr.iload_n 0) := fun c p x r h hx => (dz_bind (dz_u1k (k := 26) h hx)).trans rfl
set_option maxRecDepth 20000 in
theorem dzA_1 : dzAP (27, Jvm.ClassFile.Instr.iload_n 1) := fun c p x r h hx => (dz_bind (dz_u1k (k := 27) h hx)).trans rfl
set_option maxRecDepth 20000 in
theorem dzA_2 : dzAP (28, Jvm.ClassFile.Instr.iload_n 2) := fun c p x r h hx => (dz_bind (dz_u1k (k := 28) h hx)).trans rfl
set_option maxRecDepth 20000 in
theorem dzA_3 : dzAP (29, Jvm.ClassFile.Instr.iload_n 3) := fun c p x r h hx => (dz_bind (dz_u1k (k := 29) h hx)).trans rfl
set_option maxRecDepth 20000 in
theorem dzA_4 : dzAP (42, Jvm.ClassFile.Instr.aload_n 0) := fun c p x r h hx => (dz_bind (dz_u1k (k := 42) h hx)).trans rfl
set_option maxRecDepth 20000 in
theorem dzA_5 : dzAP (43, Jvm.ClassFile.Instr.aload_n 1) := fun c p x r h hx => (dz_bind (dz_u1k (k := 43) h hx)).trans rfl
set_option maxRecDepth 20000 in
theorem dzA_6 : dzAP (44, Jvm.ClassFile.Instr.aload_n 2) := fun c p x r h hx => (dz_bind (dz_u1k (k := 44) h hx)).trans rfl
set_option maxRecDepth 20000 in
theorem dzA_7 : dzAP (45, Jvm.ClassFile.Instr.aload_n 3) := fun c p x r h hx => (dz_bind (dz_u1k (k := 45) h hx)).trans rfl
set_option maxRecDepth 20000 in
theorem dzA_8 : dzAP (3, Jvm.ClassFile.Instr.iconst 0) := fun c p x r h hx => (dz_bind (dz_u1k (k := 3) h hx)).trans rfl
set_option maxRecDepth 20000 in
theorem dzA_9 : dzAP (4, Jvm.ClassFile.Instr.iconst 1) := fun c p x r h hx => (dz_bind (dz_u1k (k := 4) h hx)).trans rfl
set_option maxRecDepth 20000 in
theorem dzA_10 : dzAP (46, Jvm.ClassFile.Instr.iaload) := fun c p x r h hx => (dz_bind (dz_u1k (k := 46) h hx)).trans rfl
set_option maxRecDepth 20000 in
theorem dzA_11 : dzAP (96, Jvm.ClassFile.Instr.iadd) := fun c p x r h hx => (dz_bind (dz_u1k (k := 96) h hx)).trans rfl
set_option maxRecDepth 20000 in
theorem dzA_12 : dzAP (172, Jvm.ClassFile.Instr.ireturn) := fun c p x r h hx => (dz_bind (dz_u1k (k := 172) h hx)).trans rfl
set_option maxRecDepth 20000 in
theorem dzA_13 : dzAP (2, Jvm.ClassFile.Instr.iconst (-1)) := fun c p x r h hx => (dz_bind (dz_u1k (k := 2) h hx)).trans rfl
set_option maxRecDepth 20000 in
theorem dzA_14 : dzAP (5, Jvm.ClassFile.Instr.iconst 2) := fun c p x r h hx => (dz_bind (dz_u1k (k := 5) h hx)).trans rfl
set_option maxRecDepth 20000 in
theorem dzA_15 : dzAP (6, Jvm.ClassFile.Instr.iconst 3) := fun c p x r h hx => (dz_bind (dz_u1k (k := 6) h hx)).trans rfl
set_option maxRecDepth 20000 in
theorem dzA_16 : dzAP (7, Jvm.ClassFile.Instr.iconst 4) := fun c p x r h hx => (dz_bind (dz_u1k (k := 7) h hx)).trans rfl
set_option maxRecDepth 20000 in
theorem dzA_17 : dzAP (8, Jvm.ClassFile.Instr.iconst 5) := fun c p x r h hx => (dz_bind (dz_u1k (k := 8) h hx)).trans rfl
set_option maxRecDepth 20000 in
theorem dzA_18 : dzAP (59, Jvm.ClassFile.Instr.istore_n 0) := fun c p x r h hx => (dz_bind (dz_u1k (k := 59) h hx)).trans rfl
set_option maxRecDepth 20000 in
theorem dzA_19 : dzAP (60, Jvm.ClassFile.Instr.istore_n 1) := fun c p x r h hx => (dz_bind (dz_u1k (k := 60) h hx)).trans rfl
set_option maxRecDepth 20000 in
theorem dzA_20 : dzAP (61, Jvm.ClassFile.Instr.istore_n 2) := fun c p x r h hx => (dz_bind (dz_u1k (k := 61) h hx)).trans rfl
set_option maxRecDepth 20000 in
theorem dzA_21 : dzAP (62, Jvm.ClassFile.Instr.istore_n 3) := fun c p x r h hx => (dz_bind (dz_u1k (k := 62) h hx)).trans rfl
set_option maxRecDepth 20000 in
theorem dzA_22 : dzAP (79, Jvm.ClassFile.Instr.iastore) := fun c p x r h hx => (dz_bind (dz_u1k (k := 79) h hx)).trans rfl
set_option maxRecDepth 20000 in
theorem dzA_23 : dzAP (104, Jvm.ClassFile.Instr.imul) := fun c p x r h hx => (dz_bind (dz_u1k (k := 104) h hx)).trans rfl
set_option maxRecDepth 20000 in
theorem dzA_24 : dzAP (87, Jvm.ClassFile.Instr.pop) := fun c p x r h hx => (dz_bind (dz_u1k (k := 87) h hx)).trans rfl
set_option maxRecDepth 20000 in
theorem dzA_25 : dzAP (177, Jvm.ClassFile.Instr.return_) := fun c p x r h hx => (dz_bind (dz_u1k (k := 177) h hx)).trans rfl
set_option maxRecDepth 20000 in
theorem dzA_26 : dzAP (100, Jvm.ClassFile.Instr.isub) := fun c p x r h hx => (dz_bind (dz_u1k (k := 100) h hx)).trans rfl
set_option maxRecDepth 20000 in
theorem dzA_27 : dzAP (108, Jvm.ClassFile.Instr.idiv) := fun c p x r h hx => (dz_bind (dz_u1k (k := 108) h hx)).trans rfl
set_option maxRecDepth 20000 in
theorem dzA_28 : dzAP (89, Jvm.ClassFile.Instr.dup) := fun c p x r h hx => (dz_bind (dz_u1k (k := 89) h hx)).trans rfl
set_option maxRecDepth 20000 in
theorem dzA_29 : dzAP (126, Jvm.ClassFile.Instr.iand) := fun c p x r h hx => (dz_bind (dz_u1k (k := 126) h hx)).trans rfl
set_option maxRecDepth 20000 in
theorem dzA_30 : dzAP (112, Jvm.ClassFile.Instr.irem) := fun c p x r h hx => (dz_bind (dz_u1k (k := 112) h hx)).trans rfl
set_option maxRecDepth 20000 in
theorem dzA_31 : dzAP (120, Jvm.ClassFile.Instr.ishl) := fun c p x r h hx => (dz_bind (dz_u1k (k := 120) h hx)).trans rfl
set_option maxRecDepth 20000 in
theorem dzA_32 : dzAP (122, Jvm.ClassFile.Instr.ishr) := fun c p x r h hx => (dz_bind (dz_u1k (k := 122) h hx)).trans rfl
set_option maxRecDepth 20000 in
theorem dzA_33 : dzAP (133, Jvm.ClassFile.Instr.i2l) := fun c p x r h hx => (dz_bind (dz_u1k (k := 133) h hx)).trans rfl
set_option maxRecDepth 20000 in
theorem dzA_34 : dzAP (30, Jvm.ClassFile.Instr.lload_n 0) := fun c p x r h hx => (dz_bind (dz_u1k (k := 30) h hx)).trans rfl
set_option maxRecDepth 20000 in
theorem dzA_35 : dzAP (31, Jvm.ClassFile.Instr.lload_n 1) := fun c p x r h hx => (dz_bind (dz_u1k (k := 31) h hx)).trans rfl
set_option maxRecDepth 20000 in
theorem dzA_36 : dzAP (32, Jvm.ClassFile.Instr.lload_n 2) := fun c p x r h hx => (dz_bind (dz_u1k (k := 32) h hx)).trans rfl
set_option maxRecDepth 20000 in
theorem dzA_37 : dzAP (33, Jvm.ClassFile.Instr.lload_n 3) := fun c p x r h hx => (dz_bind (dz_u1k (k := 33) h hx)).trans rfl
set_option maxRecDepth 20000 in
theorem dzA_38 : dzAP (127, Jvm.ClassFile.Instr.land) := fun c p x r h hx => (dz_bind (dz_u1k (k := 127) h hx)).trans rfl
set_option maxRecDepth 20000 in
theorem dzA_39 : dzAP (128, Jvm.ClassFile.Instr.ior) := fun c p x r h hx => (dz_bind (dz_u1k (k := 128) h hx)).trans rfl
set_option maxRecDepth 20000 in
theorem dzA_40 : dzAP (148, Jvm.ClassFile.Instr.lcmp) := fun c p x r h hx => (dz_bind (dz_u1k (k := 148) h hx)).trans rfl
set_option maxRecDepth 20000 in
theorem dzA_41 : dzAP (92, Jvm.ClassFile.Instr.dup2) := fun c p x r h hx => (dz_bind (dz_u1k (k := 92) h hx)).trans rfl
set_option maxRecDepth 20000 in
theorem dzA_42 : dzAP (121, Jvm.ClassFile.Instr.lshl) := fun c p x r h hx => (dz_bind (dz_u1k (k := 121) h hx)).trans rfl
set_option maxRecDepth 20000 in
theorem dzA_43 : dzAP (129, Jvm.ClassFile.Instr.lor) := fun c p x r h hx => (dz_bind (dz_u1k (k := 129) h hx)).trans rfl
set_option maxRecDepth 20000 in
theorem dzA_44 : dzAP (190, Jvm.ClassFile.Instr.arraylength) := fun c p x r h hx => (dz_bind (dz_u1k (k := 190) h hx)).trans rfl
set_option maxRecDepth 20000 in
theorem dzA_45 : dzAP (124, Jvm.ClassFile.Instr.iushr) := fun c p x r h hx => (dz_bind (dz_u1k (k := 124) h hx)).trans rfl
set_option maxRecDepth 20000 in
theorem dzA_46 : dzAP (123, Jvm.ClassFile.Instr.lshr) := fun c p x r h hx => (dz_bind (dz_u1k (k := 123) h hx)).trans rfl
set_option maxRecDepth 20000 in
theorem dzA_47 : dzAP (75, Jvm.ClassFile.Instr.astore_n 0) := fun c p x r h hx => (dz_bind (dz_u1k (k := 75) h hx)).trans rfl
set_option maxRecDepth 20000 in
theorem dzA_48 : dzAP (76, Jvm.ClassFile.Instr.astore_n 1) := fun c p x r h hx => (dz_bind (dz_u1k (k := 76) h hx)).trans rfl
set_option maxRecDepth 20000 in
theorem dzA_49 : dzAP (77, Jvm.ClassFile.Instr.astore_n 2) := fun c p x r h hx => (dz_bind (dz_u1k (k := 77) h hx)).trans rfl
set_option maxRecDepth 20000 in
theorem dzA_50 : dzAP (78, Jvm.ClassFile.Instr.astore_n 3) := fun c p x r h hx => (dz_bind (dz_u1k (k := 78) h hx)).trans rfl
theorem dzA_ok : ∀ q ∈ dzA, dzAP q := List.forall_mem_cons.mpr ⟨dzA_0, List.forall_mem_cons.mpr ⟨dzA_1, List.forall_mem_cons.mpr ⟨dzA_2, List.forall_mem_cons.mpr ⟨dzA_3, List.forall_mem_cons.mpr ⟨dzA_4, List.forall_mem_cons.mpr ⟨dzA_5, List.forall_mem_cons.mpr ⟨dzA_6, List.forall_mem_cons.mpr ⟨dzA_7, List.forall_mem_cons.mpr ⟨dzA_8, List.forall_mem_cons.mpr ⟨dzA_9, List.forall_mem_cons.mpr ⟨dzA_10, List.forall_mem_cons.mpr ⟨dzA_11, List.forall_mem_cons.mpr ⟨dzA_12, List.forall_mem_cons.mpr ⟨dzA_13, List.forall_mem_cons.mpr ⟨dzA_14, List.forall_mem_cons.mpr ⟨dzA_15, List.forall_mem_cons.mpr ⟨dzA_16, List.forall_mem_cons.mpr ⟨dzA_17, List.forall_mem_cons.mpr ⟨dzA_18, List.forall_mem_cons.mpr ⟨dzA_19, List.forall_mem_cons.mpr ⟨dzA_20, List.forall_mem_cons.mpr ⟨dzA_21, List.forall_mem_cons.mpr ⟨dzA_22, List.forall_mem_cons.mpr ⟨dzA_23, List.forall_mem_cons.mpr ⟨dzA_24, List.forall_mem_cons.mpr ⟨dzA_25, List.forall_mem_cons.mpr ⟨dzA_26, List.forall_mem_cons.mpr ⟨dzA_27, List.forall_mem_cons.mpr ⟨dzA_28, List.forall_mem_cons.mpr ⟨dzA_29, List.forall_mem_cons.mpr ⟨dzA_30, List.forall_mem_cons.mpr ⟨dzA_31, List.forall_mem_cons.mpr ⟨dzA_32, List.forall_mem_cons.mpr ⟨dzA_33, List.forall_mem_cons.mpr ⟨dzA_34, List.forall_mem_cons.mpr ⟨dzA_35, List.forall_mem_cons.mpr ⟨dzA_36, List.forall_mem_cons.mpr ⟨dzA_37, List.forall_mem_cons.mpr ⟨dzA_38, List.forall_mem_cons.mpr ⟨dzA_39, List.forall_mem_cons.mpr ⟨dzA_40, List.forall_mem_cons.mpr ⟨dzA_41, List.forall_mem_cons.mpr ⟨dzA_42, List.forall_mem_cons.mpr ⟨dzA_43, List.forall_mem_cons.mpr ⟨dzA_44, List.forall_mem_cons.mpr ⟨dzA_45, List.forall_mem_cons.mpr ⟨dzA_46, List.forall_mem_cons.mpr ⟨dzA_47, List.forall_mem_cons.mpr ⟨dzA_48, List.forall_mem_cons.mpr ⟨dzA_49, List.forall_mem_cons.mpr ⟨dzA_50, fun _ h => absurd h List.not_mem_nil⟩⟩⟩⟩⟩⟩⟩⟩⟩⟩⟩⟩⟩⟩⟩⟩⟩⟩⟩⟩⟩⟩⟩⟩⟩⟩⟩⟩⟩⟩⟩⟩⟩⟩⟩⟩⟩⟩⟩⟩⟩⟩⟩⟩⟩⟩⟩⟩⟩⟩⟩
def dzB : List (Nat × (Nat → Jvm.ClassFile.Instr)) := [(21, Jvm.ClassFile.Instr.iload), (54, Jvm.ClassFile.Instr.istore)]
abbrev dzBP (q : Nat × (Nat → Jvm.ClassFile.Instr)) : Prop := ∀ (c : ByteArray) (p : Nat) (x y : UInt8) (r : List UInt8), c.data.toList.drop p = x :: y :: r → x.toNat = q.1 → Jvm.ClassFile.Decoder.instr p c p = .ok (q.2 y.toNat, p + 2)
set_option maxRecDepth 20000 in
theorem dzB_0 : dzBP (21, Jvm.ClassFile.Instr.iload) := fun c p x y r h hx => (dz_bind (dz_u1k (k := 21) h hx)).trans ((dz_bind (dz_u1 (dz_tl h))).trans rfl)
set_option maxRecDepth 20000 in
theorem dzB_1 : dzBP (54, Jvm.ClassFile.Instr.istore) := fun c p x y r h hx => (dz_bind (dz_u1k (k := 54) h hx)).trans ((dz_bind (dz_u1 (dz_tl h))).trans rfl)
theorem dzB_ok : ∀ q ∈ dzB, dzBP q := List.forall_mem_cons.mpr ⟨dzB_0, List.forall_mem_cons.mpr ⟨dzB_1, fun _ h => absurd h List.not_mem_nil⟩⟩
def dzC : List (Nat × (Int → Jvm.ClassFile.Instr)) := [(16, Jvm.ClassFile.Instr.bipush)]
abbrev dzCP (q : Nat × (Int → Jvm.ClassFile.Instr)) : Prop := ∀ (c : ByteArray) (p : Nat) (x y : UInt8) (r : List UInt8), c.data.toList.drop p = x :: y :: r → x.toNat = q.1 → Jvm.ClassFile.Decoder.instr p c p = .ok (q.2 (Jvm.ClassFile.Reader.signed 8 y.toNat), p + 2)
set_option maxRecDepth 20000 in
theorem dzC_0 : dzCP (16, Jvm.ClassFile.Instr.bipush) := fun c p x y r h hx => (dz_bind (dz_u1k (k := 16) h hx)).trans ((dz_bind (dz_s1 (dz_tl h))).trans rfl)
theorem dzC_ok : ∀ q ∈ dzC, dzCP q := List.forall_mem_cons.mpr ⟨dzC_0, fun _ h => absurd h List.not_mem_nil⟩
def dzE : List (Nat × (Nat → Jvm.ClassFile.Instr)) := [(180, Jvm.ClassFile.Instr.getfield), (182, Jvm.ClassFile.Instr.invokevirtual), (184, Jvm.ClassFile.Instr.invokestatic), (181, Jvm.ClassFile.Instr.putfield), (20, Jvm.ClassFile.Instr.ldc2_w), (183, Jvm.ClassFile.Instr.invokespecial), (187, Jvm.ClassFile.Instr.new)]
abbrev dzEP (q : Nat × (Nat → Jvm.ClassFile.Instr)) : Prop := ∀ (c : ByteArray) (p : Nat) (x y z : UInt8) (r : List UInt8), c.data.toList.drop p = x :: y :: z :: r → x.toNat = q.1 → Jvm.ClassFile.Decoder.instr p c p = .ok (q.2 (y.toNat * 256 + z.toNat), p + 3)
set_option maxRecDepth 20000 in
theorem dzE_0 : dzEP (180, Jvm.ClassFile.Instr.getfield) := fun c p x y z r h hx => (dz_bind (dz_u1k (k := 180) h hx)).trans ((dz_bind (dz_u2 (dz_tl h))).trans rfl)
set_option maxRecDepth 20000 in
theorem dzE_1 : dzEP (182, Jvm.ClassFile.Instr.invokevirtual) := fun c p x y z r h hx => (dz_bind (dz_u1k (k := 182) h hx)).trans ((dz_bind (dz_u2 (dz_tl h))).trans rfl)
set_option maxRecDepth 20000 in
theorem dzE_2 : dzEP (184, Jvm.ClassFile.Instr.invokestatic) := fun c p x y z r h hx => (dz_bind (dz_u1k (k := 184) h hx)).trans ((dz_bind (dz_u2 (dz_tl h))).trans rfl)
set_option maxRecDepth 20000 in
theorem dzE_3 : dzEP (181, Jvm.ClassFile.Instr.putfield) := fun c p x y z r h hx => (dz_bind (dz_u1k (k := 181) h hx)).trans ((dz_bind (dz_u2 (dz_tl h))).trans rfl)
set_option maxRecDepth 20000 in
theorem dzE_4 : dzEP (20, Jvm.ClassFile.Instr.ldc2_w) := fun c p x y z r h hx => (dz_bind (dz_u1k (k := 20) h hx)).trans ((dz_bind (dz_u2 (dz_tl h))).trans rfl)
set_option maxRecDepth 20000 in
theorem dzE_5 : dzEP (183, Jvm.ClassFile.Instr.invokespecial) := fun c p x y z r h hx => (dz_bind (dz_u1k (k := 183) h hx)).trans ((dz_bind (dz_u2 (dz_tl h))).trans rfl)
set_option maxRecDepth 20000 in
theorem dzE_6 : dzEP (187, Jvm.ClassFile.Instr.new) := fun c p x y z r h hx => (dz_bind (dz_u1k (k := 187) h hx)).trans ((dz_bind (dz_u2 (dz_tl h))).trans rfl)
theorem dzE_ok : ∀ q ∈ dzE, dzEP q := List.forall_mem_cons.mpr ⟨dzE_0, List.forall_mem_cons.mpr ⟨dzE_1, List.forall_mem_cons.mpr ⟨dzE_2, List.forall_mem_cons.mpr ⟨dzE_3, List.forall_mem_cons.mpr ⟨dzE_4, List.forall_mem_cons.mpr ⟨dzE_5, List.forall_mem_cons.mpr ⟨dzE_6, fun _ h => absurd h List.not_mem_nil⟩⟩⟩⟩⟩⟩⟩
def dzF : List (Nat × (Int → Jvm.ClassFile.Instr)) := [(167, Jvm.ClassFile.Instr.goto), (159, Jvm.ClassFile.Instr.if_icmp .eq), (160, Jvm.ClassFile.Instr.if_icmp .ne), (161, Jvm.ClassFile.Instr.if_icmp .lt), (162, Jvm.ClassFile.Instr.if_icmp .ge), (163, Jvm.ClassFile.Instr.if_icmp .gt), (164, Jvm.ClassFile.Instr.if_icmp .le), (153, Jvm.ClassFile.Instr.ifCond .eq), (154, Jvm.ClassFile.Instr.ifCond .ne), (155, Jvm.ClassFile.Instr.ifCond .lt), (156, Jvm.ClassFile.Instr.ifCond .ge), (157, Jvm.ClassFile.Instr.ifCond .gt), (158, Jvm.ClassFile.Instr.ifCond .le), (17, Jvm.ClassFile.Instr.sipush)]
abbrev dzFP (q : Nat × (Int → Jvm.ClassFile.Instr)) : Prop := ∀ (c : ByteArray) (p : Nat) (x y z : UInt8) (r : List UInt8), c.data.toList.drop p = x :: y :: z :: r → x.toNat = q.1 → Jvm.ClassFile.Decoder.instr p c p = .ok (q.2 (Jvm.ClassFile.Reader.signed 16 (y.toNat * 256 + z.toNat)), p + 3)
set_option maxRecDepth 20000 in
theorem dzF_0 : dzFP (167, Jvm.ClassFile.Instr.goto) := fun c p x y z r h hx => (dz_bind (dz_u1k (k := 167) h hx)).trans ((dz_bind (dz_s2 (dz_tl h))).trans rfl)
set_option maxRecDepth 20000 in
theorem dzF_1 : dzFP (159, Jvm.ClassFile.Instr.if_icmp .eq) := fun c p x y z r h hx => (dz_bind (dz_u1k (k := 159) h hx)).trans ((dz_bind (dz_s2 (dz_tl h))).trans rfl)
set_option maxRecDepth 20000 in
theorem dzF_2 : dzFP (160, Jvm.ClassFile.Instr.if_icmp .ne) := fun c p x y z r h hx => (dz_bind (dz_u1k (k := 160) h hx)).trans ((dz_bind (dz_s2 (dz_tl h))).trans rfl)
set_option maxRecDepth 20000 in
theorem dzF_3 : dzFP (161, Jvm.ClassFile.Instr.if_icmp .lt) := fun c p x y z r h hx => (dz_bind (dz_u1k (k := 161) h hx)).trans ((dz_bind (dz_s2 (dz_tl h))).trans rfl)
set_option maxRecDepth 20000 in
theorem dzF_4 : dzFP (162, Jvm.ClassFile.Instr.if_icmp .ge) := fun c p x y z r h hx => (dz_bind (dz_u1k (k := 162) h hx)).trans ((dz_bind (dz_s2 (dz_tl h))).trans rfl)
set_option maxRecDepth 20000 in
theorem dzF_5 : dzFP (163, Jvm.ClassFile.Instr.if_icmp .gt) := fun c p x y z r h hx => (dz_bind (dz_u1k (k := 163) h hx)).trans ((dz_bind (dz_s2 (dz_tl h))).trans rfl)
set_option maxRecDepth 20000 in
theorem dzF_6 : dzFP (164, Jvm.ClassFile.Instr.if_icmp .le) := fun c p x y z r h hx => (dz_bind (dz_u1k (k := 164) h hx)).trans ((dz_bind (dz_s2 (dz_tl h))).trans rfl)
set_option maxRecDepth 20000 in
theorem dzF_7 : dzFP (153, Jvm.ClassFile.Instr.ifCond .eq) := fun c p x y z r h hx => (dz_bind (dz_u1k (k := 153) h hx)).trans ((dz_bind (dz_s2 (dz_tl h))).trans rfl)
set_option maxRecDepth 20000 in
theorem dzF_8 : dzFP (154, Jvm.ClassFile.Instr.ifCond .ne) := fun c p x y z r h hx => (dz_bind (dz_u1k (k := 154) h hx)).trans ((dz_bind (dz_s2 (dz_tl h))).trans rfl)
set_option maxRecDepth 20000 in
theorem dzF_9 : dzFP (155, Jvm.ClassFile.Instr.ifCond .lt) := fun c p x y z r h hx => (dz_bind (dz_u1k (k := 155) h hx)).trans ((dz_bind (dz_s2 (dz_tl h))).trans rfl)
set_option maxRecDepth 20000 in
theorem dzF_10 : dzFP (156, Jvm.ClassFile.Instr.ifCond .ge) := fun c p x y z r h hx => (dz_bind (dz_u1k (k := 156) h hx)).trans ((dz_bind (dz_s2 (dz_tl h))).trans rfl)
set_option maxRecDepth 20000 in
theorem dzF_11 : dzFP (157, Jvm.ClassFile.Instr.ifCond .gt) := fun c p x y z r h hx => (dz_bind (dz_u1k (k := 157) h hx)).trans ((dz_bind (dz_s2 (dz_tl h))).trans rfl)
set_option maxRecDepth 20000 in
theorem dzF_12 : dzFP (158, Jvm.ClassFile.Instr.ifCond .le) := fun c p x y z r h hx => (dz_bind (dz_u1k (k := 158) h hx)).trans ((dz_bind (dz_s2 (dz_tl h))).trans rfl)
set_option maxRecDepth 20000 in
theorem dzF_13 : dzFP (17, Jvm.ClassFile.Instr.sipush) := fun c p x y z r h hx => (dz_bind (dz_u1k (k := 17) h hx)).trans ((dz_bind (dz_s2 (dz_tl h))).trans rfl)
theorem dzF_ok : ∀ q ∈ dzF, dzFP q := List.forall_mem_cons.mpr ⟨dzF_0, List.forall_mem_cons.mpr ⟨dzF_1, List.forall_mem_cons.mpr ⟨dzF_2, List.forall_mem_cons.mpr ⟨dzF_3, List.forall_mem_cons.mpr ⟨dzF_4, List.forall_mem_cons.mpr ⟨dzF_5, List.forall_mem_cons.mpr ⟨dzF_6, List.forall_mem_cons.mpr ⟨dzF_7, List.forall_mem_cons.mpr ⟨dzF_8, List.forall_mem_cons.mpr ⟨dzF_9, List.forall_mem_cons.mpr ⟨dzF_10, List.forall_mem_cons.mpr ⟨dzF_11, List.forall_mem_cons.mpr ⟨dzF_12, List.forall_mem_cons.mpr ⟨dzF_13, fun _ h => absurd h List.not_mem_nil⟩⟩⟩⟩⟩⟩⟩⟩⟩⟩⟩⟩⟩⟩
set_option maxRecDepth 20000 in
theorem dzG_ok (c : ByteArray) (p : Nat) (x y z : UInt8) (r : List UInt8) (h : c.data.toList.drop p = x :: y :: z :: r) (hx : x.toNat = 132) : Jvm.ClassFile.Decoder.instr p c p = .ok (Jvm.ClassFile.Instr.iinc y.toNat (Jvm.ClassFile.Reader.signed 8 z.toNat), p + 3) := by
  refine (dz_bind (dz_u1 h)).trans ?_
  rw [hx] <;> exact (dz_bind (dz_u1 (dz_tl h))).trans ((dz_bind (dz_s1 (dz_tl (dz_tl h)))).trans rfl)
def dz_ck (k j : Nat) (l : List UInt8) : Option (Jvm.ClassFile.Instr × Nat) :=
  match k, l with
  | 0, x :: _ => match dzA[j]? with | some q => bif Nat.beq x.toNat q.1 then some (q.2, 1) else none | none => none
  | 1, x :: y :: _ => match dzB[j]? with | some q => bif Nat.beq x.toNat q.1 then some (q.2 y.toNat, 2) else none | none => none
  | 2, x :: y :: _ => match dzC[j]? with | some q => bif Nat.beq x.toNat q.1 then some (q.2 (Jvm.ClassFile.Reader.signed 8 y.toNat), 2) else none | none => none
  | 3, x :: y :: z :: _ => match dzE[j]? with | some q => bif Nat.beq x.toNat q.1 then some (q.2 (y.toNat * 256 + z.toNat), 3) else none | none => none
  | 4, x :: y :: z :: _ => match dzF[j]? with | some q => bif Nat.beq x.toNat q.1 then some (q.2 (Jvm.ClassFile.Reader.signed 16 (y.toNat * 256 + z.toNat)), 3) else none | none => none
  | 5, x :: y :: z :: _ => bif Nat.beq x.toNat 132 then some (Jvm.ClassFile.Instr.iinc y.toNat (Jvm.ClassFile.Reader.signed 8 z.toNat), 3) else none
  | _, _ => none
theorem dz_if {α : Type} {x k : Nat} {a b : α} (h : (bif Nat.beq x k then some a else none) = some b) : x = k ∧ a = b := by
  cases e : Nat.beq x k with
  | true => rw [e] at h; exact ⟨Nat.eq_of_beq_eq_true e, Option.some.inj h⟩
  | false => rw [e] at h; cases h
theorem dz_ok {c : ByteArray} {k j p n : Nat} {i : Jvm.ClassFile.Instr} {l : List UInt8} (hl : c.data.toList.drop p = l) (h : dz_ck k j l = some (i, n)) : decode c p = .ok (i, n) := by
  unfold dz_ck at h
  split at h
  · split at h
    · rename_i q hq; obtain ⟨hx, e⟩ := dz_if h; cases e; exact dz_dec (dzA_ok q (List.mem_of_getElem? hq) c p _ _ hl hx)
    · cases h
  · split at h
    · rename_i q hq; obtain ⟨hx, e⟩ := dz_if h; cases e; exact dz_dec (dzB_ok q (List.mem_of_getElem? hq) c p _ _ _ hl hx)
    · cases h
  · split at h
    · rename_i q hq; obtain ⟨hx, e⟩ := dz_if h; cases e; exact dz_dec (dzC_ok q (List.mem_of_getElem? hq) c p _ _ _ hl hx)
    · cases h
  · split at h
    · rename_i q hq; obtain ⟨hx, e⟩ := dz_if h; cases e; exact dz_dec (dzE_ok q (List.mem_of_getElem? hq) c p _ _ _ _ hl hx)
    · cases h
  · split at h
    · rename_i q hq; obtain ⟨hx, e⟩ := dz_if h; cases e; exact dz_dec (dzF_ok q (List.mem_of_getElem? hq) c p _ _ _ _ hl hx)
    · cases h
  · obtain ⟨hx, e⟩ := dz_if h; cases e; exact dz_dec (dzG_ok c p _ _ _ _ hl hx)
  · cases h
def dz_rn : Nat → List UInt8 → List (Nat × Nat) → Option (List (Nat × Jvm.ClassFile.Instr × Nat))
  | _, _, [] => some []
  | p, l, k :: ks => match dz_ck k.1 k.2 l with
    | none => none
    | some (i, n) => match dz_rn (p + n) (l.drop n) ks with
      | none => none
      | some L => some ((p, i, n) :: L)
theorem dz_all {c : ByteArray} : ∀ (ks : List (Nat × Nat)) (p : Nat) (l : List UInt8) (L : List (Nat × Jvm.ClassFile.Instr × Nat)), c.data.toList.drop p = l → dz_rn p l ks = some L → ∀ q ∈ L, decode c q.1 = .ok q.2
  | [], p, l, L, hl, h => by
    have e : L = [] := (Option.some.inj h).symm
    subst e; exact fun _ h => absurd h List.not_mem_nil
  | k :: ks, p, l, L, hl, h => by
    unfold dz_rn at h
    split at h
    · cases h
    · rename_i i n hc
      split at h
      · cases h
      · rename_i M hM
        cases h
        refine List.forall_mem_cons.mpr ⟨dz_ok hl hc, dz_all ks (p + n) (l.drop n) M ?_ hM⟩
        rw [← hl, List.drop_drop]
theorem dz_at {c : ByteArray} {p : Nat} {ks : List (Nat × Nat)} {L : List (Nat × Jvm.ClassFile.Instr × Nat)} (h : dz_rn p (c.data.toList.drop p) ks = some L) (i : Nat) {pc n : Nat} {t : Jvm.ClassFile.Instr} (hq : L[i]? = some (pc, t, n)) : decode c pc = .ok (t, n) :=
  dz_all ks p _ L rfl h (pc, t, n) (List.mem_of_getElem? hq)
/-! ===== END ===== -/
