set_option maxHeartbeats 4000000 in
set_option maxRecDepth 100000 in
theorem law_loop {p : Program} {l : Launch} {e : Env} {s : State} {m : MethodId} {below : List Frame} {meth : Method} {c : Code} {b L : Nat} {xs : Nat → Int32} {dC : Nat → ClassId} {dI : Nat → Nat → Nat} {cI cZ cQ : ClassId} {ak av : Nat → Nat} {xa ma : Nat} (K : LC p s m meth c b L xs dC dI cI cZ cQ ak av) (hr : meth.sig.returnType = ret) (hlocks : meth.locks = false) (hL : L ≤ 2560) : ∀ (nn : Nat) (y : Int32) (u v : US) (H : Heap) (locs : List Loc) (ls : Array Slot), 0 ≤ y.toInt → y.toInt ≤ 2565 → (2570 - y.toInt).toNat < nn → LI dC dI cI cZ cQ s xa ma u v H locs → lv_has ls 4 [(0, .ref b), (1, .ref xa), (2, .ref ma), (3, .int y)] → W p l e room_1 s m #[Value.ref b] below meth c H locs 76 4711 (lw_Z below #[Value.ref b] s) (F0 m 18 ls []) := by
  intro nn
  induction nn with
  | zero =>
    intro y u v H locs ls h0 h1 hm
    exact absurd hm (Nat.not_lt_zero _)
  | succ nn ih =>
    intro y u v H locs ls h0 h1 hm I hl
    obtain ⟨hx, hb, hml, hown, hts, hX, hbl, hK, hN, hSV⟩ := id K
    obtain ⟨hu, hv, hxa, hma, hR, hP, hD, hS⟩ := id I
    have hbA : ¬ AL s b := Nat.not_le.mpr hbl
    refine lv_iload_n hx hb dL_law_18 rfl (lv_at hl 3 rfl) ?_
    refine lv_aload_n hx hb dL_law_19 rfl (lv_at hl 0 rfl) ?_
    refine va_slen hx hb hX hbl hbA hS dL_law_20 ?_
    refine lv_iconst (v := 5) hx hb dL_law_21 (by decide) ?_
    refine lv_isub hx hb dL_law_22 ?_
    have f1 : (Int32.ofNat L - 5).toInt = (L : Int) - 5 := subC (a := nI L) (nI_toInt (by omega)) (show (5 : Int32).toInt = 5 from rfl) (by omega) (by omega)
    refine lv_icmp_gt (tgt := 1254) hx hb dL_law_23 (by decide) (fun c1 => ?_) (fun c1 => ?_)
    · refine lv_iconst (v := 1) hx hb dL_law_1254 (by decide) ?_
      refine va_forget (fun q hq => hS.2.2 q hq) ?_
      refine W.widen (k := 600000) (n := 7302250) (by decide) (by decide) ?_
      exact lw_ret hx hb hr hlocks dL_law_1255
    · have d1 : y.toInt ≤ (L : Int) - 5 := nltC f1 rfl c1
      have step : ∀ (u v : US) (H : Heap) (locs : List Loc), LI dC dI cI cZ cQ s xa ma u v H locs → W p l e room_1 s m #[Value.ref b] below meth c H locs 76 4711 (lw_Z below #[Value.ref b] s) (F0 m 1248 ls []) := by
        intro u v H locs I
        obtain ⟨z, ez⟩ : ∃ z : Int32, z = y + 5 := ⟨_, rfl⟩
        have iz : z.toInt = y.toInt + 5 := by rw [ez]; exact addC rfl (show (5 : Int32).toInt = 5 from rfl) (by omega) (by omega)
        refine lv_iinc (v := z) (lv' := [(3, .int z), (0, .ref b), (1, .ref xa), (2, .ref ma)]) hx hb dL_law_1248 hl (k := 3) rfl (by rw [ez]; rfl) (by decide) rfl (fun ls hl => ?_)
        refine lv_goto (tgt := 18) hx hb dL_law_1251 (by decide) ?_
        exact ih z u v H locs ls (by omega) (by omega) (by omega) I (lv_sub hl [1, 2, 3, 0] rfl)
      refine lv_aload_n hx hb dL_law_26 rfl (lv_at hl 0 rfl) ?_
      refine lv_iload_n hx hb dL_law_27 rfl (lv_at hl 3 rfl) ?_
      refine va_sld hx hb hX hbl hbA hS (inC rfl (by omega) (by omega)) dL_law_28 ?_
      refine lv_bipush (v := 31) hx hb dL_law_29 (by decide) ?_
      refine lv_iand hx hb dL_law_31 ?_
      obtain ⟨j, hj, ej⟩ := pk_andE (xs y.toNatClampNeg) (m := 31) 5 (by decide)
      rw [ej]
      refine sw32 (P := fun j => W p l e room_1 s m #[Value.ref b] below meth c H locs 76 4711 (lw_Z below #[Value.ref b] s) (F0 m 32 ls [.int (nI j)])) ?_ ?_ ?_ ?_ ?_ ?_ ?_ ?_ ?_ ?_ ?_ ?_ ?_ ?_ ?_ ?_ ?_ ?_ ?_ ?_ ?_ ?_ ?_ ?_ ?_ ?_ ?_ ?_ ?_ ?_ ?_ ?_ j hj
      · refine lv_tableIn (off := 144) (tgt := 176) hx hb dL_law_32 (by decide) (by decide) (by decide) (by decide) ?_
        exact lc_0 K hL y h0 d1 u v H locs I ls hl step
      · refine lv_tableIn (off := 177) (tgt := 209) hx hb dL_law_32 (by decide) (by decide) (by decide) (by decide) ?_
        exact lc_1 K hL y h0 d1 u v H locs I ls hl step
      · refine lv_tableIn (off := 210) (tgt := 242) hx hb dL_law_32 (by decide) (by decide) (by decide) (by decide) ?_
        exact lc_2 K hL y h0 d1 u v H locs I ls hl step
      · refine lv_tableIn (off := 243) (tgt := 275) hx hb dL_law_32 (by decide) (by decide) (by decide) (by decide) ?_
        exact lc_3 K hL y h0 d1 u v H locs I ls hl step
      · refine lv_tableIn (off := 276) (tgt := 308) hx hb dL_law_32 (by decide) (by decide) (by decide) (by decide) ?_
        exact lc_4 K hL y h0 d1 u v H locs I ls hl step
      · refine lv_tableIn (off := 309) (tgt := 341) hx hb dL_law_32 (by decide) (by decide) (by decide) (by decide) ?_
        exact lc_5 K hL y h0 d1 u v H locs I ls hl step
      · refine lv_tableIn (off := 342) (tgt := 374) hx hb dL_law_32 (by decide) (by decide) (by decide) (by decide) ?_
        exact lc_6 K hL y h0 d1 u v H locs I ls hl step
      · refine lv_tableIn (off := 375) (tgt := 407) hx hb dL_law_32 (by decide) (by decide) (by decide) (by decide) ?_
        exact lc_7 K hL y h0 d1 u v H locs I ls hl step
      · refine lv_tableIn (off := 398) (tgt := 430) hx hb dL_law_32 (by decide) (by decide) (by decide) (by decide) ?_
        exact lc_8 K hL y h0 d1 u v H locs I ls hl step
      · refine lv_tableIn (off := 431) (tgt := 463) hx hb dL_law_32 (by decide) (by decide) (by decide) (by decide) ?_
        exact lc_9 K hL y h0 d1 u v H locs I ls hl step
      · refine lv_tableIn (off := 454) (tgt := 486) hx hb dL_law_32 (by decide) (by decide) (by decide) (by decide) ?_
        exact lc_10 K hL y h0 d1 u v H locs I ls hl step
      · refine lv_tableIn (off := 477) (tgt := 509) hx hb dL_law_32 (by decide) (by decide) (by decide) (by decide) ?_
        exact lc_11 K hL y h0 d1 u v H locs I ls hl step
      · refine lv_tableIn (off := 500) (tgt := 532) hx hb dL_law_32 (by decide) (by decide) (by decide) (by decide) ?_
        exact lc_12 K hL y h0 d1 u v H locs I ls hl step
      · refine lv_tableIn (off := 563) (tgt := 595) hx hb dL_law_32 (by decide) (by decide) (by decide) (by decide) ?_
        exact lc_13 K hL y h0 d1 u v H locs I ls hl step
      · refine lv_tableIn (off := 576) (tgt := 608) hx hb dL_law_32 (by decide) (by decide) (by decide) (by decide) ?_
        exact lc_14 K hL y h0 d1 u v H locs I ls hl step
      · refine lv_tableIn (off := 589) (tgt := 621) hx hb dL_law_32 (by decide) (by decide) (by decide) (by decide) ?_
        exact lc_15 K hL y h0 d1 u v H locs I ls hl step
      · refine lv_tableIn (off := 602) (tgt := 634) hx hb dL_law_32 (by decide) (by decide) (by decide) (by decide) ?_
        exact lc_16 K hL y h0 d1 u v H locs I ls hl step
      · refine lv_tableIn (off := 635) (tgt := 667) hx hb dL_law_32 (by decide) (by decide) (by decide) (by decide) ?_
        exact lc_17 K hL y h0 d1 u v H locs I ls hl step
      · refine lv_tableIn (off := 648) (tgt := 680) hx hb dL_law_32 (by decide) (by decide) (by decide) (by decide) ?_
        exact lc_18 K hL y h0 d1 u v H locs I ls hl step
      · refine lv_tableIn (off := 721) (tgt := 753) hx hb dL_law_32 (by decide) (by decide) (by decide) (by decide) ?_
        exact lc_19 K hL y h0 d1 u v H locs I ls hl step
      · refine lv_tableIn (off := 744) (tgt := 776) hx hb dL_law_32 (by decide) (by decide) (by decide) (by decide) ?_
        exact lc_20 K hL y h0 d1 u v H locs I ls hl step
      · refine lv_tableIn (off := 787) (tgt := 819) hx hb dL_law_32 (by decide) (by decide) (by decide) (by decide) ?_
        exact lc_21 K hL y h0 d1 u v H locs I ls hl step
      · refine lv_tableIn (off := 830) (tgt := 862) hx hb dL_law_32 (by decide) (by decide) (by decide) (by decide) ?_
        exact lc_22 K hL y h0 d1 u v H locs I ls hl step
      · refine lv_tableIn (off := 863) (tgt := 895) hx hb dL_law_32 (by decide) (by decide) (by decide) (by decide) ?_
        exact lc_23 K hL y h0 d1 u v H locs I ls hl step
      · refine lv_tableIn (off := 896) (tgt := 928) hx hb dL_law_32 (by decide) (by decide) (by decide) (by decide) ?_
        exact lc_24 K hL y h0 d1 u v H locs I ls hl step
      · refine lv_tableIn (off := 929) (tgt := 961) hx hb dL_law_32 (by decide) (by decide) (by decide) (by decide) ?_
        exact lc_25 K hL y h0 d1 u v H locs I ls hl step
      · refine lv_tableIn (off := 962) (tgt := 994) hx hb dL_law_32 (by decide) (by decide) (by decide) (by decide) ?_
        exact lc_26 K hL y h0 d1 u v H locs I ls hl step
      · refine lv_tableIn (off := 1021) (tgt := 1053) hx hb dL_law_32 (by decide) (by decide) (by decide) (by decide) ?_
        exact lc_27 K hL y h0 d1 u v H locs I ls hl step
      · refine lv_tableIn (off := 1054) (tgt := 1086) hx hb dL_law_32 (by decide) (by decide) (by decide) (by decide) ?_
        exact lc_28 K hL y h0 d1 u v H locs I ls hl step
      · refine lv_tableIn (off := 1097) (tgt := 1129) hx hb dL_law_32 (by decide) (by decide) (by decide) (by decide) ?_
        exact lc_29 K hL y h0 d1 u v H locs I ls hl step
      · refine lv_tableIn (off := 1170) (tgt := 1202) hx hb dL_law_32 (by decide) (by decide) (by decide) (by decide) ?_
        exact lc_30 K hL y h0 d1 u v H locs I ls hl step
      · refine lv_tableIn (off := 1193) (tgt := 1225) hx hb dL_law_32 (by decide) (by decide) (by decide) (by decide) ?_
        exact lc_31 K hL y h0 d1 u v H locs I ls hl step
