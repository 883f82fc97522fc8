theorem dk_end {A B F0 F : Nat → Int32} {n k t t' : Int} {a : Nat} (ha : a < 8) (hA : rg 14 0 7 A) (hB : rg 14 0 7 B) (hn : n ≤ 14) (q0 : dtI A B n a t F0) (q : dkI A B n a k F0 F) (hk : n ≤ k) (ht0 : 0 ≤ t) (ht : t' = t + 1) : dtI A B n a t' F := by
  subst ht
  refine ⟨dk_rg q0 q, fun few hm he => ⟨q.2.1 few hm he, fun j hj hd => ?_⟩⟩
  have up0 := (q0.2 few hm he).2
  have qj := q.1 j hj
  by_cases c : dd few a j ≤ t
  · have := up0 j hj c; omega
  · have m1 := (hm.2 a j ha hj).1.2
    have edge : ∀ z : Nat, z < 8 → dd few z j = 1 → dd few a z ≤ t → (F j).toInt ≤ dd few a z + 1 := by
      intro z hz e1 e2
      obtain ⟨p, hp, w⟩ := (he z j hz hj).mp e1
      have qp := q.2.2 p (by omega)
      have := up0 z hz e2
      rcases w with ⟨w1, w2⟩ | ⟨w1, w2⟩
      · rw [clC w1, clC w2] at qp
        have q1 := qp.1
        rw [show ((z : Int)).toNat = z by omega, show ((j : Int)).toNat = j by omega] at q1
        omega
      · rw [clC w1, clC w2] at qp
        have q1 := qp.2
        rw [show ((z : Int)).toNat = z by omega, show ((j : Int)).toNat = j by omega] at q1
        omega
    by_cases c1 : dd few a j = 1
    · have za : dd few a a = 0 := (hm.2 a a ha ha).2.1.mpr rfl
      have := edge a ha c1 (by omega)
      omega
    · rcases m1 with h7 | h7
      · obtain ⟨z, hz, e1, e2⟩ := (hm.2 a j ha hj).2.2.2.2 (by omega) h7
        have := edge z hz e2 (by omega)
        omega
      · have := (dk_rg q0 q j hj).2; omega
