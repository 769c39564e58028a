theorem mB_r {f : Int → Int32} (hf : ∀ z, -30 ≤ z → z ≤ 30 → ¬ f z < 0) : ∀ k, k ≤ 60 → mB f (k + 1) = (iI (sBs f (-30) k).1, (sBs f (-30) k).2) ∧ ¬ (sBs f (-30) k).2 < 0
  | 0, _ => ⟨mB_y1 (show (-1 : Int32) < 0 by decide), hf _ (by omega) (by omega)⟩
  | k + 1, hk => by
    obtain ⟨ih, h0⟩ := mB_r hf k (by omega)
    have e : (-30 : Int) + ((k + 1 : Nat) : Int) = -30 + 1 + (k : Int) := by omega
    by_cases c : f (-30 + 1 + (k : Int)) < (sBs f (-30) k).2
    · rw [sBs_y c]
      refine ⟨?_, hf _ (by omega) (by omega)⟩
      rw [mB_y2 (by rw [ih, e]; exact c), e]
    · rw [sBs_n (Int32.not_lt.mp c)]
      refine ⟨?_, h0⟩
      rw [mB_n (by rw [ih]; exact h0) (by rw [ih, e]; exact Int32.not_lt.mp c), ih]
/-- the reference's best slope is the class's -/
theorem mB_try {g h s : Nat → Int32} {j p : Nat} (hj : j < 2) (hh : 50 ≤ (h p).toInt ∧ (h p).toInt ≤ 3000) (hg : 50 ≤ (g 0).toInt ∧ (g 0).toInt ≤ 1000) (hs : sOk (s (1 - j))) : (mB (sFar g h s j p) 61).1 = iI (sTry g h s j p) ∧ sOk (iI (sTry g h s j p)) := by
  have hs1 := hs
  unfold sOk at hs1
  obtain ⟨q1, q2, q3⟩ := sPlace_i (g := g) (j := 1 - j) (z := (s (1 - j)).toInt) (hh := h p) (by omega) (by omega) hh hg
  rw [iI_self] at q1
  have hB2 : 0 ≤ (if 1 - j = 0 then 0 else (g 0).toInt) ∧ (if 1 - j = 0 then 0 else (g 0).toInt) ≤ 1000 := by split <;> omega
  have hB : 0 ≤ (if j = 0 then 0 else (g 0).toInt) ∧ (if j = 0 then 0 else (g 0).toInt) ≤ 1000 := by split <;> omega
  have hf : ∀ z, -30 ≤ z → z ≤ 30 → ¬ sFar g h s j p z < 0 := by
    intro z z1 z2 q
    obtain ⟨r1, r2, r3⟩ := sPlace_i (g := g) (j := j) (z := z) (hh := h p) ⟨z1, z2⟩ hj hh hg
    have e : (sPlace g (nI j) (iI z) (h p) - sPlace g (nI (1 - j)) (s (1 - j)) (h p)).toInt = (sPlace g (nI j) (iI z) (h p)).toInt - (sPlace g (nI (1 - j)) (s (1 - j)) (h p)).toInt := by
      rw [Int32.toInt_sub, Int.bmod_eq_of_le (by omega) (by omega)]
    have := mAbs_nn (x := sPlace g (nI j) (iI z) (h p) - sPlace g (nI (1 - j)) (s (1 - j)) (h p)) (by rw [e]; omega)
    unfold sFar at q
    rw [Int32.lt_iff_toInt_lt, Int32.toInt_zero] at q
    omega
  have b := sTry_fm g h s j p
  refine ⟨by rw [(mB_r hf 60 (Nat.le_refl _)).1]; rfl, sOk_i ⟨b.1, b.2.1⟩⟩
theorem r_turn {K : CK} {M : SK} {j : Nat} (h : sRel K M) (hj : j < 2) : sRel (qN K, qLit K ^^^ (1 <<< (nI j &&& 31)), qH K, qT K, qS K, qG K, qK K, qLo K, qLf K, qNm K) (kN M, upd (kO M) j (1 - kO M j), kH M, kT2 M, kS M, kGs M, kK M, kLo M, kLf M, kNm M) := by
  obtain ⟨⟨k1, k2, k3⟩, e1, e2, e3⟩ := h
  refine ⟨⟨k1, mBin_x k2 hj, k3⟩, e1, ?_, e3⟩
  show qLit K ^^^ (1 <<< (nI j &&& 31)) = mLit (upd (kO M) j (1 - kO M j))
  rw [e2]; exact mLit_x k2 hj
theorem r_set {K : CK} {M : SK} {j : Nat} {y : Int32} (h : sRel K M) (hj : j < 4) (hy : mLeast j ≤ y ∧ y ≤ mMost j) : sRel (qN K, qLit K, qH K, qT K, qS K, upd (qG K) j y, qK K, qLo K, qLf K, qNm K) (kN M, kO M, kH M, kT2 M, kS M, upd (kGs M) j y, kK M, kLo M, kLf M, kNm M) := by
  obtain ⟨⟨k1, k2, k3, k4, k5, k6, k7, k8, k9, k10, k11⟩, e1, e2, H, T, S, G, e3⟩ := h
  have hg : ∀ i, i < 4 → upd (qG K) j y i = upd (kGs M) j y i := fun i hi => by
    unfold upd; split
    · rfl
    · exact G i hi
  have b : (j = 0 → 50 ≤ y.toInt ∧ y.toInt ≤ 1000) ∧ (j = 1 → 0 ≤ y.toInt ∧ y.toInt ≤ 1000) ∧ (j = 2 → 1 ≤ y.toInt ∧ y.toInt ≤ 500) ∧ (j = 3 → 0 ≤ y.toInt ∧ y.toInt ≤ 100) := by
    refine ⟨?_, ?_, ?_, ?_⟩ <;> rintro rfl
    · exact i32_bnd (by decide +kernel) (by decide +kernel) hy
    · exact i32_bnd (by decide +kernel) (by decide +kernel) hy
    · exact i32_bnd (by decide +kernel) (by decide +kernel) hy
    · exact i32_bnd (by decide +kernel) (by decide +kernel) hy
  refine ⟨⟨k1, k2, k3, k4, k5, k6, k7, ?_, ?_, ?_, ?_⟩, e1, e2, H, T, S, hg, e3⟩
  · show 50 ≤ (upd (kGs M) j y 0).toInt ∧ (upd (kGs M) j y 0).toInt ≤ 1000
    unfold upd; split
    · exact b.1 (by omega)
    · exact k8
  · show 0 ≤ (upd (kGs M) j y 1).toInt ∧ (upd (kGs M) j y 1).toInt ≤ 1000
    unfold upd; split
    · exact b.2.1 (by omega)
    · exact k9
  · show 1 ≤ (upd (kGs M) j y 2).toInt ∧ (upd (kGs M) j y 2).toInt ≤ 500
    unfold upd; split
    · exact b.2.2.1 (by omega)
    · exact k10
  · show 0 ≤ (upd (kGs M) j y 3).toInt ∧ (upd (kGs M) j y 3).toInt ≤ 100
    unfold upd; split
    · exact b.2.2.2 (by omega)
    · exact k11
theorem sPack_mem (t : Nat → Int32) (x : Int32) (f : Nat → Int32) : ∀ k i, i < sKeep t x k → ∃ m, m < k ∧ sPack t x f k i = f m
  | 0, i, h => absurd h (Nat.not_lt_zero i)
  | k + 1, i, h => by
    unfold sPack
    unfold sKeep at h
    split
    · rename_i c
      rw [if_pos c] at h
      unfold upd
      split
      · exact ⟨k, Nat.lt_succ_self k, rfl⟩
      · obtain ⟨m, a, b⟩ := sPack_mem t x f k i (by omega)
        exact ⟨m, by omega, b⟩
    · rename_i c
      rw [if_neg c] at h
      obtain ⟨m, a, b⟩ := sPack_mem t x f k i h
      exact ⟨m, by omega, b⟩
theorem r_thin {K : CK} {M : SK} {x : Int32} {h2 t2 : Nat → Int32} (h : sRel K M) (hp : ∀ i, i < sKeep (kT2 M) x (kN M) → h2 i = sPack (kT2 M) x (kH M) (kN M) i ∧ t2 i = sPack (kT2 M) x (kT2 M) (kN M) i) :
    sRel (sKeep (qT K) x (qN K), qLit K, sPack (qT K) x (qH K) (qN K), sPack (qT K) x (qT K) (qN K), qS K, qG K, qK K, qLo K, qLf K, qNm K) (sKeep (kT2 M) x (kN M), kO M, h2, t2, kS M, kGs M, kK M, kLo M, kLf M, kNm M) := by
  obtain ⟨⟨k1, k2, k3, k4, k5, k6, k7, k8⟩, e1, e2, H, T, e3⟩ := h
  have ek : sKeep (qT K) x (kN M) = sKeep (kT2 M) x (kN M) := cg_Keep T
  have hl := sKeep_le (kT2 M) x (kN M)
  rw [e1]
  refine ⟨⟨by show sKeep (kT2 M) x (kN M) ≤ 6; omega, k2, k3, k4, k5, fun i hi => ?_, fun i hi => ?_, k8⟩, ek, e2, fun i hi => ?_, fun i hi => ?_, e3⟩
  · have hi : i < sKeep (kT2 M) x (kN M) := hi
    obtain ⟨m, a, b⟩ := sPack_mem (kT2 M) x (kH M) (kN M) i hi
    show 50 ≤ (h2 i).toInt ∧ (h2 i).toInt ≤ 3000
    rw [(hp i hi).1, b]; exact k6 m a
  · have hi : i < sKeep (kT2 M) x (kN M) := hi
    obtain ⟨m, a, b⟩ := sPack_mem (kT2 M) x (kT2 M) (kN M) i hi
    show 1 ≤ (t2 i).toInt ∧ (t2 i).toInt ≤ 100
    rw [(hp i hi).2, b]; exact k7 m a
  · have hi : i < sKeep (kT2 M) x (kN M) := hi
    show sPack (qT K) x (qH K) (kN M) i = h2 i
    rw [(hp i hi).1]; exact cg_Pack H T (Nat.le_refl _) i (by rw [ek]; exact hi)
  · have hi : i < sKeep (kT2 M) x (kN M) := hi
    show sPack (qT K) x (qT K) (kN M) i = t2 i
    rw [(hp i hi).2]; exact cg_Pack T T (Nat.le_refl _) i (by rw [ek]; exact hi)
