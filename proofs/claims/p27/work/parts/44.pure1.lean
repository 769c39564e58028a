/-! the class's numbers and the reference's: the same -/
theorem mNear_s (h : Nat → Int32) (x : Int32) (p : Nat) : mNear h x p = sNear h x p := by
  funext i; unfold mNear sNear; rw [mAbs_sub (h i) x, mAbs_sub (h p) x]
theorem i32_lt1 {x y : Int32} (hy : 0 ≤ y.toInt ∧ y.toInt ≤ 100) : x < y + 1 ↔ x ≤ y := by
  have e : (y + 1).toInt = y.toInt + 1 := by
    rw [Int32.toInt_add, show (1 : Int32).toInt = 1 by decide +kernel]
    exact Int.bmod_eq_of_le (by omega) (by omega)
  rw [Int32.lt_iff_toInt_lt, Int32.le_iff_toInt_le, e]; omega
theorem sLo_mC {h t s g : Nat → Int32} (hg : 0 ≤ (g 3).toInt ∧ (g 3).toInt ≤ 100) : ∀ k, k ≤ 1000 →
    (sLo h t g (s 0) (s 1) k = (-1, g 3 + 1) ∧ mC (sClose 3 h t s g) (mD h s g) k = -99999) ∨
    (∃ p, p < k ∧ sLo h t g (s 0) (s 1) k = (nI p, mAbs (mD h s g p)) ∧ mC (sClose 3 h t s g) (mD h s g) k = nI p ∧ mAbs (mD h s g p) ≤ g 3)
  | 0, _ => Or.inl ⟨rfl, rfl⟩
  | k + 1, hk => by
    have ih := sLo_mC (h := h) (t := t) (s := s) hg k (by omega)
    have ed : mD h s g k = sDist h g k (s 0) (s 1) := rfl
    by_cases hs : sSeen h t g (g 1) k = true
    · rcases ih with ⟨e1, e2⟩ | ⟨p, hp, e1, e2, e3⟩
      · by_cases c : mAbs (sDist h g k (s 0) (s 1)) ≤ g 3
        · refine Or.inr ⟨k, Nat.lt_succ_self k, ?_, ?_, c⟩
          · exact sLo_y (by rw [e1]; exact (i32_lt1 hg).mpr c) hs
          · exact mC_y1 (sClose_i (by unfold sPair; rw [hs]; rfl) c) e2
        · refine Or.inl ⟨?_, ?_⟩
          · rw [sLo_n1 (by rw [e1]; exact Int32.not_lt.mp (fun q => c ((i32_lt1 hg).mp q))), e1]
          · rw [mC_n1 (fun q => c (sClose_2 q)), e2]
      · by_cases c : mAbs (sDist h g k (s 0) (s 1)) < mAbs (mD h s g p)
        · have c2 : mAbs (sDist h g k (s 0) (s 1)) ≤ g 3 := Int32.le_trans (Int32.le_of_lt c) e3
          refine Or.inr ⟨k, Nat.lt_succ_self k, ?_, ?_, c2⟩
          · exact sLo_y (by rw [e1]; exact c) hs
          · exact mC_y2 (sClose_i (by unfold sPair; rw [hs]; rfl) c2) e2 (by omega) c
        · refine Or.inr ⟨p, Nat.lt_succ_of_lt hp, ?_, ?_, e3⟩
          · rw [sLo_n1 (by rw [e1]; exact Int32.not_lt.mp c), e1]
          · rw [mC_n2 e2 (by omega) (Int32.not_lt.mp c), e2]
    · have n2 : ¬ sClose 3 h t s g k = true := fun q => hs (Bool.and_eq_true_iff.mp (sClose_1 q)).2
      rw [sLo_n2 hs, mC_n1 n2]
      rcases ih with a | ⟨p, hp, a⟩
      · exact Or.inl a
      · exact Or.inr ⟨p, Nat.lt_succ_of_lt hp, a⟩
theorem mC_none {b : Nat → Bool} {d : Nat → Int32} (hb : ∀ k, b k = false) : ∀ k, mC b d k = -99999
  | 0 => rfl
  | k + 1 => by rw [mC_n1 (by rw [hb k]; decide), mC_none hb k]
theorem sMeet_ok {g : Nat → Int32} {x y : Int32} (hx : sOk x) (hy : sOk y) (hg : 50 ≤ (g 0).toInt ∧ (g 0).toInt ≤ 1000) (h : y < x) : ¬ sMeet g x y = -99999 := by
  unfold sMeet
  rw [if_pos h]
  have hd := sOk_sub hx hy
  rw [Int32.lt_iff_toInt_lt] at h
  unfold sOk at hx hy
  intro e
  have e1 : (10 * g 0).toInt = 10 * (g 0).toInt := by
    rw [Int32.toInt_mul, show (10 : Int32).toInt = 10 by decide +kernel]
    exact Int.bmod_eq_of_le (by omega) (by omega)
  have e2 : (10 * g 0 / (x - y)).toInt = (10 * (g 0).toInt).tdiv (x.toInt - y.toInt) := by
    rw [Int32.toInt_div, e1, hd]
    have h0 : 0 ≤ (10 * (g 0).toInt).tdiv (x.toInt - y.toInt) := Int.tdiv_nonneg (by omega) (by omega)
    have h1 : (10 * (g 0).toInt).tdiv (x.toInt - y.toInt) ≤ 10 * (g 0).toInt := by
      rw [Int.tdiv_eq_ediv_of_nonneg (by omega)]
      exact Int.ediv_le_self _ (by omega)
    exact Int.bmod_eq_of_le (by omega) (by omega)
  have h0 : 0 ≤ (10 * (g 0).toInt).tdiv (x.toInt - y.toInt) := Int.tdiv_nonneg (by omega) (by omega)
  rw [e, show (-99999 : Int32).toInt = -99999 by decide +kernel] at e2
  omega
/-- the reading's layer: the class's -1 is the reference's none -/
theorem rl_mc {o h t s g : Nat → Int32} {n : Nat} (hn : n ≤ 6) (h0 : sOk (s 0)) (h1 : sOk (s 1)) (hg0 : 50 ≤ (g 0).toInt ∧ (g 0).toInt ≤ 1000) (hg3 : 0 ≤ (g 3).toInt ∧ (g 3).toInt ≤ 100) :
    (sRl (mLit o) h t g n (s 0) (s 1) = -1 ∧ (sMeet g (s 0) (s 1) = -99999 ∨ mC (sClose (mLit o) h t s g) (mD h s g) n = -99999)) ∨
    (∃ p, p < n ∧ sRl (mLit o) h t g n (s 0) (s 1) = nI p ∧ ¬ sMeet g (s 0) (s 1) = -99999 ∧ mC (sClose (mLit o) h t s g) (mD h s g) n = nI p) := by
  by_cases hs : s 1 < s 0
  · by_cases hl : mLit o = 3
    · rw [hl]
      rcases sLo_mC (h := h) (t := t) (s := s) hg3 n (by omega) with ⟨e1, e2⟩ | ⟨p, hp, e1, e2, -⟩
      · refine Or.inl ⟨?_, Or.inr e2⟩
        unfold sRl; rw [if_pos ⟨hs, rfl⟩, e1]
      · refine Or.inr ⟨p, hp, ?_, sMeet_ok h0 h1 hg0 hs, e2⟩
        unfold sRl; rw [if_pos ⟨hs, rfl⟩, e1]
    · refine Or.inl ⟨?_, Or.inr (mC_none (fun k => ?_) n)⟩
      · unfold sRl; rw [if_neg (fun q => hl q.2)]
      · unfold sClose sPair; rw [decide_eq_false hl]; rfl
  · refine Or.inl ⟨?_, Or.inl ?_⟩
    · unfold sRl; rw [if_neg (fun q => hs q.1)]
    · unfold sMeet; rw [if_neg hs]
theorem sLg_m {o h t s g : Nat → Int32} {n : Nat} (hn : n ≤ 6) (h0 : sOk (s 0)) (h1 : sOk (s 1)) (hg0 : 50 ≤ (g 0).toInt ∧ (g 0).toInt ≤ 1000) (hg3 : 0 ≤ (g 3).toInt ∧ (g 3).toInt ≤ 100) :
    sLg (mLit o) h t s g n = mLg h n (sMeet g (s 0) (s 1)) (mC (sClose (mLit o) h t s g) (mD h s g) n) := by
  rcases rl_mc (o := o) (h := h) (t := t) hn h0 h1 hg0 hg3 with ⟨e1, e2⟩ | ⟨p, hp, e1, e2, e3⟩
  · rw [sLg_no e1]; unfold mLg; rw [if_pos e2]
  · rw [sLg_ok e1 (by omega), mLg_y e2 e3 (by omega), mNear_s]; rfl
theorem sRn_m {o h t s g : Nat → Int32} {n w : Nat} (hw : w ≤ 3) (hn : n ≤ 6) (h0 : sOk (s 0)) (h1 : sOk (s 1)) (hg0 : 50 ≤ (g 0).toInt ∧ (g 0).toInt ≤ 1000) (hg3 : 0 ≤ (g 3).toInt ∧ (g 3).toInt ≤ 100) :
    sRn (mLit o) h t s g n (nI w) = mRn h n (sMeet g (s 0) (s 1)) (mC (sClose (mLit o) h t s g) (mD h s g) n) w := by
  rcases rl_mc (o := o) (h := h) (t := t) hn h0 h1 hg0 hg3 with ⟨e1, e2⟩ | ⟨p, hp, e1, e2, e3⟩
  · rw [sRn_no e1, mRn_n e2]
  · rw [sRn_ok e1 (by omega), mRn_y e2 e3 (by omega), mNear_s]
    rcases (show w = 0 ∨ w = 1 ∨ w = 2 ∨ w = 3 by omega) with rfl | rfl | rfl | rfl <;> rfl
theorem mAbs_nn {x : Int32} (h : -2147483648 < x.toInt) : 0 ≤ (mAbs x).toInt := by
  unfold mAbs
  split
  · rename_i q; rw [Int32.le_iff_toInt_le, Int32.toInt_zero] at q; exact q
  · rename_i q; rw [Int32.le_iff_toInt_le, Int32.toInt_zero] at q
    have := Int32.toInt_lt x
    rw [Int32.toInt_sub, Int32.toInt_zero, Int.bmod_eq_of_le (by omega) (by omega)]; omega
/-- trying all slopes, both ways -/
theorem mB_s {f : Int → Int32} (hf : ∀ z, ¬ f z < 0) : ∀ k, mB f (k + 1) = (iI (sBs f (-30) k).1, (sBs f (-30) k).2) ∧ ¬ (sBs f (-30) k).2 < 0
  | 0 => ⟨mB_y1 (show (-1 : Int32) < 0 by decide), hf _⟩
  | k + 1 => by
    obtain ⟨ih, h0⟩ := mB_s hf k
    have e : (-30 : Int) + ((k + 1 : Nat) : Int) = -30 + 1 + (k : Int) := by omega
    by_cases c : f (-30 + 1 + (k : Int)) < (sBs f (-30) k).2
    · rw [sBs_y c]
      refine ⟨?_, hf _⟩
      rw [mB_y2 (by rw [ih, e]; exact c), e]
    · rw [sBs_n (Int32.not_lt.mp c)]
      refine ⟨?_, h0⟩
      rw [mB_n (by rw [ih]; exact h0) (by rw [ih, e]; exact Int32.not_lt.mp c), ih]
/-! seen spots, counted bit by bit -/
theorem sBits_s : ∀ k : Nat, k < 6 → ∀ m : Nat, m < 2 ^ k → sBits (nI (m + 2 ^ k)) = sBits (nI m) + 1 := by decide +kernel
theorem sBits_0 : sBits (nI 0) = 0 := by decide +kernel
theorem sBits_l {o : Nat → Int32} (ho : mBin o) : sBits (mLit o) = bI (o 0 = 1) + bI (o 1 = 1) := by
  unfold mLit
  obtain ⟨h0 | h0, h1 | h1⟩ := ho <;> rw [h0, h1] <;> decide +kernel
theorem mSpots_s {o h t g : Nat → Int32} {z : Int32} (ho : mBin o) : ∀ n, n ≤ 6 → sBits (nI (sMask h t g z n)) * sBits (mLit o) = mSpots o h t g z n
  | 0, _ => by
    show sBits (nI 0) * _ = 0
    rw [sBits_0, Int32.zero_mul]
  | k + 1, hk => by
    have ih := mSpots_s (h := h) (t := t) (g := g) (z := z) ho k (by omega)
    show _ = mSpots o h t g z k + _
    rw [← ih]
    show sBits (nI (sMask h t g z k + (if sSeen h t g z k = true then 2 ^ k else 0))) * _ = _
    by_cases c : sSeen h t g z k = true
    · rw [if_pos c, sBits_s k (by omega) _ (sMask_lt h t g z k), Int32.add_mul, Int32.one_mul, sBits_l ho, bI_cong (a := o 0 = 1 ∧ sSeen h t g z k = true) (b := o 0 = 1) ⟨fun q => q.1, fun q => ⟨q, c⟩⟩, bI_cong (a := o 1 = 1 ∧ sSeen h t g z k = true) (b := o 1 = 1) ⟨fun q => q.1, fun q => ⟨q, c⟩⟩]
    · rw [if_neg c, Nat.add_zero, ← bI_f (b := o 0 = 1 ∧ sSeen h t g z k = true) (fun q => c q.2), ← bI_f (b := o 1 = 1 ∧ sSeen h t g z k = true) (fun q => c q.2), Int32.add_zero, Int32.add_zero]
theorem sBits_c {h t g : Nat → Int32} {z : Int32} : ∀ n, n ≤ 6 → sBits (nI (sMask h t g z n)) = nI (sCnt (sSeen h t g z) n)
  | 0, _ => show sBits (nI 0) = nI 0 by decide +kernel
  | k + 1, hk => by
    have ih := sBits_c (h := h) (t := t) (g := g) (z := z) k (by omega)
    show sBits (nI (sMask h t g z k + (if sSeen h t g z k = true then 2 ^ k else 0))) = _
    by_cases c : sSeen h t g z k = true
    · rw [if_pos c, sBits_s k (by omega) _ (sMask_lt h t g z k), ih, sCnt_y c]; exact nI_add _ 1
    · rw [if_neg c, Nat.add_zero, ih, sCnt_n c]
theorem sPm_c {lit : Int32} {h t g : Nat → Int32} {n : Nat} (hn : n ≤ 6) : sBits (nI (sPm lit h t g n)) = nI (sCnt (sPair lit h t g) n) := by
  unfold sPm
  by_cases c : lit = 3
  · rw [if_pos c, sBits_c n hn]
    congr 2
    funext p; unfold sPair; rw [decide_eq_true c, Bool.true_and]
  · rw [if_neg c, sBits_0]
    have : ∀ k, sCnt (sPair lit h t g) k = 0 := by
      intro k
      induction k with
      | zero => rfl
      | succ k ih => rw [sCnt_n (by unfold sPair; rw [decide_eq_false c, Bool.false_and]; decide), ih]
    rw [this n]; rfl
theorem xTc_m {sm ln n : Nat} {o h t s g : Nat → Int32} {kn : Nat} {lo lf : Int32} {w : Nat} (hn : n ≤ 6) (ho : mBin o) : xTc sm ln n (mLit o) h t s g kn lo lf w = mTc sm ln n o h t s g kn lo lf w := by
  unfold xTc mTc
  rw [mSpots_s ho n hn, sPm_c hn]
  rfl
/-! the lights' switches -/
theorem mLit_x {o : Nat → Int32} {j : Nat} (ho : mBin o) (hj : j < 2) : mLit o ^^^ (1 <<< (nI j &&& 31)) = mLit (upd o j (1 - o j)) := by
  unfold mLit upd
  rcases (show j = 0 ∨ j = 1 by omega) with rfl | rfl <;> obtain ⟨h0 | h0, h1 | h1⟩ := ho <;> simp only [h0, h1] <;> decide +kernel
theorem mLit_b {o : Nat → Int32} {j : Nat} (ho : mBin o) (hj : j < 2) : ((mLit o >>> (nI j &&& 31)) &&& 1 = 1) ↔ o j = 1 := by
  unfold mLit
  rcases (show j = 0 ∨ j = 1 by omega) with rfl | rfl <;> obtain ⟨h0 | h0, h1 | h1⟩ := ho <;> simp only [h0, h1] <;> decide +kernel
theorem mBin_x {o : Nat → Int32} {j : Nat} (ho : mBin o) (hj : j < 2) : mBin (upd o j (1 - o j)) := by
  unfold mBin upd
  rcases (show j = 0 ∨ j = 1 by omega) with rfl | rfl <;> obtain ⟨h0 | h0, h1 | h1⟩ := ho <;> simp only [h0, h1] <;> decide +kernel
theorem mLit_v {o : Nat → Int32} {j : Nat} (ho : mBin o) (hj : j < 2) : bI (((mLit o ^^^ (1 <<< (nI j &&& 31))) >>> (nI j &&& 31)) &&& 1 = 1) = 1 - o j := by
  rw [mLit_x ho hj, bI_cong (mLit_b (mBin_x ho hj) hj)]
  unfold upd
  rw [if_pos rfl]
  rcases (show j = 0 ∨ j = 1 by omega) with rfl | rfl <;> obtain ⟨h0 | h0, h1 | h1⟩ := ho <;> simp only [h0, h1] <;> decide +kernel
theorem mSp_x {o h t s g : Nat → Int32} {j p : Nat} {z : Int32} (ho : mBin o) (hj : j < 2) : (if (mLit o >>> (nI j &&& 31)) &&& 1 = 1 then sSpot h t s g j p z else -99999) = mSp o h t s g j p z := by
  unfold mSp
  by_cases c : o j = 1
  · rw [if_pos ((mLit_b ho hj).mpr c), if_neg (by rw [c]; decide)]
  · rw [if_neg (fun q => c ((mLit_b ho hj).mp q)), if_pos]
    rcases (show j = 0 ∨ j = 1 by omega) with rfl | rfl
    · exact ho.1.resolve_right c
    · exact ho.2.resolve_right c
