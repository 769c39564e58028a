/-! with haze no more spots are seen than without -/
theorem i64_bm {x : Int} (h : -9000000000000 ≤ x ∧ x ≤ 9000000000000) : x.bmod (2 ^ 64) = x := Int.bmod_eq_of_le (by omega) (by omega)
theorem sHaze_i {st hz way : Int32} (h1 : 0 ≤ st.toInt ∧ st.toInt ≤ 1000) (h2 : 0 ≤ hz.toInt ∧ hz.toInt ≤ 1000) (h3 : 0 ≤ way.toInt ∧ way.toInt ≤ 3000) :
    (sHaze st hz way).toInt = st.toInt - st.toInt * hz.toInt * way.toInt / 10000000 ∧ 0 ≤ st.toInt * hz.toInt * way.toInt / 10000000 ∧ st.toInt * hz.toInt * way.toInt / 10000000 ≤ st.toInt := by
  have p0 : 0 ≤ st.toInt * hz.toInt := Int.mul_nonneg h1.1 h2.1
  have p1 : st.toInt * hz.toInt ≤ st.toInt * 1000 := Int.mul_le_mul_of_nonneg_left h2.2 h1.1
  have p2 : 0 ≤ st.toInt * hz.toInt * way.toInt := Int.mul_nonneg p0 h3.1
  have p3 : st.toInt * hz.toInt * way.toInt ≤ st.toInt * hz.toInt * 3000 := Int.mul_le_mul_of_nonneg_left h3.2 p0
  have e1 : (st.toInt64 * hz.toInt64 * way.toInt64 / 10000000).toInt = st.toInt * hz.toInt * way.toInt / 10000000 := by
    have a1 : (st.toInt64 * hz.toInt64).toInt = st.toInt * hz.toInt := by
      rw [Int64.toInt_mul, Int32.toInt_toInt64, Int32.toInt_toInt64]
      exact i64_bm (by omega)
    have a2 : (st.toInt64 * hz.toInt64 * way.toInt64).toInt = st.toInt * hz.toInt * way.toInt := by
      rw [Int64.toInt_mul, a1, Int32.toInt_toInt64]
      exact i64_bm (by omega)
    rw [Int64.toInt_div, a2, show (10000000 : Int64).toInt = 10000000 by decide +kernel, Int.tdiv_eq_ediv_of_nonneg p2]
    exact i64_bm (by omega)
  generalize hA : st.toInt * hz.toInt * way.toInt = A at *
  refine ⟨?_, by omega, by omega⟩
  unfold sHaze
  by_cases c : st.toInt64 * hz.toInt64 * way.toInt64 / 10000000 < st.toInt64
  · rw [if_pos c, Int32.toInt_sub]
    have e2 : ((st.toInt64 * hz.toInt64 * way.toInt64 / 10000000).toInt32).toInt = A / 10000000 := by
      rw [Int64.toInt_toInt32, e1]
      exact Int.bmod_eq_of_le (by omega) (by omega)
    rw [e2]
    exact Int.bmod_eq_of_le (by omega) (by omega)
  · rw [if_neg c, Int32.toInt_zero]
    rw [Int64.lt_iff_toInt_lt, e1, Int32.toInt_toInt64] at c
    omega
theorem sBri_i {st th : Int32} (h1 : 0 ≤ st.toInt ∧ st.toInt ≤ 1000) (h2 : 0 ≤ th.toInt ∧ th.toInt ≤ 100) : (sBri st th).toInt = st.toInt * th.toInt / 100 ∧ 0 ≤ st.toInt * th.toInt / 100 ∧ st.toInt * th.toInt / 100 ≤ st.toInt := by
  have p0 : 0 ≤ st.toInt * th.toInt := Int.mul_nonneg h1.1 h2.1
  have p1 : st.toInt * th.toInt ≤ st.toInt * 100 := Int.mul_le_mul_of_nonneg_left h2.2 h1.1
  have e1 : (st * th).toInt = st.toInt * th.toInt := by
    rw [Int32.toInt_mul]
    exact Int.bmod_eq_of_le (by omega) (by omega)
  unfold sBri
  rw [Int32.toInt_div, e1, show (100 : Int32).toInt = 100 by decide +kernel, Int.tdiv_eq_ediv_of_nonneg p0]
  generalize st.toInt * th.toInt = A at *
  refine ⟨Int.bmod_eq_of_le (by omega) (by omega), by omega, by omega⟩
section MONO
variable {n : Nat} {h t : Nat → Int32}
theorem way_ok (hh : ∀ i, i < n → 50 ≤ (h i).toInt ∧ (h i).toInt ≤ 3000) (hu : sUpw h n) {k : Nat} (hk : k < n) : 0 ≤ (h k - sLow h k).toInt ∧ (h k - sLow h k).toInt ≤ 3000 := by
  have hk1 := hh k hk
  cases k with
  | zero =>
    show 0 ≤ (h 0 - 0).toInt ∧ (h 0 - 0).toInt ≤ 3000
    rw [Int32.sub_zero]
    omega
  | succ k =>
    show 0 ≤ (h (k + 1) - h k).toInt ∧ (h (k + 1) - h k).toInt ≤ 3000
    have h2 := hh k (by omega)
    have h3 := hu k (k + 1) (Nat.lt_succ_self k) hk
    have e : (h (k + 1) - h k).toInt = (h (k + 1)).toInt - (h k).toInt := by
      rw [Int32.toInt_sub]
      exact Int.bmod_eq_of_le (by omega) (by omega)
    rw [e]
    omega
theorem less_ok {a b T : Int} (hab : a ≤ b) (hT : 0 ≤ T ∧ T ≤ 100) : a - a * T / 100 ≤ b - b * T / 100 := by
  have p : (b - a) * T ≤ (b - a) * 100 := Int.mul_le_mul_of_nonneg_left hT.2 (by omega)
  have e : (b - a) * T = b * T - a * T := Int.sub_mul b a T
  rw [e] at p
  generalize a * T = A at *
  generalize b * T = B at *
  omega
theorem go_ok (hh : ∀ i, i < n → 50 ≤ (h i).toInt ∧ (h i).toInt ≤ 3000) (ht : ∀ i, i < n → 1 ≤ (t i).toInt ∧ (t i).toInt ≤ 100) (hu : sUpw h n) {z : Int32} (hz : 0 ≤ z.toInt ∧ z.toInt ≤ 1000) : ∀ k, k ≤ n →
    0 ≤ (sGo h t z k).toInt ∧ (sGo h t z k).toInt ≤ (sGo h t 0 k).toInt ∧ (sGo h t 0 k).toInt ≤ 1000
  | 0, _ => by
    have e : (sGo h t z 0).toInt = 1000 := by show (1000 : Int32).toInt = 1000; decide +kernel
    have e0 : (sGo h t 0 0).toInt = 1000 := by show (1000 : Int32).toInt = 1000; decide +kernel
    rw [e, e0]; omega
  | k + 1, hk => by
    obtain ⟨i1, i2, i3⟩ := go_ok hh ht hu hz k (by omega)
    have w := way_ok hh hu (k := k) (by omega)
    have tk := ht k (by omega)
    have a1 := sHaze_i (st := sGo h t z k) (hz := z) (way := h k - sLow h k) (by omega) hz w
    have a0 := sHaze_i (st := sGo h t 0 k) (hz := 0) (way := h k - sLow h k) (by omega) (by decide) w
    rw [Int32.toInt_zero, Int.mul_zero, Int.zero_mul, show (0 : Int) / 10000000 = 0 by decide] at a0
    have c1 : (sCo h t z k).toInt = (sGo h t z k).toInt - (sGo h t z k).toInt * z.toInt * (h k - sLow h k).toInt / 10000000 := a1.1
    have c0 : (sCo h t 0 k).toInt = (sGo h t 0 k).toInt - 0 := a0.1
    generalize hA : (sGo h t z k).toInt * z.toInt * (h k - sLow h k).toInt / 10000000 = A at *
    have b1 := sBri_i (st := sCo h t z k) (th := t k) (by omega) (by omega)
    have b0 := sBri_i (st := sCo h t 0 k) (th := t k) (by omega) (by omega)
    have m := less_ok (a := (sCo h t z k).toInt) (b := (sCo h t 0 k).toInt) (T := (t k).toInt) (by omega) (by omega)
    have e1 : (sGo h t z (k + 1)).toInt = (sCo h t z k).toInt - (sBr h t z k).toInt := by
      show (sCo h t z k - sBr h t z k).toInt = _
      rw [Int32.toInt_sub, show (sBr h t z k).toInt = _ from b1.1]
      exact Int.bmod_eq_of_le (by omega) (by omega)
    have e0 : (sGo h t 0 (k + 1)).toInt = (sCo h t 0 k).toInt - (sBr h t 0 k).toInt := by
      show (sCo h t 0 k - sBr h t 0 k).toInt = _
      rw [Int32.toInt_sub, show (sBr h t 0 k).toInt = _ from b0.1]
      exact Int.bmod_eq_of_le (by omega) (by omega)
    rw [show (sBr h t z k).toInt = _ from b1.1] at e1
    rw [show (sBr h t 0 k).toInt = _ from b0.1] at e0
    generalize (sCo h t z k).toInt * (t k).toInt / 100 = B1 at *
    generalize (sCo h t 0 k).toInt * (t k).toInt / 100 = B0 at *
    omega
theorem br_ok (hh : ∀ i, i < n → 50 ≤ (h i).toInt ∧ (h i).toInt ≤ 3000) (ht : ∀ i, i < n → 1 ≤ (t i).toInt ∧ (t i).toInt ≤ 100) (hu : sUpw h n) {z : Int32} (hz : 0 ≤ z.toInt ∧ z.toInt ≤ 1000) {k : Nat} (hk : k < n) : (sBr h t z k).toInt ≤ (sBr h t 0 k).toInt := by
  obtain ⟨i1, i2, i3⟩ := go_ok hh ht hu hz k (by omega)
  have w := way_ok hh hu (k := k) hk
  have tk := ht k hk
  have a1 := sHaze_i (st := sGo h t z k) (hz := z) (way := h k - sLow h k) (by omega) hz w
  have a0 := sHaze_i (st := sGo h t 0 k) (hz := 0) (way := h k - sLow h k) (by omega) (by decide) w
  rw [Int32.toInt_zero, Int.mul_zero, Int.zero_mul, show (0 : Int) / 10000000 = 0 by decide] at a0
  have c1 : (sCo h t z k).toInt = (sGo h t z k).toInt - (sGo h t z k).toInt * z.toInt * (h k - sLow h k).toInt / 10000000 := a1.1
  have c0 : (sCo h t 0 k).toInt = (sGo h t 0 k).toInt - 0 := a0.1
  generalize hA : (sGo h t z k).toInt * z.toInt * (h k - sLow h k).toInt / 10000000 = A at *
  have b1 := sBri_i (st := sCo h t z k) (th := t k) (by omega) (by omega)
  have b0 := sBri_i (st := sCo h t 0 k) (th := t k) (by omega) (by omega)
  have p : (sCo h t z k).toInt * (t k).toInt ≤ (sCo h t 0 k).toInt * (t k).toInt := Int.mul_le_mul_of_nonneg_right (by omega) (by omega)
  rw [show (sBr h t z k).toInt = _ from b1.1, show (sBr h t 0 k).toInt = _ from b0.1]
  generalize (sCo h t z k).toInt * (t k).toInt = B1 at *
  generalize (sCo h t 0 k).toInt * (t k).toInt = B0 at *
  omega
/-- the spots seen, as a number -/
def nSp (o h t g : Nat → Int32) (z : Int32) : Nat → Nat
  | 0 => 0
  | k + 1 => nSp o h t g z k + ((if o 0 = 1 ∧ sSeen h t g z k = true then 1 else 0) + (if o 1 = 1 ∧ sSeen h t g z k = true then 1 else 0))
theorem nSp_le (o h t g : Nat → Int32) (z : Int32) : ∀ k, nSp o h t g z k ≤ 2 * k
  | 0 => Nat.le_refl 0
  | k + 1 => by
    have := nSp_le o h t g z k
    unfold nSp
    split <;> split <;> omega
theorem bI_nI (b : Prop) [Decidable b] : bI b = nI (if b then 1 else 0) := by unfold bI; split <;> rfl
theorem mSp_n (o h t g : Nat → Int32) (z : Int32) : ∀ k, mSpots o h t g z k = nI (nSp o h t g z k)
  | 0 => rfl
  | k + 1 => by
    show mSpots o h t g z k + (bI _ + bI _) = nI (nSp o h t g z k + (_ + _))
    rw [mSp_n o h t g z k, bI_nI, bI_nI, nI_add, nI_add]
theorem nSp_mono {o g : Nat → Int32} (hh : ∀ i, i < n → 50 ≤ (h i).toInt ∧ (h i).toInt ≤ 3000) (ht : ∀ i, i < n → 1 ≤ (t i).toInt ∧ (t i).toInt ≤ 100) (hu : sUpw h n) {z : Int32} (hz : 0 ≤ z.toInt ∧ z.toInt ≤ 1000) : ∀ k, k ≤ n → nSp o h t g z k ≤ nSp o h t g 0 k
  | 0, _ => Nat.le_refl 0
  | k + 1, hk => by
    have ih := nSp_mono (o := o) (g := g) hh ht hu hz k (by omega)
    have hs : sSeen h t g z k = true → sSeen h t g 0 k = true := by
      intro q
      have q1 : g 2 ≤ sBr h t z k := of_decide_eq_true q
      refine decide_eq_true (p := g 2 ≤ sBr h t 0 k) ?_
      have := br_ok hh ht hu hz (k := k) (by omega)
      rw [Int32.le_iff_toInt_le] at q1 ⊢
      omega
    unfold nSp
    by_cases a : sSeen h t g z k = true
    · have b := hs a
      simp only [a, b]
      omega
    · rw [if_neg (fun q : o 0 = 1 ∧ sSeen h t g z k = true => a q.2), if_neg (fun q : o 1 = 1 ∧ sSeen h t g z k = true => a q.2)]
      omega
theorem spots_lt {o g : Nat → Int32} (hn : n ≤ 6) (hh : ∀ i, i < n → 50 ≤ (h i).toInt ∧ (h i).toInt ≤ 3000) (ht : ∀ i, i < n → 1 ≤ (t i).toInt ∧ (t i).toInt ≤ 100) (hu : sUpw h n) {z : Int32} (hz : 0 ≤ z.toInt ∧ z.toInt ≤ 1000) (c : ¬ mSpots o h t g z n = mSpots o h t g 0 n) : mSpots o h t g z n < mSpots o h t g 0 n := by
  rw [mSp_n, mSp_n] at c ⊢
  have m := nSp_mono (o := o) (g := g) hh ht hu hz n (Nat.le_refl _)
  have l1 := nSp_le o h t g z n
  have l0 := nSp_le o h t g 0 n
  refine nI_lt ?_ (by omega)
  rcases Nat.lt_or_ge (nSp o h t g z n) (nSp o h t g 0 n) with q | q
  · exact q
  · exact absurd (by rw [show nSp o h t g z n = nSp o h t g 0 n by omega]) c
end MONO
/-- the greatest haze: as many spots as without, and one more is fewer -/
theorem mHz_at {f : Nat → Int32} {all : Int32} (h0 : f 0 = all) : ∀ k, mHz f all k ≤ k ∧ f (mHz f all k) = all ∧ (mHz f all k < k → ¬ f (mHz f all k + 1) = all)
  | 0 => ⟨Nat.le_refl 0, h0, fun q => absurd q (Nat.lt_irrefl _)⟩
  | k + 1 => by
    by_cases c : f (k + 1) = all
    · rw [mHz_y c]
      exact ⟨Nat.le_refl _, c, fun q => absurd q (Nat.lt_irrefl _)⟩
    · have e0 : mHz f all (k + 1) = mHz f all k := mHz_n (k := k + 1) (by omega) c
      rw [e0]
      obtain ⟨a, b, d⟩ := mHz_at h0 k
      refine ⟨by omega, b, fun q => ?_⟩
      by_cases e : mHz f all k = k
      · rw [e]; exact c
      · exact d (by omega)
