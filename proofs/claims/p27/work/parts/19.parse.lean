/-! the model reads an order text -/
def mNx (bf : Nat → Nat) (ln q : Nat) : Nat := if q < ln then bf q else 0
def mNum (bf : Nat → Nat) (ln most : Nat) : Nat → Nat → Nat → Nat × Nat
  | 0, v, q => (v, q)
  | f + 1, v, q => if 0 < v ∧ 48 ≤ mNx bf ln q ∧ mNx bf ln q ≤ 57 ∧ 10 * v + mNx bf ln q - 48 ≤ most then mNum bf ln most f (10 * v + mNx bf ln q - 48) (q + 1) else (v, q)
theorem mNum_n {bf : Nat → Nat} {ln most f v q : Nat} (c : ¬ (0 < v ∧ 48 ≤ mNx bf ln q ∧ mNx bf ln q ≤ 57 ∧ 10 * v + mNx bf ln q - 48 ≤ most)) : mNum bf ln most f v q = (v, q) := by
  cases f with
  | zero => rfl
  | succ f => exact if_neg c
theorem mNum_y {bf : Nat → Nat} {ln most v q : Nat} (c : 0 < v ∧ 48 ≤ mNx bf ln q ∧ mNx bf ln q ≤ 57 ∧ 10 * v + mNx bf ln q - 48 ≤ most) : mNum bf ln most (ln - q) v q = mNum bf ln most (ln - (q + 1)) (10 * v + mNx bf ln q - 48) (q + 1) := by
  have hq : q < ln := by
    apply Classical.byContradiction
    intro h
    have : mNx bf ln q = 0 := if_neg h
    omega
  rw [show ln - q = (ln - (q + 1)) + 1 by omega]
  exact if_pos c
theorem mNum_le {bf : Nat → Nat} {ln most : Nat} : ∀ {f v q : Nat}, v ≤ most → (mNum bf ln most f v q).1 ≤ most
  | 0, _, _, h => h
  | f + 1, v, q, h => by
    unfold mNum
    split
    · rename_i c
      exact mNum_le (by omega)
    · exact h
theorem mNum_q {bf : Nat → Nat} {ln most : Nat} : ∀ {f v q : Nat}, q ≤ ln → (mNum bf ln most f v q).2 ≤ ln
  | 0, _, _, h => h
  | f + 1, v, q, h => by
    unfold mNum
    split
    · rename_i c
      refine mNum_q ?_
      apply Classical.byContradiction
      intro h2
      have : mNx bf ln q = 0 := if_neg (by omega)
      omega
    · exact h
def mNok (bf : Nat → Nat) (ln lo hi q : Nat) : Bool := decide (48 + lo ≤ mNx bf ln q ∧ mNx bf ln q ≤ 57 ∧ mNx bf ln q - 48 ≤ hi)
def mNv (bf : Nat → Nat) (ln lo hi q : Nat) : Int32 := if mNok bf ln lo hi q = true then nI (mNum bf ln hi (ln - (q + 1)) (mNx bf ln q - 48) (q + 1)).1 else -99999
def mNq (bf : Nat → Nat) (ln lo hi q : Nat) : Nat := if mNok bf ln lo hi q = true then (mNum bf ln hi (ln - (q + 1)) (mNx bf ln q - 48) (q + 1)).2 else q
theorem mNx_q {bf : Nat → Nat} {ln q : Nat} (h : 0 < mNx bf ln q) : q < ln := by
  apply Classical.byContradiction
  intro h2
  have : mNx bf ln q = 0 := if_neg h2
  omega
theorem mNq_le {bf : Nat → Nat} {ln lo hi q : Nat} (h : q ≤ ln) : mNq bf ln lo hi q ≤ ln := by
  unfold mNq
  split
  · rename_i c
    have := of_decide_eq_true c
    exact mNum_q (mNx_q (bf := bf) (by omega))
  · exact h
theorem mNv_none {bf : Nat → Nat} {ln lo hi q : Nat} (hh : hi ≤ 3000) : mNv bf ln lo hi q = -99999 ↔ mNok bf ln lo hi q = false := by
  unfold mNv
  by_cases c : mNok bf ln lo hi q = true
  · rw [if_pos c]
    have c2 := of_decide_eq_true c
    have := mNum_le (bf := bf) (ln := ln) (most := hi) (f := ln - (q + 1)) (v := mNx bf ln q - 48) (q := q + 1) c2.2.2
    constructor
    · intro e
      have e2 := congrArg Int32.toInt e
      rw [nI_toInt (by omega)] at e2
      have h2 : (-99999 : Int32).toInt = -99999 := by decide +kernel
      omega
    · intro e; rw [c] at e; cases e
  · rw [if_neg c]
    simpa using c
def mTk (bf : Nat → Nat) (ln c q : Nat) : Nat := if mNx bf ln q = c then q + 1 else q
theorem mTk_le {bf : Nat → Nat} {ln c q : Nat} (hc : 0 < c) (h : q ≤ ln) : mTk bf ln c q ≤ ln := by
  unfold mTk
  split
  · rename_i e
    exact mNx_q (bf := bf) (by omega)
  · exact h
/-- a layer's order, behind the c: (done, place, first, second) -/
def mRL (bf : Nat → Nat) (ln q : Nat) (se : Int32) : Bool × Nat × Int32 × Int32 :=
  if mNv bf ln 1 3000 q < 50 then (false, mNq bf ln 1 3000 q, mNv bf ln 1 3000 q, se)
  else if ¬ mNx bf ln (mNq bf ln 1 3000 q) = 42 then (false, mNq bf ln 1 3000 q, mNv bf ln 1 3000 q, se)
  else (mNok bf ln 1 100 (mNq bf ln 1 3000 q + 1), mNq bf ln 1 100 (mNq bf ln 1 3000 q + 1), mNv bf ln 1 3000 q, mNv bf ln 1 100 (mNq bf ln 1 3000 q + 1))
/-- a slope's order, behind the a or b -/
def mRS (bf : Nat → Nat) (ln q : Nat) : Bool × Nat × Int32 :=
  (mNok bf ln 0 30 (mTk bf ln 45 q), mNq bf ln 0 30 (mTk bf ln 45 q), if mNx bf ln q = 45 then -mNv bf ln 0 30 (mTk bf ln 45 q) else mNv bf ln 0 30 (mTk bf ln 45 q))
/-- an order: (done, place, sign, first, second) -/
def mRO (bf : Nat → Nat) (ln q : Nat) (fi se : Int32) : Bool × Nat × Nat × Int32 × Int32 :=
  if mNx bf ln q = 99 then ((mRL bf ln (q + 1) se).1, (mRL bf ln (q + 1) se).2.1, 99, (mRL bf ln (q + 1) se).2.2.1, (mRL bf ln (q + 1) se).2.2.2)
  else if mNx bf ln q = 97 ∨ mNx bf ln q = 98 then ((mRS bf ln (q + 1)).1, (mRS bf ln (q + 1)).2.1, mNx bf ln q, (mRS bf ln (q + 1)).2.2, se)
  else if mNx bf ln q = 120 then (mNok bf ln 0 5 (q + 1), mNq bf ln 0 5 (q + 1), 120, mNv bf ln 0 5 (q + 1), se)
  else if mNx bf ln q = 110 then (true, q + 1, 110, fi, se)
  else (false, q, mNx bf ln q, fi, se)
theorem mNv_rng {bf : Nat → Nat} {ln lo hi q : Nat} (hh : hi ≤ 3000) (hc : mNok bf ln lo hi q = true) : ∃ v, v ≤ hi ∧ mNv bf ln lo hi q = nI v := ⟨_, mNum_le (of_decide_eq_true hc).2.2, if_pos hc⟩
theorem mRL_q {bf : Nat → Nat} {ln q : Nat} {se : Int32} (h : q ≤ ln) : (mRL bf ln q se).2.1 ≤ ln := by
  unfold mRL
  split
  · exact mNq_le h
  · split
    · exact mNq_le h
    · rename_i c
      have c2 : mNx bf ln (mNq bf ln 1 3000 q) = 42 := Classical.byContradiction c
      exact mNq_le (mNx_q (bf := bf) (by omega))
theorem mRS_q {bf : Nat → Nat} {ln q : Nat} (h : q ≤ ln) : (mRS bf ln q).2.1 ≤ ln := mNq_le (mTk_le (by decide) h)
theorem mRO_q {bf : Nat → Nat} {ln q : Nat} {fi se : Int32} (h : q ≤ ln) : (mRO bf ln q fi se).2.1 ≤ ln := by
  unfold mRO
  split
  · rename_i c; exact mRL_q (mNx_q (bf := bf) (by omega))
  · split
    · rename_i c; exact mRS_q (mNx_q (bf := bf) (by omega))
    · split
      · rename_i c; exact mNq_le (mNx_q (bf := bf) (by omega))
      · split
        · rename_i c; exact mNx_q (bf := bf) (by omega)
        · exact h
/-- an order read moves on -/
theorem mNum_gt {bf : Nat → Nat} {ln most : Nat} : ∀ {f v q : Nat}, q ≤ (mNum bf ln most f v q).2
  | 0, _, _ => Nat.le_refl _
  | f + 1, v, q => by
    unfold mNum
    split
    · exact Nat.le_trans (Nat.le_succ q) mNum_gt
    · exact Nat.le_refl _
theorem mNq_ge {bf : Nat → Nat} {ln lo hi q : Nat} : q ≤ mNq bf ln lo hi q := by
  unfold mNq
  split
  · exact Nat.le_trans (Nat.le_succ q) mNum_gt
  · exact Nat.le_refl _
theorem mTk_ge {bf : Nat → Nat} {ln c q : Nat} : q ≤ mTk bf ln c q := by
  unfold mTk; split <;> omega
theorem mRO_gt {bf : Nat → Nat} {ln q : Nat} {fi se : Int32} (h : (mRO bf ln q fi se).1 = true) : q < (mRO bf ln q fi se).2.1 := by
  unfold mRO at h ⊢
  split
  · show q < (mRL bf ln (q + 1) se).2.1
    unfold mRL
    split
    · exact Nat.lt_of_lt_of_le (Nat.lt_succ_self q) mNq_ge
    · split
      · exact Nat.lt_of_lt_of_le (Nat.lt_succ_self q) mNq_ge
      · have a : q + 1 ≤ mNq bf ln 1 3000 (q + 1) := mNq_ge
        have b : mNq bf ln 1 3000 (q + 1) + 1 ≤ mNq bf ln 1 100 (mNq bf ln 1 3000 (q + 1) + 1) := mNq_ge
        show q < mNq bf ln 1 100 (mNq bf ln 1 3000 (q + 1) + 1)
        omega
  · split
    · have a : q + 1 ≤ mTk bf ln 45 (q + 1) := mTk_ge
      have b : mTk bf ln 45 (q + 1) ≤ mNq bf ln 0 30 (mTk bf ln 45 (q + 1)) := mNq_ge
      show q < mNq bf ln 0 30 (mTk bf ln 45 (q + 1))
      omega
    · split
      · exact Nat.lt_of_lt_of_le (Nat.lt_succ_self q) mNq_ge
      · split
        · exact Nat.lt_succ_self q
        · rename_i c1 c2 c3 c4
          rw [if_neg c1, if_neg c2, if_neg c3, if_neg c4] at h
          cases h
/-- the first error from the order at q on; none: all of the text is read -/
def mFE (bf : Nat → Nat) (ln : Nat) : Nat → Nat → Option Nat
  | 0, q => some q
  | f + 1, q => if (mRO bf ln q 0 0).1 = true then (if (mRO bf ln q 0 0).2.1 = ln then none else if mNx bf ln (mRO bf ln q 0 0).2.1 = 59 then mFE bf ln f ((mRO bf ln q 0 0).2.1 + 1) else some (mRO bf ln q 0 0).2.1) else some (mRO bf ln q 0 0).2.1
theorem mRL_se {bf : Nat → Nat} {ln q : Nat} {se : Int32} : (mRL bf ln q se).1 = (mRL bf ln q 0).1 ∧ (mRL bf ln q se).2.1 = (mRL bf ln q 0).2.1 := by
  unfold mRL
  split
  · exact ⟨rfl, rfl⟩
  · split <;> exact ⟨rfl, rfl⟩
theorem mRO_0 {bf : Nat → Nat} {ln q : Nat} (fi se : Int32) : (mRO bf ln q fi se).1 = (mRO bf ln q 0 0).1 ∧ (mRO bf ln q fi se).2.1 = (mRO bf ln q 0 0).2.1 := by
  unfold mRO
  split
  · exact mRL_se
  · split
    · exact ⟨rfl, rfl⟩
    · split
      · exact ⟨rfl, rfl⟩
      · split <;> exact ⟨rfl, rfl⟩
def mFEv (r : Option Nat) : Int32 := match r with
  | none => -1
  | some q => nI q
def mFI (r : Option Nat) (ln : Nat) : Nat := match r with
  | none => ln
  | some q => q
theorem mWithin9 {c l : Nat} (hc : c < 1000) (hl : l < 1000) : (nI l ≤ nI c - 48 ∧ nI c - 48 ≤ 9) ↔ (48 + l ≤ c ∧ c ≤ 57) := by
  have e : (nI c - 48).toInt = (c : Int) - 48 := by
    show (nI c - nI 48).toInt = _
    exact pk_sub_toInt (by omega) (by omega)
  rw [Int32.le_iff_toInt_le, Int32.le_iff_toInt_le, e, nI_toInt (by omega)]
  have h9 : (9 : Int32).toInt = 9 := by decide +kernel
  rw [h9]
  omega
theorem nI_within {c a b : Nat} (ha : a < 2 ^ 31) (hb : b < 2 ^ 31) (hc : c < 2 ^ 31) : (nI a ≤ nI c ∧ nI c ≤ nI b) ↔ (a ≤ c ∧ c ≤ b) := by
  rw [nI_leI ha hc, nI_leI hc hb]
theorem mNx_b {bf : Nat → Nat} {ln q : Nat} (hb : ∀ i, bf i ≤ 126) : mNx bf ln q ≤ 126 := by
  unfold mNx
  split
  · exact hb q
  · omega
theorem mNum_ge {bf : Nat → Nat} {ln most : Nat} : ∀ {f v q : Nat}, v ≤ (mNum bf ln most f v q).1
  | 0, _, _ => Nat.le_refl _
  | f + 1, v, q => by
    unfold mNum
    split
    · rename_i c
      exact Nat.le_trans (by omega) mNum_ge
    · exact Nat.le_refl _
