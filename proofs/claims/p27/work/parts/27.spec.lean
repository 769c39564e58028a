/-! the state as one, orders' effects -/
abbrev FI32 : Type := Nat → Int32
abbrev SK : Type := Nat × FI32 × FI32 × FI32 × FI32 × FI32 × Nat × Int32 × Int32 × FI32
abbrev kN (K : SK) : Nat := K.1
abbrev kO (K : SK) : FI32 := K.2.1
abbrev kH (K : SK) : FI32 := K.2.2.1
abbrev kT2 (K : SK) : FI32 := K.2.2.2.1
abbrev kS (K : SK) : FI32 := K.2.2.2.2.1
abbrev kGs (K : SK) : FI32 := K.2.2.2.2.2.1
abbrev kK (K : SK) : Nat := K.2.2.2.2.2.2.1
abbrev kLo (K : SK) : Int32 := K.2.2.2.2.2.2.2.1
abbrev kLf (K : SK) : Int32 := K.2.2.2.2.2.2.2.2.1
abbrev kNm (K : SK) : FI32 := K.2.2.2.2.2.2.2.2.2
/-- the state is in order -/
def sInv (n : Nat) (o h t s g : FI32) (kn : Nat) : Prop :=
  n ≤ 6 ∧ mBin o ∧ sOk (s 0) ∧ sOk (s 1) ∧ kn ≤ 8 ∧ (∀ i, i < n → 50 ≤ (h i).toInt ∧ (h i).toInt ≤ 3000) ∧ (∀ i, i < n → 1 ≤ (t i).toInt ∧ (t i).toInt ≤ 100) ∧
  (50 ≤ (g 0).toInt ∧ (g 0).toInt ≤ 1000) ∧ (0 ≤ (g 1).toInt ∧ (g 1).toInt ≤ 1000) ∧ (1 ≤ (g 2).toInt ∧ (g 2).toInt ≤ 500) ∧ (0 ≤ (g 3).toInt ∧ (g 3).toInt ≤ 100)
def kInv (K : SK) : Prop := sInv (kN K) (kO K) (kH K) (kT2 K) (kS K) (kGs K) (kK K)
def mLgK (K : SK) : Int32 × Int32 × Int32 × Bool := mLg (kH K) (kN K) (sMeet (kGs K) (kS K 0) (kS K 1)) (mC (sClose (mLit (kO K)) (kH K) (kT2 K) (kS K) (kGs K)) (mD (kH K) (kS K) (kGs K)) (kN K))
def kAdd (K : SK) (x y : Int32) : SK := (kN K + 1, kO K, sIns (kH K) (kN K) (sPos (kH K) x (kN K)) x, sIns (kT2 K) (kN K) (sPos (kH K) x (kN K)) y, kS K, kGs K, kK K, kLo K, kLf K, kNm K)
def kDrop (K : SK) (p : Nat) : SK := (kN K - 1, kO K, sDn (kH K) p (kN K), sDn (kT2 K) p (kN K), kS K, kGs K, kK K, kLo K, kLf K, kNm K)
def kLog (K : SK) (L : Int32 × Int32 × Int32 × Bool) : SK := (kN K, kO K, kH K, kT2 K, kS K, kGs K, min (kK K + 1) 8, kLo K + 1, kLf K + bI (L.2.2.2 = true), sWrL (kNm K) L)
def kAim (K : SK) (j : Nat) (x : Int32) : SK := (kN K, kO K, kH K, kT2 K, upd (kS K) j x, kGs K, kK K, kLo K, kLf K, kNm K)
/-- an order's effect on the state -/
def kStep (K : SK) (sg : Nat) (fi se : Int32) : Bool × SK :=
  if sg = 99 then (if mWhy (kN K) (kH K) fi se = 0 then (true, kAdd K fi se) else (false, K))
  else if sg = 120 then (if 0 ≤ fi ∧ fi < nI (kN K) then (true, kDrop K fi.toNatClampNeg) else (false, K))
  else if sg = 110 then (true, kLog K (mLgK K))
  else (true, kAim K (sg - 97) fi)
/-- what a read order can be -/
def oOk (sg : Nat) (fi se : Int32) : Prop :=
  (sg = 99 ∧ (50 ≤ fi ∧ fi ≤ 3000) ∧ (1 ≤ se ∧ se ≤ 100)) ∨ (sg = 120 ∧ 0 ≤ fi ∧ fi ≤ 5) ∨ sg = 110 ∨ ((sg = 97 ∨ sg = 98) ∧ -30 ≤ fi ∧ fi ≤ 30)
theorem mWhy_6 {n : Nat} {h : FI32} {x y : Int32} (hn : n ≤ 6) (e : mWhy n h x y = 0) : n < 6 ∧ sAny h x n = false ∧ (50 ≤ x ∧ x ≤ 3000) ∧ (1 ≤ y ∧ y ≤ 100) := by
  unfold mWhy at e
  by_cases c : (50 ≤ x ∧ x ≤ 3000) ∧ (1 ≤ y ∧ y ≤ 100)
  · rw [if_neg (fun q => q c)] at e
    by_cases d : n = 6 ∨ sAny h x n = true
    · rw [if_pos d] at e; exact absurd e (by decide)
    · refine ⟨by have : ¬ n = 6 := fun q => d (Or.inl q); omega, by
        by_cases q : sAny h x n = true
        · exact absurd (Or.inr q) d
        · simpa using q, c⟩
  · rw [if_pos c] at e; exact absurd e (by decide)
theorem mFE_fuel {bf : Nat → Nat} {ln : Nat} : ∀ (f f' q : Nat), q ≤ ln → ln + 1 - q ≤ f → ln + 1 - q ≤ f' → mFE bf ln f q = mFE bf ln f' q
  | 0, _, q, h, h1, _ => by omega
  | _, 0, q, h, _, h2 => by omega
  | f + 1, f' + 1, q, h, h1, h2 => by
    unfold mFE
    split
    · rename_i c
      split
      · rfl
      · split
        · rename_i d
          have g := mRO_gt c
          have hl := mNx_q (bf := bf) (ln := ln) (q := (mRO bf ln q 0 0).2.1) (by omega)
          exact mFE_fuel f f' _ (by omega) (by omega) (by omega)
        · rfl
    · rfl
theorem mFE_le {bf : Nat → Nat} {ln : Nat} : ∀ (f q r : Nat), q ≤ ln → mFE bf ln f q = some r → r ≤ ln
  | 0, q, r, h, e => by
    have : q = r := Option.some.inj e
    omega
  | f + 1, q, r, h, e => by
    have hq := mRO_q (bf := bf) (ln := ln) (q := q) (fi := 0) (se := 0) h
    unfold mFE at e
    split at e
    · split at e
      · cases e
      · split at e
        · rename_i d
          exact mFE_le f _ r (mNx_q (bf := bf) (by omega)) e
        · have := Option.some.inj e; omega
    · have := Option.some.inj e; omega
theorem mFEv_none {r : Option Nat} (hr : ∀ q, r = some q → q < 1000) : mFEv r = -1 ↔ r = none := by
  cases r with
  | none => exact ⟨fun _ => rfl, fun _ => rfl⟩
  | some q =>
    constructor
    · intro e; exact absurd e (nI_ne_m1 (hr q rfl))
    · intro e; cases e
/-- the orders, one after the other, from place q on -/
def kExec (bf : Nat → Nat) (ln : Nat) : Nat → Nat → Nat → SK → Nat × SK
  | 0, _, d, K => (d, K)
  | f + 1, q, d, K => if q < ln then (if (mRO bf ln q 0 0).1 = true then (if (kStep K (mRO bf ln q 0 0).2.2.1 (mRO bf ln q 0 0).2.2.2.1 (mRO bf ln q 0 0).2.2.2.2).1 = true then kExec bf ln f ((mRO bf ln q 0 0).2.1 + 1) (d + 1) (kStep K (mRO bf ln q 0 0).2.2.1 (mRO bf ln q 0 0).2.2.2.1 (mRO bf ln q 0 0).2.2.2.2).2 else (d, (kStep K (mRO bf ln q 0 0).2.2.1 (mRO bf ln q 0 0).2.2.2.1 (mRO bf ln q 0 0).2.2.2.2).2)) else (d, K)) else (d, K)
theorem kStep_no {K : SK} {sg : Nat} {fi se : Int32} (h : ¬ (kStep K sg fi se).1 = true) : (kStep K sg fi se).2 = K := by
  unfold kStep at h ⊢
  split
  · rename_i c; rw [if_pos c] at h
    split
    · rename_i d; rw [if_pos d] at h; exact absurd rfl h
    · rfl
  · rename_i c; rw [if_neg c] at h
    split
    · rename_i d; rw [if_pos d] at h
      split
      · rename_i e; rw [if_pos e] at h; exact absurd rfl h
      · rfl
    · rename_i d; rw [if_neg d] at h
      split
      · rename_i e; rw [if_pos e] at h; exact absurd rfl h
      · rename_i e; rw [if_neg e] at h; exact absurd rfl h
/-- a read order is as it should be; what it holds doesn't hang on what was held before -/
theorem mRO_ok {bf : Nat → Nat} {ln q : Nat} {fi se : Int32} (h : (mRO bf ln q fi se).1 = true) : oOk (mRO bf ln q fi se).2.2.1 (mRO bf ln q fi se).2.2.2.1 (mRO bf ln q fi se).2.2.2.2 ∧ (mRO bf ln q fi se).2.2.1 = (mRO bf ln q 0 0).2.2.1 ∧ ((mRO bf ln q fi se).2.2.1 = 110 ∨ (mRO bf ln q fi se).2.2.2.1 = (mRO bf ln q 0 0).2.2.2.1) ∧ (¬ (mRO bf ln q fi se).2.2.1 = 99 ∨ (mRO bf ln q fi se).2.2.2.2 = (mRO bf ln q 0 0).2.2.2.2) := by
  unfold mRO at h ⊢
  by_cases c1 : mNx bf ln q = 99
  · simp only [if_pos c1] at h ⊢
    unfold mRL at h ⊢
    by_cases d1 : mNv bf ln 1 3000 (q + 1) < 50
    · rw [if_pos d1] at h; cases h
    · rw [if_neg d1] at h
      simp only [if_neg d1]
      by_cases d2 : ¬ mNx bf ln (mNq bf ln 1 3000 (q + 1)) = 42
      · rw [if_pos d2] at h; cases h
      · rw [if_neg d2] at h
        simp only [if_neg d2]
        refine ⟨Or.inl ⟨rfl, ?_, ?_⟩, trivial, Or.inr trivial, Or.inr trivial⟩
        · refine ⟨Int32.not_lt.mp d1, ?_⟩
          by_cases e : mNok bf ln 1 3000 (q + 1) = true
          · obtain ⟨v, hv, ev⟩ := mNv_rng (by decide) e
            rw [ev]; exact (nI_leI (b := 3000) (by omega) (by decide)).mpr hv
          · exact absurd (show mNv bf ln 1 3000 (q + 1) < 50 by unfold mNv; rw [if_neg e]; decide) d1
        · obtain ⟨v, hv, ev⟩ := mNv_rng (by decide) h
          have ev2 := ev
          have h2 := of_decide_eq_true h
          refine ⟨?_, by rw [ev]; exact (nI_leI (b := 100) (by omega) (by decide)).mpr hv⟩
          unfold mNv at ev
          rw [if_pos h] at ev
          rw [ev2]
          refine (nI_leI (a := 1) (by decide) (by omega)).mpr ?_
          have e3 : (mNum bf ln 100 (ln - (mNq bf ln 1 3000 (q + 1) + 1 + 1)) (mNx bf ln (mNq bf ln 1 3000 (q + 1) + 1) - 48) (mNq bf ln 1 3000 (q + 1) + 1 + 1)).1 = v := (nI_eq (by have := mNum_le (bf := bf) (ln := ln) (most := 100) (f := (ln - (mNq bf ln 1 3000 (q + 1) + 1 + 1))) (v := mNx bf ln (mNq bf ln 1 3000 (q + 1) + 1) - 48) (q := mNq bf ln 1 3000 (q + 1) + 1 + 1) h2.2.2; omega) (by omega)).mp ev
          have e4 : mNx bf ln (mNq bf ln 1 3000 (q + 1) + 1) - 48 ≤ (mNum bf ln 100 (ln - (mNq bf ln 1 3000 (q + 1) + 1 + 1)) (mNx bf ln (mNq bf ln 1 3000 (q + 1) + 1) - 48) (mNq bf ln 1 3000 (q + 1) + 1 + 1)).1 := mNum_ge
          omega
  · simp only [if_neg c1] at h ⊢
    by_cases c2 : mNx bf ln q = 97 ∨ mNx bf ln q = 98
    · simp only [if_pos c2] at h ⊢
      have hk : mNok bf ln 0 30 (mTk bf ln 45 (q + 1)) = true := h
      obtain ⟨v, hv, ev⟩ := mNv_rng (by decide) hk
      refine ⟨Or.inr (Or.inr (Or.inr ⟨c2, ?_⟩)), trivial, Or.inr trivial, Or.inl (by omega)⟩
      have e1 : (nI v).toInt = v := nI_toInt (by omega)
      have m30 : (-30 : Int32).toInt = -30 := by decide +kernel
      have p30 : (30 : Int32).toInt = 30 := by decide +kernel
      show -30 ≤ (if mNx bf ln (q + 1) = 45 then -mNv bf ln 0 30 (mTk bf ln 45 (q + 1)) else mNv bf ln 0 30 (mTk bf ln 45 (q + 1))) ∧ _ ≤ (30 : Int32)
      show -30 ≤ (if mNx bf ln (q + 1) = 45 then -mNv bf ln 0 30 (mTk bf ln 45 (q + 1)) else mNv bf ln 0 30 (mTk bf ln 45 (q + 1))) ∧ (if mNx bf ln (q + 1) = 45 then -mNv bf ln 0 30 (mTk bf ln 45 (q + 1)) else mNv bf ln 0 30 (mTk bf ln 45 (q + 1))) ≤ (30 : Int32)
      rw [ev]
      split
      · have e2 : (-nI v).toInt = -(v : Int) := sb_negT (by omega)
        rw [Int32.le_iff_toInt_le, Int32.le_iff_toInt_le, e2, m30, p30]
        omega
      · rw [Int32.le_iff_toInt_le, Int32.le_iff_toInt_le, e1, m30, p30]
        omega
    · simp only [if_neg c2] at h ⊢
      by_cases c3 : mNx bf ln q = 120
      · simp only [if_pos c3] at h ⊢
        obtain ⟨v, hv, ev⟩ := mNv_rng (by decide) h
        refine ⟨Or.inr (Or.inl ⟨rfl, ?_, ?_⟩), trivial, Or.inr trivial, Or.inl (by decide)⟩
        · rw [ev]; exact nI_pos' (by omega)
        · rw [ev]; exact (nI_leI (b := 5) (by omega) (by decide)).mpr hv
      · simp only [if_neg c3] at h ⊢
        by_cases c4 : mNx bf ln q = 110
        · simp only [if_pos c4] at h ⊢
          exact ⟨Or.inr (Or.inr (Or.inl rfl)), trivial, Or.inl trivial, Or.inl (by decide)⟩
        · simp only [if_neg c4] at h
          cases h
theorem mRO_ge {bf : Nat → Nat} {ln q : Nat} {fi se : Int32} : q ≤ (mRO bf ln q fi se).2.1 := by
  unfold mRO
  split
  · show q ≤ (mRL bf ln (q + 1) se).2.1
    unfold mRL
    split
    · exact Nat.le_trans (Nat.le_succ q) mNq_ge
    · split
      · exact Nat.le_trans (Nat.le_succ q) mNq_ge
      · have a : q + 1 ≤ mNq bf ln 1 3000 (q + 1) := mNq_ge
        have b : mNq bf ln 1 3000 (q + 1) + 1 ≤ mNq bf ln 1 100 (mNq bf ln 1 3000 (q + 1) + 1) := mNq_ge
        show q ≤ mNq bf ln 1 100 (mNq bf ln 1 3000 (q + 1) + 1)
        omega
  · split
    · have a : q + 1 ≤ mTk bf ln 45 (q + 1) := mTk_ge
      have b : mTk bf ln 45 (q + 1) ≤ mNq bf ln 0 30 (mTk bf ln 45 (q + 1)) := mNq_ge
      show q ≤ mNq bf ln 0 30 (mTk bf ln 45 (q + 1))
      omega
    · split
      · exact Nat.le_trans (Nat.le_succ q) mNq_ge
      · split
        · exact Nat.le_succ q
        · exact Nat.le_refl q
theorem kStep_c {bf : Nat → Nat} {ln q : Nat} {fi se : Int32} (K : SK) (h : (mRO bf ln q fi se).1 = true) : kStep K (mRO bf ln q fi se).2.2.1 (mRO bf ln q fi se).2.2.2.1 (mRO bf ln q fi se).2.2.2.2 = kStep K (mRO bf ln q 0 0).2.2.1 (mRO bf ln q 0 0).2.2.2.1 (mRO bf ln q 0 0).2.2.2.2 := by
  obtain ⟨-, e1, e2, e3⟩ := mRO_ok h
  rw [← e1]
  generalize (mRO bf ln q fi se).2.2.1 = sg at e2 e3 ⊢
  unfold kStep
  by_cases c : sg = 99
  · subst c
    rw [e2.resolve_left (by decide), e3.resolve_left (fun z => z rfl)]
  · rw [if_neg c, if_neg c]
    by_cases d : sg = 110
    · rw [if_neg (by omega), if_pos d, if_neg (by omega), if_pos d]
    · rw [e2.resolve_left d]
theorem sOk_lt {x : Int32} (h : sOk x) : ¬ x < -30 := by
  rw [Int32.lt_iff_toInt_lt, show (-30 : Int32).toInt = -30 by decide +kernel]
  unfold sOk at h; omega
theorem sOk_of {x : Int32} (h : -30 ≤ x ∧ x ≤ 30) : sOk x := by
  rw [Int32.le_iff_toInt_le, Int32.le_iff_toInt_le, show (-30 : Int32).toInt = -30 by decide +kernel, show (30 : Int32).toInt = 30 by decide +kernel] at h
  exact h
theorem h_pos {x : Int32} {b : Int} (h : 50 ≤ x.toInt ∧ x.toInt ≤ b) : 0 < x := by
  rw [Int32.lt_iff_toInt_lt, Int32.toInt_zero]; omega
theorem kStep_inv {K : SK} {sg : Nat} {fi se : Int32} (hK : kInv K) (ho : oOk sg fi se) : kInv (kStep K sg fi se).2 := by
  obtain ⟨k1, k2, k3, k4, k5, k6, k7, k8⟩ := hK
  unfold kStep
  split
  · rename_i e
    split
    · rename_i w
      obtain ⟨w1, w2, w3, w4⟩ := mWhy_6 k1 w
      refine ⟨by show kN K + 1 ≤ 6; omega, k2, k3, k4, k5, fun i hi => ?_, fun i hi => ?_, k8⟩
      · have b := i32_bnd (u := 50) (v := 3000) (by decide +kernel) (by decide +kernel) w3
        have hp := sPos_le (kH K) fi (kN K)
        show 50 ≤ (sIns (kH K) (kN K) (sPos (kH K) fi (kN K)) fi i).toInt ∧ _
        show 50 ≤ (sIns (kH K) (kN K) (sPos (kH K) fi (kN K)) fi i).toInt ∧ (sIns (kH K) (kN K) (sPos (kH K) fi (kN K)) fi i).toInt ≤ 3000
        have hi : i < kN K + 1 := hi
        unfold sIns upd
        split
        · exact b
        · unfold sUp
          split
          · exact k6 (i - 1) (by omega)
          · exact k6 i (by omega)
      · have b := i32_bnd (u := 1) (v := 100) (by decide +kernel) (by decide +kernel) w4
        have hp := sPos_le (kH K) fi (kN K)
        show 1 ≤ (sIns (kT2 K) (kN K) (sPos (kH K) fi (kN K)) se i).toInt ∧ (sIns (kT2 K) (kN K) (sPos (kH K) fi (kN K)) se i).toInt ≤ 100
        have hi : i < kN K + 1 := hi
        unfold sIns upd
        split
        · exact b
        · unfold sUp
          split
          · exact k7 (i - 1) (by omega)
          · exact k7 i (by omega)
    · exact ⟨k1, k2, k3, k4, k5, k6, k7, k8⟩
  · split
    · split
      · rename_i q
        refine ⟨by show kN K - 1 ≤ 6; omega, k2, k3, k4, k5, fun i hi => ?_, fun i hi => ?_, k8⟩
        · have hi : i < kN K - 1 := hi
          show 50 ≤ (sDn (kH K) fi.toNatClampNeg (kN K) i).toInt ∧ (sDn (kH K) fi.toNatClampNeg (kN K) i).toInt ≤ 3000
          unfold sDn
          split
          · exact k6 (i + 1) (by omega)
          · exact k6 i (by omega)
        · have hi : i < kN K - 1 := hi
          show 1 ≤ (sDn (kT2 K) fi.toNatClampNeg (kN K) i).toInt ∧ (sDn (kT2 K) fi.toNatClampNeg (kN K) i).toInt ≤ 100
          unfold sDn
          split
          · exact k7 (i + 1) (by omega)
          · exact k7 i (by omega)
      · exact ⟨k1, k2, k3, k4, k5, k6, k7, k8⟩
    · split
      · exact ⟨k1, k2, k3, k4, by show min (kK K + 1) 8 ≤ 8; omega, k6, k7, k8⟩
      · have hs : sOk fi := by
          rcases ho with ⟨e, -⟩ | ⟨e, -⟩ | e | ⟨-, e⟩
          · contradiction
          · contradiction
          · contradiction
          · exact sOk_of e
        exact ⟨k1, k2, sOk_upd k3 hs, sOk_upd k4 hs, k5, k6, k7, k8⟩
theorem kExec_fuel {bf : Nat → Nat} {ln : Nat} : ∀ (f f' q d : Nat) (K : SK), ln + 1 - q ≤ f → ln + 1 - q ≤ f' → kExec bf ln f q d K = kExec bf ln f' q d K
  | 0, 0, _, _, _, _, _ => rfl
  | 0, f' + 1, q, d, K, h1, _ => by
    unfold kExec; rw [if_neg (by omega)]
  | f + 1, 0, q, d, K, _, h2 => by
    unfold kExec; rw [if_neg (by omega)]
  | f + 1, f' + 1, q, d, K, h1, h2 => by
    unfold kExec
    by_cases c : q < ln
    · rw [if_pos c, if_pos c]
      by_cases e : (mRO bf ln q 0 0).1 = true
      · rw [if_pos e, if_pos e]
        split
        · have := mRO_gt e
          exact kExec_fuel f f' _ _ _ (by omega) (by omega)
        · rfl
      · rw [if_neg e, if_neg e]
    · rw [if_neg c, if_neg c]
theorem mFI_s {r : Option Nat} {ln : Nat} (h : ¬ r = none) : mFEv r = nI (mFI r ln) := by
  cases r with
  | none => exact absurd rfl h
  | some q => rfl
section EXEC
variable {bf : Nat → Nat} {ln q f d : Nat} {fi se : Int32} {K : SK}
theorem kExec_s (h1 : q < ln) (h2 : (mRO bf ln q fi se).1 = true) (h3 : (kStep K (mRO bf ln q fi se).2.2.1 (mRO bf ln q fi se).2.2.2.1 (mRO bf ln q fi se).2.2.2.2).1 = true) : kExec bf ln (f + 1) q d K = kExec bf ln f ((mRO bf ln q fi se).2.1 + 1) (d + 1) (kStep K (mRO bf ln q fi se).2.2.1 (mRO bf ln q fi se).2.2.2.1 (mRO bf ln q fi se).2.2.2.2).2 := by
  have e := kStep_c K h2
  have h00 := mRO_0 (bf := bf) (ln := ln) (q := q) fi se
  rw [e] at h3 ⊢
  rw [h00.1] at h2
  rw [h00.2, kExec, if_pos h1, if_pos h2, if_pos h3]
theorem kExec_n1 (h1 : ¬ q < ln) : kExec bf ln (f + 1) q d K = (d, K) := by
  rw [kExec, if_neg h1]
theorem kExec_n2 (h1 : q < ln) (h2 : ¬ (mRO bf ln q fi se).1 = true) : kExec bf ln (f + 1) q d K = (d, K) := by
  rw [(mRO_0 (bf := bf) (ln := ln) (q := q) fi se).1] at h2
  rw [kExec, if_pos h1, if_neg h2]
theorem kExec_n3 (h1 : q < ln) (h2 : (mRO bf ln q fi se).1 = true) (h3 : ¬ (kStep K (mRO bf ln q fi se).2.2.1 (mRO bf ln q fi se).2.2.2.1 (mRO bf ln q fi se).2.2.2.2).1 = true) : kExec bf ln (f + 1) q d K = (d, (kStep K (mRO bf ln q fi se).2.2.1 (mRO bf ln q fi se).2.2.2.1 (mRO bf ln q fi se).2.2.2.2).2) := by
  have e := kStep_c K h2
  have h00 := mRO_0 (bf := bf) (ln := ln) (q := q) fi se
  rw [e] at h3 ⊢
  rw [h00.1] at h2
  rw [kExec, if_pos h1, if_pos h2, if_neg h3]
end EXEC
theorem mLay {n : Nat} {x : Int32} (hn : n ≤ 6) (h : 0 ≤ x ∧ x < nI n) : ∃ p, p < n ∧ x = nI p := by
  have h1 := h.1; have h2 := h.2
  rw [Int32.le_iff_toInt_le, Int32.toInt_zero] at h1
  rw [Int32.lt_iff_toInt_lt, nI_toInt (by omega)] at h2
  refine ⟨x.toInt.toNat, by omega, ?_⟩
  apply Int32.toInt_inj.mp
  rw [nI_toInt (by omega)]; omega
