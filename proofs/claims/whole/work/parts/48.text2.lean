section TEXT2
variable {bf : Nat → Nat} {ln q : Nat}
theorem gG_k (hq : q < ln) (h : bf q = 99 ∨ bf q = 97 ∨ bf q = 98 ∨ bf q = 120 ∨ bf q = 110) : gG bf ln q (0, 0, 0, 0, false, false) (q + 1) (bf q, 0, 0, 0, false, false) := gG_1 hq (by omega) (kind_y h)
theorem rW_d {kd dg : Nat} {tk : Bool} (h1 : ¬ kd = 110) (h2 : ¬ kd = 99) : rWhole kd dg tk = decide (0 < dg) := by unfold rWhole; rw [if_neg h1, if_neg h2]
theorem ord_x (hq : q < ln) (h : bf q = 120) : ∃ R', oRd bf ln q R' := by
  have ex : mNx bf ln q = 120 := (if_pos hq).trans h
  have e : mRO bf ln q 0 0 = (mNok bf ln 0 5 (q + 1), mNq bf ln 0 5 (q + 1), 120, mNv bf ln 0 5 (q + 1), 0) := by
    unfold mRO; rw [ex, if_neg (by decide), if_neg (by decide), if_pos rfl]
  have g0 := gG_k hq (Or.inr (Or.inr (Or.inr (Or.inl h))))
  rw [h] at g0
  unfold oRd
  rw [e]
  by_cases c : mNok bf ln 0 5 (q + 1) = true
  · obtain ⟨v, dg, hd, hv, ev, g1, g2⟩ := num_y (hg := 0) (kd := 120) (ng := false) (tk := false) (lo := 0) (hi := 5) (by decide) (by decide) rfl (by decide) hq c
    refine ⟨_, gG_t g0 g1, ?_, fun hl hn => ?_, fun _ => ⟨(show 0 < 120 by decide), rfl, fun z => absurd (show (120 : Nat) = 99 from z) (by decide), fun _ => ev, fun z => absurd (show (120 : Nat) = 97 ∨ (120 : Nat) = 98 from z) (by decide), by show v ≤ 3000; omega, Nat.zero_le _, (show (120 : Nat) = 99 ∨ (120 : Nat) = 97 ∨ (120 : Nat) = 98 ∨ (120 : Nat) = 120 ∨ (120 : Nat) = 110 by decide)⟩⟩
    · show rWhole 120 dg false = _
      rw [rW_d (by decide) (by decide), decide_eq_true hd]; exact c.symm
    · exact nx_no (by decide) (fun _ => star_n (Or.inl (by decide))) (fun _ => minus_n (Or.inl ⟨by decide, by decide⟩)) (fun z => absurd ⟨c, z⟩ hn) (g2 hl)
  · obtain ⟨e1, g2⟩ := num_n (bf := bf) (ln := ln) (q := q + 1) (hg := 0) (kd := 120) (ng := false) (tk := false) (lo := 0) (hi := 5) (by decide) rfl (Or.inl rfl) c
    rw [e1]
    refine ⟨_, g0, ?_, fun hl hn => ?_, fun z => absurd z c⟩
    · rw [rW_d (by decide) (by decide)]; simpa using c
    · exact nx_no (by decide) (fun _ => star_n (Or.inl (by decide))) (fun _ => minus_n (Or.inl ⟨by decide, by decide⟩)) (fun _ => rfl) (g2 hl)
theorem ord_n (hq : q < ln) (h : bf q = 110) : ∃ R', oRd bf ln q R' := by
  have ex : mNx bf ln q = 110 := (if_pos hq).trans h
  have e : mRO bf ln q 0 0 = (true, q + 1, 110, 0, 0) := by
    unfold mRO; rw [ex, if_neg (by decide), if_neg (by decide), if_neg (by decide), if_pos rfl]
  have g0 := gG_k hq (Or.inr (Or.inr (Or.inr (Or.inr h))))
  rw [h] at g0
  unfold oRd
  rw [e]
  refine ⟨_, g0, rfl, fun hl hn => ?_, fun _ => ⟨(show 0 < 110 by decide), rfl, fun z => absurd (show (110 : Nat) = 99 from z) (by decide), fun z => absurd (show (110 : Nat) = 120 from z) (by decide), fun z => absurd (show (110 : Nat) = 97 ∨ (110 : Nat) = 98 from z) (by decide), Nat.zero_le _, Nat.zero_le _, (show (110 : Nat) = 99 ∨ (110 : Nat) = 97 ∨ (110 : Nat) = 98 ∨ (110 : Nat) = 120 ∨ (110 : Nat) = 110 by decide)⟩⟩
  exact nx_no (by decide) (fun _ => star_n (Or.inl (by decide))) (fun _ => minus_n (Or.inl ⟨by decide, by decide⟩)) (fun z => absurd ⟨rfl, z⟩ hn) (fun a b => by rw [rT_dig (by decide) ⟨a, b⟩, rDigit_n (Or.inl rfl)])
theorem ord_no (hq : q ≤ ln) (h : ¬ (mNx bf ln q = 99 ∨ mNx bf ln q = 97 ∨ mNx bf ln q = 98 ∨ mNx bf ln q = 120 ∨ mNx bf ln q = 110)) : ∃ R', oRd bf ln q R' := by
  have e : mRO bf ln q 0 0 = (false, q, mNx bf ln q, 0, 0) := by
    unfold mRO; rw [if_neg (by omega), if_neg (by omega), if_neg (by omega), if_neg (by omega)]
  unfold oRd
  rw [e]
  refine ⟨_, gG_0 hq, rfl, fun hl _ => ?_, fun z => nomatch z⟩
  have ex : mNx bf ln q = bf q := if_pos hl
  rw [ex] at h
  show (rTakes (bf q) (0, 0, 0, 0, false, false)).1 = false
  unfold rTakes rKind
  rw [if_pos rfl]
  exact decide_eq_false h
theorem ord_s (hq : q < ln) (h : bf q = 97 ∨ bf q = 98) : ∃ R', oRd bf ln q R' := by
  have ex : mNx bf ln q = bf q := if_pos hq
  have e : mRO bf ln q 0 0 = (mNok bf ln 0 30 (mTk bf ln 45 (q + 1)), mNq bf ln 0 30 (mTk bf ln 45 (q + 1)), bf q, (if mNx bf ln (q + 1) = 45 then -mNv bf ln 0 30 (mTk bf ln 45 (q + 1)) else mNv bf ln 0 30 (mTk bf ln 45 (q + 1))), 0) := by
    unfold mRO; rw [ex, if_neg (by omega), if_pos h]; rfl
  have g0 := gG_k hq (show bf q = 99 ∨ bf q = 97 ∨ bf q = 98 ∨ bf q = 120 ∨ bf q = 110 by omega)
  have hk : 0 < bf q := by omega
  have h1 : ¬ bf q = 110 := by omega
  have h2 : ¬ bf q = 99 := by omega
  have hm : rMost (bf q) false = 30 := by unfold rMost; rw [if_neg h2, if_neg (by omega)]
  unfold oRd
  rw [e]
  -- the minus
  obtain ⟨ng, g1, hle, eng, hmn⟩ : ∃ ng : Bool, gG bf ln q (0, 0, 0, 0, false, false) (mTk bf ln 45 (q + 1)) (bf q, 0, 0, 0, ng, false) ∧ mTk bf ln 45 (q + 1) ≤ ln ∧ (mNx bf ln (q + 1) = 45 ↔ ng = true) ∧ (mTk bf ln 45 (q + 1) < ln → bf (mTk bf ln 45 (q + 1)) = 45 → ng = true) := by
    by_cases c : mNx bf ln (q + 1) = 45
    · have hl : q + 1 < ln := mNx_q (bf := bf) (by omega)
      have ex1 : bf (q + 1) = 45 := (if_pos hl).symm.trans c
      have et : mTk bf ln 45 (q + 1) = q + 1 + 1 := if_pos c
      rw [et]
      refine ⟨true, gG_t g0 (gG_1 hl (by omega) ?_), hl, ⟨fun _ => rfl, fun _ => c⟩, fun _ _ => rfl⟩
      rw [ex1, rT_minus hk, rMinus_y h (by decide) rfl]
    · have et : mTk bf ln 45 (q + 1) = q + 1 := if_neg c
      rw [et]
      refine ⟨false, g0, hq, ⟨fun z => absurd z c, fun z => nomatch z⟩, fun hl z => absurd ((if_pos hl).trans z) c⟩
  by_cases c : mNok bf ln 0 30 (mTk bf ln 45 (q + 1)) = true
  · obtain ⟨v, dg, hd, hv, ev, g2, g3⟩ := num_y (hg := 0) (kd := bf q) (ng := ng) (tk := false) (lo := 0) (hi := 30) hk h1 hm (fun z => absurd z h2) hle c
    refine ⟨_, gG_t g1 g2, ?_, fun hl hn => ?_, fun _ => ⟨hk, rfl, fun z => absurd z h2, fun z => absurd (show bf q = 120 from z) (by omega), fun _ => ?_, by show v ≤ 3000; omega, Nat.zero_le _, ?_⟩⟩
    · show rWhole (bf q) dg false = _
      rw [rW_d h1 h2, decide_eq_true hd]; exact c.symm
    · exact nx_no hk (fun _ => star_n (Or.inl h2)) (fun _ => minus_n (Or.inr (Or.inr hd))) (fun z => absurd ⟨c, z⟩ hn) (g3 hl)
    · show (if mNx bf ln (q + 1) = 45 then _ else _) = (if ng = true then -nI v else nI v)
      rw [ev]
      by_cases z : mNx bf ln (q + 1) = 45
      · rw [if_pos z, if_pos (eng.mp z)]
      · rw [if_neg z, if_neg (fun y => z (eng.mpr y))]
    · show bf q = 99 ∨ bf q = 97 ∨ bf q = 98 ∨ bf q = 120 ∨ bf q = 110
      omega
  · obtain ⟨e1, g3⟩ := num_n (bf := bf) (ln := ln) (q := mTk bf ln 45 (q + 1)) (hg := 0) (kd := bf q) (ng := ng) (tk := false) (lo := 0) (hi := 30) hk hm (Or.inl rfl) c
    rw [e1]
    refine ⟨_, g1, ?_, fun hl hn => ?_, fun z => absurd z c⟩
    · show rWhole (bf q) 0 false = _
      rw [rW_d h1 h2]; simpa using c
    · exact nx_no hk (fun _ => star_n (Or.inl h2)) (fun z => minus_n (Or.inr (Or.inl (hmn hl z)))) (fun _ => by rw [rW_d h1 h2]; rfl) (g3 hl)
theorem nI_lt50 {v : Nat} (h : v ≤ 3000) : nI v < 50 ↔ v < 50 := by
  rw [Int32.lt_iff_toInt_lt, nI_toInt (by omega), show (50 : Int32).toInt = 50 by decide +kernel]; omega
theorem ord_c (hq : q < ln) (h : bf q = 99) : ∃ R', oRd bf ln q R' := by
  have ex : mNx bf ln q = 99 := (if_pos hq).trans h
  have e : mRO bf ln q 0 0 = ((mRL bf ln (q + 1) 0).1, (mRL bf ln (q + 1) 0).2.1, 99, (mRL bf ln (q + 1) 0).2.2.1, (mRL bf ln (q + 1) 0).2.2.2) := by
    unfold mRO; rw [ex, if_pos rfl]
  have g0 := gG_k hq (Or.inl h)
  rw [h] at g0
  unfold oRd
  rw [e]
  by_cases c : mNok bf ln 1 3000 (q + 1) = true
  · obtain ⟨v, dg, hd, hv, ev, g1, g2⟩ := num_y (hg := 0) (kd := 99) (ng := false) (tk := false) (lo := 1) (hi := 3000) (by decide) (by decide) rfl (fun _ => Nat.le_refl 1) hq c
    have hle := g1.2.1
    have w99 : rWhole 99 dg false = false := rfl
    by_cases c50 : v < 50
    · have er : mRL bf ln (q + 1) 0 = (false, mNq bf ln 1 3000 (q + 1), mNv bf ln 1 3000 (q + 1), 0) := by unfold mRL; rw [if_pos (by rw [ev]; exact (nI_lt50 hv).mpr c50)]
      rw [er]
      refine ⟨_, gG_t g0 g1, w99, fun hl hn => ?_, fun z => nomatch z⟩
      exact nx_no (by decide) (fun _ => star_n (Or.inr (Or.inr c50))) (fun _ => minus_n (Or.inl ⟨by decide, by decide⟩)) (fun _ => w99) (g2 hl)
    · by_cases c42 : mNx bf ln (mNq bf ln 1 3000 (q + 1)) = 42
      · have er : mRL bf ln (q + 1) 0 = (mNok bf ln 1 100 (mNq bf ln 1 3000 (q + 1) + 1), mNq bf ln 1 100 (mNq bf ln 1 3000 (q + 1) + 1), mNv bf ln 1 3000 (q + 1), mNv bf ln 1 100 (mNq bf ln 1 3000 (q + 1) + 1)) := by
          unfold mRL; rw [if_neg (by rw [ev]; exact fun z => c50 ((nI_lt50 hv).mp z)), if_neg (fun z => z c42)]
        have hl2 : mNq bf ln 1 3000 (q + 1) < ln := mNx_q (bf := bf) (by omega)
        have ex2 : bf (mNq bf ln 1 3000 (q + 1)) = 42 := (if_pos hl2).symm.trans c42
        have g3 : gG bf ln (mNq bf ln 1 3000 (q + 1)) (99, 0, v, dg, false, false) (mNq bf ln 1 3000 (q + 1) + 1) (99, v, 0, 0, false, true) :=
          gG_1 hl2 (by omega) (by rw [ex2, rT_star (by decide), rStar_y rfl (by decide) (by omega)])
        rw [er]
        by_cases d : mNok bf ln 1 100 (mNq bf ln 1 3000 (q + 1) + 1) = true
        · obtain ⟨v2, dg2, hd2, hv2, ev2, k1, k2⟩ := num_y (hg := v) (kd := 99) (ng := false) (tk := true) (lo := 1) (hi := 100) (by decide) (by decide) rfl (fun _ => Nat.le_refl 1) (show mNq bf ln 1 3000 (q + 1) + 1 ≤ ln from hl2) d
          refine ⟨_, gG_t (gG_t (gG_t g0 g1) g3) k1, ?_, fun hl hn => ?_, fun _ => ⟨(show 0 < 99 by decide), rfl, fun _ => ⟨ev, ev2⟩, fun z => absurd (show (99 : Nat) = 120 from z) (by decide), fun z => absurd (show (99 : Nat) = 97 ∨ (99 : Nat) = 98 from z) (by decide), by show v2 ≤ 3000; omega, hv, (show (99 : Nat) = 99 ∨ (99 : Nat) = 97 ∨ (99 : Nat) = 98 ∨ (99 : Nat) = 120 ∨ (99 : Nat) = 110 by decide)⟩⟩
          · show (true && decide (0 < dg2)) = _
            rw [decide_eq_true hd2]; exact d.symm
          · exact nx_no (by decide) (fun _ => star_n (Or.inr (Or.inl rfl))) (fun _ => minus_n (Or.inl ⟨by decide, by decide⟩)) (fun z => absurd ⟨d, z⟩ hn) (k2 hl)
        · obtain ⟨e1, k2⟩ := num_n (bf := bf) (ln := ln) (q := mNq bf ln 1 3000 (q + 1) + 1) (hg := v) (kd := 99) (ng := false) (tk := true) (lo := 1) (hi := 100) (by decide) rfl (Or.inr ⟨rfl, rfl⟩) d
          rw [e1]
          refine ⟨_, gG_t (gG_t g0 g1) g3, ?_, fun hl hn => ?_, fun z => absurd z d⟩
          · show (true && decide (0 < 0)) = _
            simpa using d
          · exact nx_no (by decide) (fun _ => star_n (Or.inr (Or.inl rfl))) (fun _ => minus_n (Or.inl ⟨by decide, by decide⟩)) (fun _ => rfl) (k2 hl)
      · have er : mRL bf ln (q + 1) 0 = (false, mNq bf ln 1 3000 (q + 1), mNv bf ln 1 3000 (q + 1), 0) := by
          unfold mRL; rw [if_neg (by rw [ev]; exact fun z => c50 ((nI_lt50 hv).mp z)), if_pos c42]
        rw [er]
        refine ⟨_, gG_t g0 g1, w99, fun hl hn => ?_, fun z => nomatch z⟩
        exact nx_no (by decide) (fun z => absurd ((if_pos hl).trans z) c42) (fun _ => minus_n (Or.inl ⟨by decide, by decide⟩)) (fun _ => w99) (g2 hl)
  · obtain ⟨e1, g2⟩ := num_n (bf := bf) (ln := ln) (q := q + 1) (hg := 0) (kd := 99) (ng := false) (tk := false) (lo := 1) (hi := 3000) (by decide) rfl (Or.inr ⟨rfl, rfl⟩) c
    have en : mNv bf ln 1 3000 (q + 1) = -99999 := if_neg c
    have er : mRL bf ln (q + 1) 0 = (false, mNq bf ln 1 3000 (q + 1), mNv bf ln 1 3000 (q + 1), 0) := by unfold mRL; rw [if_pos (by rw [en]; decide)]
    rw [er, e1]
    refine ⟨_, g0, rfl, fun hl hn => ?_, fun z => nomatch z⟩
    exact nx_no (by decide) (fun _ => star_n (Or.inr (Or.inr (by decide)))) (fun _ => minus_n (Or.inl ⟨by decide, by decide⟩)) (fun _ => rfl) (g2 hl)
theorem ord_all (hq : q ≤ ln) : ∃ R', oRd bf ln q R' := by
  by_cases c : mNx bf ln q = 99 ∨ mNx bf ln q = 97 ∨ mNx bf ln q = 98 ∨ mNx bf ln q = 120 ∨ mNx bf ln q = 110
  · have hl : q < ln := mNx_q (bf := bf) (by omega)
    have ex : mNx bf ln q = bf q := if_pos hl
    rw [ex] at c
    rcases c with c | c | c | c | c
    · exact ord_c hl c
    · exact ord_s hl (Or.inl c)
    · exact ord_s hl (Or.inr c)
    · exact ord_x hl c
    · exact ord_n hl c
  · exact ord_no hq c
end TEXT2
