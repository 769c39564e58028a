section TEXT3
variable {bf : Nat → Nat} {ln : Nat}
theorem semi_y {kd hg nu dg : Nat} {ng tk : Bool} (hk : 0 < kd) (h : rWhole kd dg tk = true) : rTakes 59 (kd, hg, nu, dg, ng, tk) = (true, (0, 0, 0, 0, false, false)) := by
  rw [rT_semi hk]; exact if_pos h
/-- the first error, read both ways -/
theorem fe_x : ∀ (f q : Nat), q ≤ ln → ln + 1 - q ≤ f →
    (mFE bf ln f q = none → ∃ R', (∀ F, ln - q < F → xRead bf ln F q (0, 0, 0, 0, false, false) = (ln, R')) ∧ rWhole R'.1 (xDg R') (xTk R') = true) ∧
    (∀ e, mFE bf ln f q = some e → ∃ R', (∀ F, ln - q < F → xRead bf ln F q (0, 0, 0, 0, false, false) = (e, R')) ∧ (e = ln → rWhole R'.1 (xDg R') (xTk R') = false) ∧ e ≤ ln)
  | 0, q, hq, hf => by omega
  | f + 1, q, hq, hf => by
    obtain ⟨R', ⟨g1, g2, g3, -⟩, hw, hn, he⟩ := ord_all (bf := bf) hq
    obtain ⟨kd, hg, nu, dg, ng, tk⟩ := R'
    generalize eq' : (mRO bf ln q 0 0).2.1 = q' at g1 g2 g3 hn
    have go : ∀ F, ln - q < F → xRead bf ln F q (0, 0, 0, 0, false, false) = xRead bf ln (F - (q' - q)) q' (kd, hg, nu, dg, ng, tk) := fun F hF => by
      have := g3 (F - (q' - q))
      rw [show F - (q' - q) + (q' - q) = F by omega] at this
      exact this
    have atl : q' = ln → ∀ F, ln - q < F → xRead bf ln F q (0, 0, 0, 0, false, false) = (ln, (kd, hg, nu, dg, ng, tk)) := fun e F hF => by
      rw [go F hF, show F - (q' - q) = (F - (q' - q) - 1) + 1 by omega, xRead, if_neg (by omega)]
    have stop : q' < ln → ¬ ((mRO bf ln q 0 0).1 = true ∧ bf q' = 59) → ∀ F, ln - q < F → xRead bf ln F q (0, 0, 0, 0, false, false) = (q', (rTakes (bf q') (kd, hg, nu, dg, ng, tk)).2) := fun hl hno F hF => by
      rw [go F hF, show F - (q' - q) = (F - (q' - q) - 1) + 1 by omega, xRead, if_pos hl, if_neg (by rw [hn hl hno]; decide)]
    unfold mFE
    rw [eq']
    by_cases c : (mRO bf ln q 0 0).1 = true
    · rw [if_pos c]
      rw [c] at hw
      by_cases c2 : q' = ln
      · rw [if_pos c2]
        exact ⟨fun _ => ⟨_, atl c2, hw⟩, fun e z => nomatch z⟩
      · rw [if_neg c2]
        have hl : q' < ln := by omega
        have ex : mNx bf ln q' = bf q' := if_pos hl
        rw [ex]
        by_cases c3 : bf q' = 59
        · rw [if_pos c3]
          have hk := (he c).1
          have nx : ∀ F, ln - q < F → xRead bf ln F q (0, 0, 0, 0, false, false) = xRead bf ln (F - (q' - q) - 1) (q' + 1) (0, 0, 0, 0, false, false) := fun F hF => by
            rw [go F hF, show F - (q' - q) = (F - (q' - q) - 1) + 1 by omega, xRead, if_pos hl, c3, semi_y hk hw, if_pos rfl]
            rfl
          have hgt := mRO_gt (bf := bf) (ln := ln) (q := q) (fi := 0) (se := 0) c
          obtain ⟨i1, i2⟩ := fe_x f (q' + 1) (by omega) (by omega)
          refine ⟨fun z => ?_, fun e z => ?_⟩
          · obtain ⟨R2, h1, h2⟩ := i1 z
            exact ⟨R2, fun F hF => by rw [nx F hF]; exact h1 _ (by omega), h2⟩
          · obtain ⟨R2, h1, h2⟩ := i2 e z
            exact ⟨R2, fun F hF => by rw [nx F hF]; exact h1 _ (by omega), h2⟩
        · rw [if_neg c3]
          refine ⟨fun z => (nomatch z), fun e z => ?_⟩
          cases z
          exact ⟨_, stop hl (fun z => c3 z.2), fun z => absurd z c2, g2⟩
    · rw [if_neg c]
      refine ⟨fun z => (nomatch z), fun e z => ?_⟩
      cases z
      by_cases c2 : q' = ln
      · refine ⟨(kd, hg, nu, dg, ng, tk), fun F hF => ?_, fun _ => ?_, g2⟩
        · rw [atl c2 F hF, c2]
        · rw [hw]; simpa using c
      · exact ⟨_, stop (by omega) (fun z => c z.1), fun z => absurd z c2, g2⟩
/-- the orders, done both ways -/
theorem run_x {Rel : CK → SK → Prop} (hstep : ∀ (R : RT) (sg : Nat) (fi se : Int32) (K : CK) (M : SK), oEnc R sg fi se → oOk sg fi se → Rel K M → (xStep R K).1 = (kStep M sg fi se).1 ∧ Rel (xStep R K).2 (kStep M sg fi se).2) :
    ∀ (f q d : Nat) (K : CK) (M : SK), q ≤ ln → ln + 1 - q ≤ f → mFE bf ln f q = none → Rel K M → ∀ F G, ln - q < F → ln + 1 - q ≤ G →
      (xRun bf ln F q d (0, 0, 0, 0, false, false) K).1 = (kExec bf ln G q d M).1 ∧ Rel (xRun bf ln F q d (0, 0, 0, 0, false, false) K).2.2 (kExec bf ln G q d M).2
  | 0, q, d, K, M, hq, hf, _, _, _, _, _, _ => by omega
  | f + 1, q, d, K, M, hq, hf, hn, hr, F, G, hF, hG => by
    obtain ⟨R', ⟨g1, g2, -, g4⟩, hw, -, he⟩ := ord_all (bf := bf) hq
    obtain ⟨kd, hg, nu, dg, ng, tk⟩ := R'
    have c : (mRO bf ln q 0 0).1 = true := by
      unfold mFE at hn
      by_cases c : (mRO bf ln q 0 0).1 = true
      · exact c
      · rw [if_neg c] at hn; cases hn
    obtain ⟨hk, henc⟩ := he c
    have hgt := mRO_gt (bf := bf) (ln := ln) (q := q) (fi := 0) (se := 0) c
    rw [c] at hw
    obtain ⟨s1, s2⟩ := hstep _ _ _ _ K M henc (mRO_ok c).1 hr
    obtain ⟨G', rfl⟩ : ∃ G', G = G' + 1 := ⟨G - 1, by omega⟩
    have go : xRun bf ln F q d (0, 0, 0, 0, false, false) K = xRun bf ln (F - ((mRO bf ln q 0 0).2.1 - q)) (mRO bf ln q 0 0).2.1 d (kd, hg, nu, dg, ng, tk) K := by
      have := g4 (F - ((mRO bf ln q 0 0).2.1 - q)) d K
      rw [show F - ((mRO bf ln q 0 0).2.1 - q) + ((mRO bf ln q 0 0).2.1 - q) = F by omega] at this
      exact this
    rw [go]
    obtain ⟨F', eF⟩ : ∃ F', F - ((mRO bf ln q 0 0).2.1 - q) = F' + 1 := ⟨F - ((mRO bf ln q 0 0).2.1 - q) - 1, by omega⟩
    rw [eF]
    unfold mFE at hn
    rw [if_pos c] at hn
    have kx : kExec bf ln (G' + 1) q d M = if (kStep M (mRO bf ln q 0 0).2.2.1 (mRO bf ln q 0 0).2.2.2.1 (mRO bf ln q 0 0).2.2.2.2).1 = true then kExec bf ln G' ((mRO bf ln q 0 0).2.1 + 1) (d + 1) (kStep M (mRO bf ln q 0 0).2.2.1 (mRO bf ln q 0 0).2.2.2.1 (mRO bf ln q 0 0).2.2.2.2).2 else (d, (kStep M (mRO bf ln q 0 0).2.2.1 (mRO bf ln q 0 0).2.2.2.1 (mRO bf ln q 0 0).2.2.2.2).2) := by
      rw [kExec, if_pos (by omega), if_pos c]
    rw [kx]
    by_cases c2 : (mRO bf ln q 0 0).2.1 = ln
    · rw [xRun, if_neg (by omega)]
      by_cases t : (xStep (kd, hg, nu, dg, ng, tk) K).1 = true
      · rw [if_pos t, if_pos (by rw [← s1]; exact t)]
        have kz : kExec bf ln G' ((mRO bf ln q 0 0).2.1 + 1) (d + 1) (kStep M (mRO bf ln q 0 0).2.2.1 (mRO bf ln q 0 0).2.2.2.1 (mRO bf ln q 0 0).2.2.2.2).2 = (d + 1, (kStep M (mRO bf ln q 0 0).2.2.1 (mRO bf ln q 0 0).2.2.2.1 (mRO bf ln q 0 0).2.2.2.2).2) := by
          cases G' with
          | zero => rfl
          | succ G' => exact kExec_n1 (by omega)
        rw [kz]
        exact ⟨rfl, s2⟩
      · rw [if_neg t, if_neg (by rw [← s1]; exact t)]
        exact ⟨rfl, s2⟩
    · rw [if_neg c2] at hn
      have hl : (mRO bf ln q 0 0).2.1 < ln := by omega
      have ex : mNx bf ln (mRO bf ln q 0 0).2.1 = bf (mRO bf ln q 0 0).2.1 := if_pos hl
      rw [ex] at hn
      have c3 : bf (mRO bf ln q 0 0).2.1 = 59 := by
        by_cases c3 : bf (mRO bf ln q 0 0).2.1 = 59
        · exact c3
        · rw [if_neg c3] at hn; cases hn
      rw [if_pos c3] at hn
      rw [xRun, if_pos hl, if_pos c3, c3, semi_y hk hw]
      by_cases t : (xStep (kd, hg, nu, dg, ng, tk) K).1 = true
      · rw [if_pos t, if_pos (by rw [← s1]; exact t)]
        exact run_x hstep f _ (d + 1) _ _ (by omega) (by omega) hn s2 F' G' (by omega) (by omega)
      · rw [if_neg t, if_neg (by rw [← s1]; exact t)]
        exact ⟨rfl, s2⟩
end TEXT3
