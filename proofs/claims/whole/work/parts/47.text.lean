/-! the text: the class's reader, sign by sign, against the reference's orders -/
def gG (bf : Nat → Nat) (ln q : Nat) (R : RT) (q' : Nat) (R' : RT) : Prop :=
  q ≤ q' ∧ q' ≤ ln ∧ (∀ f, xRead bf ln (f + (q' - q)) q R = xRead bf ln f q' R') ∧ (∀ f d K, xRun bf ln (f + (q' - q)) q d R K = xRun bf ln f q' d R' K)
section TEXT
variable {bf : Nat → Nat} {ln q q' q2 : Nat} {R R' R2 : RT}
theorem gG_0 (h : q ≤ ln) : gG bf ln q R q R := ⟨Nat.le_refl _, h, fun f => by rw [Nat.sub_self]; rfl, fun f d K => by rw [Nat.sub_self]; rfl⟩
theorem gG_t (h1 : gG bf ln q R q' R') (h2 : gG bf ln q' R' q2 R2) : gG bf ln q R q2 R2 := by
  obtain ⟨a1, a2, a3, a4⟩ := h1
  obtain ⟨b1, b2, b3, b4⟩ := h2
  refine ⟨by omega, b2, fun f => ?_, fun f d K => ?_⟩
  · rw [show f + (q2 - q) = (f + (q2 - q')) + (q' - q) by omega, a3, b3]
  · rw [show f + (q2 - q) = (f + (q2 - q')) + (q' - q) by omega, a4, b4]
theorem gG_1 (hq : q < ln) (h59 : ¬ bf q = 59) (ht : rTakes (bf q) R = (true, R')) : gG bf ln q R (q + 1) R' := by
  refine ⟨Nat.le_succ q, hq, fun f => ?_, fun f d K => ?_⟩
  · rw [show f + (q + 1 - q) = f + 1 by omega, xRead, if_pos hq, ht, if_pos rfl]
  · rw [show f + (q + 1 - q) = f + 1 by omega, xRun, if_pos hq, if_neg h59, ht]
theorem rT_dig {c kd hg nu dg : Nat} {ng tk : Bool} (hk : 0 < kd) (hc : 48 ≤ c ∧ c ≤ 57) : rTakes c (kd, hg, nu, dg, ng, tk) = rDigit (c - 48) (kd, hg, nu, dg, ng, tk) := by
  unfold rTakes
  rw [if_neg (show ¬ kd = 0 by omega), if_neg (by omega), if_neg (by omega), if_neg (by omega), if_pos hc]
theorem rT_star {kd hg nu dg : Nat} {ng tk : Bool} (hk : 0 < kd) : rTakes 42 (kd, hg, nu, dg, ng, tk) = rStar (kd, hg, nu, dg, ng, tk) := by
  unfold rTakes; rw [if_neg (show ¬ kd = 0 by omega), if_pos rfl]
theorem rT_minus {kd hg nu dg : Nat} {ng tk : Bool} (hk : 0 < kd) : rTakes 45 (kd, hg, nu, dg, ng, tk) = rMinus (kd, hg, nu, dg, ng, tk) := by
  unfold rTakes; rw [if_neg (show ¬ kd = 0 by omega), if_neg (by decide), if_pos rfl]
theorem rT_semi {kd hg nu dg : Nat} {ng tk : Bool} (hk : 0 < kd) : rTakes 59 (kd, hg, nu, dg, ng, tk) = rSemi (kd, hg, nu, dg, ng, tk) := by
  unfold rTakes; rw [if_neg (show ¬ kd = 0 by omega), if_neg (by decide), if_neg (by decide), if_pos rfl]
theorem rT_no {c kd hg nu dg : Nat} {ng tk : Bool} (hk : 0 < kd) (h1 : ¬ c = 42) (h2 : ¬ c = 45) (h3 : ¬ c = 59) (h4 : ¬ (48 ≤ c ∧ c ≤ 57)) : rTakes c (kd, hg, nu, dg, ng, tk) = (false, (kd, hg, nu, dg, ng, tk)) := by
  unfold rTakes; rw [if_neg (show ¬ kd = 0 by omega), if_neg h1, if_neg h2, if_neg h3, if_neg h4]
/-- the digits behind the first -/
theorem num_go {kd hg : Nat} {ng tk : Bool} {hi : Nat} (hk : 0 < kd) (h110 : ¬ kd = 110) (hm : rMost kd tk = hi) : ∀ (f v dg q : Nat), ln - q ≤ f → q ≤ ln → 0 < dg → ∃ dg', 0 < dg' ∧
    gG bf ln q (kd, hg, v, dg, ng, tk) (mNum bf ln hi f v q).2 (kd, hg, (mNum bf ln hi f v q).1, dg', ng, tk) ∧
    ((mNum bf ln hi f v q).2 < ln → 48 ≤ bf (mNum bf ln hi f v q).2 → bf (mNum bf ln hi f v q).2 ≤ 57 → (rTakes (bf (mNum bf ln hi f v q).2) (kd, hg, (mNum bf ln hi f v q).1, dg', ng, tk)).1 = false)
  | 0, v, dg, q, hf, hq, hd => ⟨dg, hd, gG_0 hq, fun h => by have h : q < ln := h; omega⟩
  | f + 1, v, dg, q, hf, hq, hd => by
    unfold mNum
    by_cases c : 0 < v ∧ 48 ≤ mNx bf ln q ∧ mNx bf ln q ≤ 57 ∧ 10 * v + mNx bf ln q - 48 ≤ hi
    · rw [if_pos c]
      have hl : q < ln := mNx_q (bf := bf) (by omega)
      have ex : mNx bf ln q = bf q := if_pos hl
      rw [ex] at c ⊢
      obtain ⟨dg', h1, h2, h3⟩ := num_go (hg := hg) (ng := ng) hk h110 hm f (10 * v + bf q - 48) (dg + 1) (q + 1) (by omega) hl (Nat.succ_pos _)
      refine ⟨dg', h1, gG_t (gG_1 hl (by omega) ?_) h2, h3⟩
      rw [rT_dig hk ⟨c.2.1, c.2.2.1⟩, rDigit_y (by rw [hm]; omega)]
      rw [show v * 10 + (bf q - 48) = 10 * v + bf q - 48 by omega]
    · rw [if_neg c]
      refine ⟨dg, hd, gG_0 hq, fun h h48 h57 => ?_⟩
      have ex : mNx bf ln q = bf q := if_pos h
      rw [ex] at c
      have h48 : 48 ≤ bf q := h48
      have h57 : bf q ≤ 57 := h57
      show (rTakes (bf q) (kd, hg, v, dg, ng, tk)).1 = false
      rw [rT_dig hk ⟨h48, h57⟩, rDigit_n (by rw [hm]; omega)]
/-- a number: where there is one -/
theorem num_y {kd hg : Nat} {ng tk : Bool} {lo hi : Nat} (hk : 0 < kd) (h110 : ¬ kd = 110) (hm : rMost kd tk = hi) (hlo : kd = 99 → 1 ≤ lo) (hq : q ≤ ln) (h : mNok bf ln lo hi q = true) : ∃ v dg, 0 < dg ∧ v ≤ hi ∧ mNv bf ln lo hi q = nI v ∧
    gG bf ln q (kd, hg, 0, 0, ng, tk) (mNq bf ln lo hi q) (kd, hg, v, dg, ng, tk) ∧ (mNq bf ln lo hi q < ln → 48 ≤ bf (mNq bf ln lo hi q) → bf (mNq bf ln lo hi q) ≤ 57 → (rTakes (bf (mNq bf ln lo hi q)) (kd, hg, v, dg, ng, tk)).1 = false) := by
  have c := of_decide_eq_true h
  have hl : q < ln := mNx_q (bf := bf) (by omega)
  have ex : mNx bf ln q = bf q := if_pos hl
  unfold mNv mNq
  rw [if_pos h, if_pos h]
  obtain ⟨dg', h1, h2, h3⟩ := num_go (hg := hg) (ng := ng) hk h110 hm (ln - (q + 1)) (mNx bf ln q - 48) 1 (q + 1) (Nat.le_refl _) hl (by decide)
  refine ⟨_, dg', h1, mNum_le c.2.2, rfl, gG_t (gG_1 hl (by omega) ?_) h2, h3⟩
  rw [ex] at c ⊢
  rw [rT_dig hk ⟨by omega, c.2.1⟩, rDigit_y (by rw [hm]; omega)]
  rw [Nat.zero_mul, Nat.zero_add]
/-- and where there is none -/
theorem num_n {kd hg : Nat} {ng tk : Bool} {lo hi : Nat} (hk : 0 < kd) (hm : rMost kd tk = hi) (hlo : lo = 0 ∨ (lo = 1 ∧ kd = 99)) (h : ¬ mNok bf ln lo hi q = true) : mNq bf ln lo hi q = q ∧ (q < ln → 48 ≤ bf q → bf q ≤ 57 → (rTakes (bf q) (kd, hg, 0, 0, ng, tk)).1 = false) := by
  refine ⟨if_neg h, fun hl h48 h57 => ?_⟩
  have ex : mNx bf ln q = bf q := if_pos hl
  have c : ¬ (48 + lo ≤ mNx bf ln q ∧ mNx bf ln q ≤ 57 ∧ mNx bf ln q - 48 ≤ hi) := fun z => h (decide_eq_true z)
  rw [ex] at c
  rw [rT_dig hk ⟨h48, h57⟩, rDigit_n (by rw [hm]; omega)]
/-- what the class's reader holds once an order is read -/
def oEnc (R : RT) (sg : Nat) (fi se : Int32) : Prop :=
  R.1 = sg ∧ (sg = 99 → fi = nI (xHg R) ∧ se = nI (xNu R)) ∧ (sg = 120 → fi = nI (xNu R)) ∧ (sg = 97 ∨ sg = 98 → fi = if xNg R = true then -nI (xNu R) else nI (xNu R)) ∧ xNu R ≤ 3000 ∧ xHg R ≤ 3000 ∧ (sg = 99 ∨ sg = 97 ∨ sg = 98 ∨ sg = 120 ∨ sg = 110)
/-- an order, read both ways -/
def oRd (bf : Nat → Nat) (ln q : Nat) (R' : RT) : Prop :=
  gG bf ln q (0, 0, 0, 0, false, false) (mRO bf ln q 0 0).2.1 R' ∧ rWhole R'.1 (xDg R') (xTk R') = (mRO bf ln q 0 0).1 ∧
  ((mRO bf ln q 0 0).2.1 < ln → ¬ ((mRO bf ln q 0 0).1 = true ∧ bf (mRO bf ln q 0 0).2.1 = 59) → (rTakes (bf (mRO bf ln q 0 0).2.1) R').1 = false) ∧
  ((mRO bf ln q 0 0).1 = true → 0 < R'.1 ∧ oEnc R' (mRO bf ln q 0 0).2.2.1 (mRO bf ln q 0 0).2.2.2.1 (mRO bf ln q 0 0).2.2.2.2)
theorem semi_n {kd hg nu dg : Nat} {ng tk : Bool} (hk : 0 < kd) (h : rWhole kd dg tk = false) : (rTakes 59 (kd, hg, nu, dg, ng, tk)).1 = false := by
  rw [rT_semi hk]
  unfold rSemi
  rw [if_neg (show ¬ rWhole kd dg tk = true by rw [h]; decide)]
/-- the sign behind: not taken, by cases -/
theorem nx_no {c kd hg nu dg : Nat} {ng tk : Bool} (hk : 0 < kd) (h42 : c = 42 → (rStar (kd, hg, nu, dg, ng, tk)).1 = false) (h45 : c = 45 → (rMinus (kd, hg, nu, dg, ng, tk)).1 = false) (h59 : c = 59 → rWhole kd dg tk = false) (hd : 48 ≤ c → c ≤ 57 → (rTakes c (kd, hg, nu, dg, ng, tk)).1 = false) : (rTakes c (kd, hg, nu, dg, ng, tk)).1 = false := by
  by_cases e1 : c = 42
  · subst e1; rw [rT_star hk]; exact h42 rfl
  · by_cases e2 : c = 45
    · subst e2; rw [rT_minus hk]; exact h45 rfl
    · by_cases e3 : c = 59
      · subst e3; exact semi_n hk (h59 rfl)
      · by_cases e4 : 48 ≤ c ∧ c ≤ 57
        · exact hd e4.1 e4.2
        · rw [rT_no hk e1 e2 e3 e4]
theorem kind_y {c : Nat} (h : c = 99 ∨ c = 97 ∨ c = 98 ∨ c = 120 ∨ c = 110) : rTakes c (0, 0, 0, 0, false, false) = (true, (c, 0, 0, 0, false, false)) := by
  rcases h with rfl | rfl | rfl | rfl | rfl <;> decide
theorem star_n {kd hg nu dg : Nat} {ng tk : Bool} (h : ¬ kd = 99 ∨ tk = true ∨ nu < 50) : (rStar (kd, hg, nu, dg, ng, tk)).1 = false := by rw [rStar_n h]
theorem minus_n {kd hg nu dg : Nat} {ng tk : Bool} (h : (¬ kd = 97 ∧ ¬ kd = 98) ∨ ng = true ∨ 0 < dg) : (rMinus (kd, hg, nu, dg, ng, tk)).1 = false := by rw [rMinus_n h]
end TEXT
