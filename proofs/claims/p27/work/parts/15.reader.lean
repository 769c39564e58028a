/-! the reader of orders: kind, height, number, digits, negative, at the thickness -/
abbrev RT : Type := Nat × Nat × Nat × Nat × Bool × Bool
def rWhole (kd dg : Nat) (tk : Bool) : Bool := if kd = 110 then true else if kd = 99 then tk && decide (0 < dg) else decide (0 < dg)
def rKind (c : Nat) : Bool := decide (c = 99 ∨ c = 97 ∨ c = 98 ∨ c = 120 ∨ c = 110)
def rMost (kd : Nat) (tk : Bool) : Nat := if kd = 99 then (if tk = true then 100 else 3000) else if kd = 120 then 5 else 30
theorem rMost_le (kd : Nat) (tk : Bool) : rMost kd tk ≤ 3000 := by
  unfold rMost
  repeat' split
  all_goals omega
def rSemi (R : RT) : Bool × RT := if rWhole R.1 R.2.2.2.1 R.2.2.2.2.2 = true then (true, (0, 0, 0, 0, false, false)) else (false, R)
def rStar (R : RT) : Bool × RT := if R.1 = 99 ∧ R.2.2.2.2.2 = false ∧ 50 ≤ R.2.2.1 then (true, (R.1, R.2.2.1, 0, 0, R.2.2.2.2.1, true)) else (false, R)
def rMinus (R : RT) : Bool × RT := if (R.1 = 97 ∨ R.1 = 98) ∧ R.2.2.2.2.1 = false ∧ R.2.2.2.1 = 0 then (true, (R.1, R.2.1, R.2.2.1, R.2.2.2.1, true, R.2.2.2.2.2)) else (false, R)
def rDigit (d : Nat) (R : RT) : Bool × RT := if R.1 = 110 ∨ (0 < R.2.2.2.1 ∧ R.2.2.1 = 0) ∨ (R.1 = 99 ∧ R.2.2.2.1 = 0 ∧ d = 0) ∨ rMost R.1 R.2.2.2.2.2 < R.2.2.1 * 10 + d then (false, R) else (true, (R.1, R.2.1, R.2.2.1 * 10 + d, R.2.2.2.1 + 1, R.2.2.2.2.1, R.2.2.2.2.2))
theorem rDigit_n {d kd hg nu dg : Nat} {ng tk : Bool} (h : kd = 110 ∨ (0 < dg ∧ nu = 0) ∨ (kd = 99 ∧ dg = 0 ∧ d = 0) ∨ rMost kd tk < nu * 10 + d) : rDigit d (kd, hg, nu, dg, ng, tk) = (false, (kd, hg, nu, dg, ng, tk)) := if_pos h
theorem rDigit_y {d kd hg nu dg : Nat} {ng tk : Bool} (h : ¬ (kd = 110 ∨ (0 < dg ∧ nu = 0) ∨ (kd = 99 ∧ dg = 0 ∧ d = 0) ∨ rMost kd tk < nu * 10 + d)) : rDigit d (kd, hg, nu, dg, ng, tk) = (true, (kd, hg, nu * 10 + d, dg + 1, ng, tk)) := if_neg h
theorem rStar_n {kd hg nu dg : Nat} {ng tk : Bool} (h : ¬ kd = 99 ∨ tk = true ∨ nu < 50) : rStar (kd, hg, nu, dg, ng, tk) = (false, (kd, hg, nu, dg, ng, tk)) := if_neg (fun q => by
  obtain ⟨q1, q2, q3⟩ := q
  rcases h with h | h | h
  · exact h q1
  · rw [show tk = false from q2] at h; cases h
  · exact absurd q3 (by show ¬ 50 ≤ nu; omega))
theorem rStar_y {kd hg nu dg : Nat} {ng tk : Bool} (h1 : kd = 99) (h2 : ¬ tk = true) (h3 : 50 ≤ nu) : rStar (kd, hg, nu, dg, ng, tk) = (true, (kd, nu, 0, 0, ng, true)) := if_pos ⟨h1, by simpa using h2, h3⟩
theorem rMinus_n {kd hg nu dg : Nat} {ng tk : Bool} (h : (¬ kd = 97 ∧ ¬ kd = 98) ∨ ng = true ∨ 0 < dg) : rMinus (kd, hg, nu, dg, ng, tk) = (false, (kd, hg, nu, dg, ng, tk)) := if_neg (fun q => by
  obtain ⟨q1, q2, q3⟩ := q
  rcases h with h | h | h
  · exact q1.elim h.1 h.2
  · rw [show ng = false from q2] at h; cases h
  · exact absurd q3 (by show ¬ dg = 0; omega))
theorem rMinus_y {kd hg nu dg : Nat} {ng tk : Bool} (h1 : kd = 97 ∨ kd = 98) (h2 : ¬ ng = true) (h3 : dg = 0) : rMinus (kd, hg, nu, dg, ng, tk) = (true, (kd, hg, nu, dg, true, tk)) := if_pos ⟨h1, by simpa using h2, h3⟩
def rTakes (c : Nat) (R : RT) : Bool × RT :=
  if R.1 = 0 then (rKind c, ((if rKind c = true then c else R.1), R.2)) else if c = 42 then rStar R else if c = 45 then rMinus R else if c = 59 then rSemi R
  else if 48 ≤ c ∧ c ≤ 57 then rDigit (c - 48) R else (false, R)
