theorem mMax30 {b : Int} (hb : -100000 ≤ b ∧ b ≤ 100000) : mMax (-30) (iI b) = iI (max (-30) b) := by
  rw [show (-30 : Int32) = iI (-30) by decide +kernel]
  exact mMax_i (by omega) hb
theorem mMin30 {b : Int} (hb : -100000 ≤ b ∧ b ≤ 100000) : mMin 30 (iI b) = iI (min 30 b) := by
  rw [show (30 : Int32) = iI 30 by decide +kernel]
  exact mMin_i (by omega) hb
