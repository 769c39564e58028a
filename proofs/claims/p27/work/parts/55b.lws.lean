/-! scans told from 30 down to -30 -/
def lWs (is : Nat → Bool) (f3 : Nat → Int32) : Nat → Nat × Int32 × Int32 × Int32
  | 0 => (0, 0, -99999, -99999)
  | i + 1 => if is (60 - i) = true then ((lWs is f3 i).1 + 1, (lWs is f3 i).2.1 + f3 (60 - i), iI (30 - (i : Int)) + 100, (if (lWs is f3 i).2.2.2 < 0 then iI (30 - (i : Int)) + 100 else (lWs is f3 i).2.2.2)) else lWs is f3 i
section LWS
variable {is : Nat → Bool} {f3 : Nat → Int32} {i : Nat}
theorem lWs_y (c : is (60 - i) = true) : lWs is f3 (i + 1) = ((lWs is f3 i).1 + 1, (lWs is f3 i).2.1 + f3 (60 - i), iI (30 - (i : Int)) + 100, (if (lWs is f3 i).2.2.2 < 0 then iI (30 - (i : Int)) + 100 else (lWs is f3 i).2.2.2)) := if_pos c
theorem lWs_n (c : ¬ is (60 - i) = true) : lWs is f3 (i + 1) = lWs is f3 i := if_neg c
theorem lWs_le : ∀ k, (lWs is f3 k).1 ≤ k
  | 0 => Nat.le_refl 0
  | k + 1 => by
    have := lWs_le k
    unfold lWs
    split
    · exact Nat.succ_le_succ this
    · exact Nat.le_succ_of_le this
end LWS
def sumN (f : Nat → Nat) : Nat → Nat
  | 0 => 0
  | k + 1 => sumN f k + f k
def sumI (f : Nat → Int32) : Nat → Int32
  | 0 => 0
  | k + 1 => sumI f k + f k
theorem sumN_c {f g : Nat → Nat} : ∀ {n : Nat}, (∀ k, k < n → f k = g k) → sumN f n = sumN g n
  | 0, _ => rfl
  | n + 1, H => by unfold sumN; rw [sumN_c (fun k hk => H k (by omega)), H n (by omega)]
theorem sumI_c {f g : Nat → Int32} : ∀ {n : Nat}, (∀ k, k < n → f k = g k) → sumI f n = sumI g n
  | 0, _ => rfl
  | n + 1, H => by unfold sumI; rw [sumI_c (fun k hk => H k (by omega)), H n (by omega)]
theorem sumN_0 (f : Nat → Nat) : ∀ n, sumN f (n + 1) = f 0 + sumN (fun k => f (k + 1)) n
  | 0 => by show 0 + f 0 = f 0 + 0; omega
  | n + 1 => by
    show sumN f (n + 1) + f (n + 1) = f 0 + (sumN (fun k => f (k + 1)) n + f (n + 1))
    rw [sumN_0 f n]; omega
theorem sumI_0 (f : Nat → Int32) : ∀ n, sumI f (n + 1) = f 0 + sumI (fun k => f (k + 1)) n
  | 0 => by show (0 : Int32) + f 0 = f 0 + 0; rw [Int32.zero_add, Int32.add_zero]
  | n + 1 => by
    show sumI f (n + 1) + f (n + 1) = f 0 + (sumI (fun k => f (k + 1)) n + f (n + 1))
    rw [sumI_0 f n, Int32.add_assoc]
theorem sumN_rev (f : Nat → Nat) : ∀ n, sumN (fun k => f (n - 1 - k)) n = sumN f n
  | 0 => rfl
  | n + 1 => by
    rw [sumN_0]
    have : sumN (fun k => f (n + 1 - 1 - (k + 1))) n = sumN f n := by
      rw [← sumN_rev f n]
      exact sumN_c (fun k hk => by rw [show n + 1 - 1 - (k + 1) = n - 1 - k by omega])
    rw [this]
    show f (n + 1 - 1 - 0) + sumN f n = sumN f n + f n
    rw [show n + 1 - 1 - 0 = n by omega, Nat.add_comm]
theorem sumI_rev (f : Nat → Int32) : ∀ n, sumI (fun k => f (n - 1 - k)) n = sumI f n
  | 0 => rfl
  | n + 1 => by
    rw [sumI_0]
    have : sumI (fun k => f (n + 1 - 1 - (k + 1))) n = sumI f n := by
      rw [← sumI_rev f n]
      exact sumI_c (fun k hk => by rw [show n + 1 - 1 - (k + 1) = n - 1 - k by omega])
    rw [this]
    show f (n + 1 - 1 - 0) + sumI f n = sumI f n + f n
    rw [show n + 1 - 1 - 0 = n by omega, Int32.add_comm]
section LWS2
variable {is : Nat → Bool} {f3 : Nat → Int32}
theorem mWs_sum : ∀ m, (mWs is f3 m).1 = sumN (fun k => if is k = true then 1 else 0) m ∧ (mWs is f3 m).2.1 = sumI (fun k => if is k = true then f3 k else 0) m
  | 0 => ⟨rfl, rfl⟩
  | m + 1 => by
    obtain ⟨a, b⟩ := mWs_sum m
    unfold sumN sumI
    by_cases c : is m = true
    · rw [mWs_y c, ← a, ← b, if_pos c, if_pos c]
      exact ⟨rfl, rfl⟩
    · rw [mWs_n c, ← a, ← b, if_neg c, if_neg c, Int32.add_zero]
      exact ⟨rfl, rfl⟩
theorem lWs_sum : ∀ m, (lWs is f3 m).1 = sumN (fun k => if is (60 - k) = true then 1 else 0) m ∧ (lWs is f3 m).2.1 = sumI (fun k => if is (60 - k) = true then f3 (60 - k) else 0) m
  | 0 => ⟨rfl, rfl⟩
  | m + 1 => by
    obtain ⟨a, b⟩ := lWs_sum m
    unfold sumN sumI
    by_cases c : is (60 - m) = true
    · rw [lWs_y c, ← a, ← b, if_pos c, if_pos c]
      exact ⟨rfl, rfl⟩
    · rw [lWs_n c, ← a, ← b, if_neg c, if_neg c, Int32.add_zero]
      exact ⟨rfl, rfl⟩
theorem i100 {z : Int} (h : -30 ≤ z ∧ z ≤ 30) : ¬ iI z + 100 < 0 := by
  rw [show iI z + 100 = iI (z + 100) from iI_add _ 100]
  exact fun q => absurd ((iI_lt (a := z + 100) (b := 0) (by omega) (by omega)).mp q) (by omega)
theorem lWs_fl : ∀ m, m ≤ 61 → ((∀ i, 61 - m ≤ i → i < 61 → ¬ is i = true) ∧ (lWs is f3 m).2.2.1 = -99999 ∧ (lWs is f3 m).2.2.2 = -99999) ∨
    ∃ a b, 61 - m ≤ a ∧ a < 61 ∧ b < 61 ∧ is a = true ∧ is b = true ∧ (∀ i, 61 - m ≤ i → i < a → ¬ is i = true) ∧ (∀ i, b < i → i < 61 → ¬ is i = true) ∧ (lWs is f3 m).2.2.1 = iI (-30 + (a : Int)) + 100 ∧ (lWs is f3 m).2.2.2 = iI (-30 + (b : Int)) + 100
  | 0, _ => Or.inl ⟨fun i h1 h2 => absurd h2 (by omega), rfl, rfl⟩
  | m + 1, hm => by
    have ez : 30 - (m : Int) = -30 + ((60 - m : Nat) : Int) := by omega
    rcases lWs_fl m (by omega) with ⟨h1, h2, h3⟩ | ⟨a, b, ha0, ha, hb, h1, h2, h3, h4, h5, h6⟩
    · by_cases c : is (60 - m) = true
      · rw [lWs_y c]
        refine Or.inr ⟨60 - m, 60 - m, by omega, by omega, by omega, c, c, fun i q1 q2 => by omega, fun i q1 q2 => h1 i (by omega) q2, by rw [ez], ?_⟩
        show (if (lWs is f3 m).2.2.2 < 0 then _ else _) = _
        rw [h3, if_pos (by decide), ez]
      · rw [lWs_n c]
        refine Or.inl ⟨fun i q1 q2 => ?_, h2, h3⟩
        by_cases e : i = 60 - m
        · rw [e]; exact c
        · exact h1 i (by omega) q2
    · by_cases c : is (60 - m) = true
      · rw [lWs_y c]
        refine Or.inr ⟨60 - m, b, by omega, by omega, hb, c, h2, fun i q1 q2 => by omega, h4, by rw [ez], ?_⟩
        show (if (lWs is f3 m).2.2.2 < 0 then _ else (lWs is f3 m).2.2.2) = _
        rw [h6, if_neg (i100 (by omega))]
      · rw [lWs_n c]
        refine Or.inr ⟨a, b, by omega, ha, hb, h1, h2, fun i q1 q2 => ?_, h4, h5, h6⟩
        by_cases e : i = 60 - m
        · rw [e]; exact c
        · exact h3 i (by omega) q2
theorem lWs_mWs : lWs is f3 61 = mWs is f3 61 := by
  obtain ⟨a1, a2⟩ := lWs_sum (is := is) (f3 := f3) 61
  obtain ⟨b1, b2⟩ := mWs_sum (is := is) (f3 := f3) 61
  have r1 := sumN_rev (fun k => if is k = true then 1 else 0) 61
  have r2 := sumI_rev (fun k => if is k = true then f3 k else 0) 61
  have e1 : (lWs is f3 61).1 = (mWs is f3 61).1 := by rw [a1, b1]; exact r1
  have e2 : (lWs is f3 61).2.1 = (mWs is f3 61).2.1 := by rw [a2, b2]; exact r2
  have e34 : (lWs is f3 61).2.2.1 = (mWs is f3 61).2.2.1 ∧ (lWs is f3 61).2.2.2 = (mWs is f3 61).2.2.2 := by
    rcases lWs_fl (is := is) (f3 := f3) 61 (Nat.le_refl _) with ⟨h1, h2, h3⟩ | ⟨a, b, ha0, ha, hb, h1, h2, h3, h4, h5, h6⟩
    · rcases ws_fl (is := is) (f3 := f3) 61 (Nat.le_refl _) with ⟨g1, g2, g3⟩ | ⟨a', b', ga, gb, g1, g2, g3, g4, g5, g6⟩
      · exact ⟨by rw [h2, g2], by rw [h3, g3]⟩
      · exact absurd g1 (h1 a' (by omega) ga)
    · rcases ws_fl (is := is) (f3 := f3) 61 (Nat.le_refl _) with ⟨g1, g2, g3⟩ | ⟨a', b', ga, gb, g1, g2, g3, g4, g5, g6⟩
      · exact absurd h1 (g1 a ha)
      · have ea : a = a' := by
          rcases Nat.lt_trichotomy a a' with l | l | l
          · exact absurd h1 (g3 a l)
          · exact l
          · exact absurd g1 (h3 a' (by omega) l)
        have eb : b = b' := by
          rcases Nat.lt_trichotomy b b' with l | l | l
          · exact absurd g2 (h4 b' l gb)
          · exact l
          · exact absurd h2 (g4 b l hb)
        exact ⟨by rw [h5, g5, ea], by rw [h6, g6, eb]⟩
  refine Prod.ext e1 (Prod.ext e2 (Prod.ext e34.1 e34.2))
end LWS2
theorem lIs_m {o h t s g : Nat → Int32} {n j i : Nat} (hi : i ≤ 60) : lIs (sMeet g (upd s j (iI (30 - (i : Int))) 0) (upd s j (iI (30 - (i : Int))) 1)) (mC (sClose (mLit o) h t (upd s j (iI (30 - (i : Int)))) g) (mD h (upd s j (iI (30 - (i : Int)))) g) n) ↔ mIs o h t s g n j (60 - i) = true := by
  have ez : -30 + ((60 - i : Nat) : Int) = 30 - (i : Int) := by omega
  unfold mIs mRd mMl
  rw [ez]
  constructor
  · intro q
    exact decide_eq_true ⟨fun z => q (Or.inl z), fun z => q (Or.inr z)⟩
  · intro q z
    have := of_decide_eq_true q
    exact z.elim this.1 this.2
theorem lF3_m {o h t s g : Nat → Int32} {n j i : Nat} (hi : i ≤ 60) : mRn h n (sMeet g (upd s j (iI (30 - (i : Int))) 0) (upd s j (iI (30 - (i : Int))) 1)) (mC (sClose (mLit o) h t (upd s j (iI (30 - (i : Int)))) g) (mD h (upd s j (iI (30 - (i : Int)))) g) n) 3 = mF3 o h t s g n j (60 - i) := by
  have ez : -30 + ((60 - i : Nat) : Int) = 30 - (i : Int) := by omega
  unfold mF3 mRd mMl
  rw [ez]
/-- the row r after i slopes from 30 down were tried -/
def lRr (o h t s g : Nat → Int32) (n j : Nat) (r : Nat → Int32) : Nat → (Nat → Int32)
  | 0 => r
  | i + 1 =>
    upd (upd (upd (upd (lRr o h t s g n j r i)
      0 (mRn h n (sMeet g (upd s j (iI (30 - (i : Int))) 0) (upd s j (iI (30 - (i : Int))) 1)) (mC (sClose (mLit o) h t (upd s j (iI (30 - (i : Int)))) g) (mD h (upd s j (iI (30 - (i : Int)))) g) n) 0))
      1 (mRn h n (sMeet g (upd s j (iI (30 - (i : Int))) 0) (upd s j (iI (30 - (i : Int))) 1)) (mC (sClose (mLit o) h t (upd s j (iI (30 - (i : Int)))) g) (mD h (upd s j (iI (30 - (i : Int)))) g) n) 1))
      2 (mRn h n (sMeet g (upd s j (iI (30 - (i : Int))) 0) (upd s j (iI (30 - (i : Int))) 1)) (mC (sClose (mLit o) h t (upd s j (iI (30 - (i : Int)))) g) (mD h (upd s j (iI (30 - (i : Int)))) g) n) 2))
      3 (mRn h n (sMeet g (upd s j (iI (30 - (i : Int))) 0) (upd s j (iI (30 - (i : Int))) 1)) (mC (sClose (mLit o) h t (upd s j (iI (30 - (i : Int)))) g) (mD h (upd s j (iI (30 - (i : Int)))) g) n) 3)
theorem rout_at {r h : Nat → Int32} {n k : Nat} {rd ml : Int32} (hk : k < 4) : upd (upd (upd (upd r 0 (mRn h n rd ml 0)) 1 (mRn h n rd ml 1)) 2 (mRn h n rd ml 2)) 3 (mRn h n rd ml 3) k = mRn h n rd ml k := by
  rcases (show k = 0 ∨ k = 1 ∨ k = 2 ∨ k = 3 by omega) with rfl | rfl | rfl | rfl <;> rfl
theorem mTc_g {sm ln n : Nat} {o h t s g : Nat → Int32} {kn : Nat} {lo lf : Int32} {k : Nat} (hk : k < 4) : mTc sm ln n o h t s g kn lo lf (13 + k) = g k := by
  rcases (show k = 0 ∨ k = 1 ∨ k = 2 ∨ k = 3 by omega) with rfl | rfl | rfl | rfl <;> rfl
/-- the greatest haze with which as many spots are seen as without -/
def lHz (o h t g : Nat → Int32) (n : Nat) : Nat := mHz (fun k => mSpots o h t g (nI k) n) (mSpots o h t g 0 n) 1000
theorem mWv0 (q : Nat × Int32 × Int32 × Int32) : mWv q 0 = nI q.1 := rfl
theorem mWv1 (q : Nat × Int32 × Int32 × Int32) : mWv q 1 = q.2.1 := rfl
theorem mWv2 (q : Nat × Int32 × Int32 × Int32) : mWv q 2 = q.2.2.1 := rfl
theorem mWv3 (q : Nat × Int32 × Int32 × Int32) : mWv q 3 = q.2.2.2 := rfl
/-- what ifScanned tells -/
def sIf (lit : Int32) (h t s g : Nat → Int32) (n j w : Nat) : Int32 := if w < 2 then nI (sCnt (fun k => sWith lit h t s g n j (decide (w = 1)) (-30 + (k : Int))) 61) else sOut lit h t s g n j (decide (w = 3))
/-- another writing of the number on top -/
theorem k_sti {X : kX} {nL ce sl pc : Nat} {w : va_W} {fr : List (Nat × Value)} {st : List Value} {a b : Int32} (h : a = b) (g : kG X nL ce sl w pc fr (.int b :: st)) : kG X nL ce sl w pc fr (.int a :: st) := by rw [h]; exact g
