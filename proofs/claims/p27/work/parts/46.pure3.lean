/-! would scan -/
section WS
variable {o h t s g : Nat → Int32} {n j : Nat}
theorem wX {z : Int} (hj : j < 2) : sX s j (iI z) = upd s j (iI z) 0 ∧ sY s j (iI z) = upd s j (iI z) 1 := by
  unfold sX sY upd
  rcases (show j = 0 ∨ j = 1 by omega) with rfl | rfl <;> exact ⟨rfl, rfl⟩
theorem wAll {z : Int} (hz : -30 ≤ z ∧ z ≤ 30) (hj : j < 2) (hn : n ≤ 6) (h0 : sOk (s 0)) (h1 : sOk (s 1)) (hg0 : 50 ≤ (g 0).toInt ∧ (g 0).toInt ≤ 1000) (hg3 : 0 ≤ (g 3).toInt ∧ (g 3).toInt ≤ 100) :
    (sWith (mLit o) h t s g n j false z = decide (¬ mRd s g j z = -99999 ∧ ¬ mMl o h t s g n j z = -99999)) ∧
    (sWith (mLit o) h t s g n j true z = true → sWith (mLit o) h t s g n j false z = true) ∧
    (sWith (mLit o) h t s g n j false z = true → mRn h n (mRd s g j z) (mMl o h t s g n j z) 3 = bI (sWith (mLit o) h t s g n j true z = true)) := by
  obtain ⟨e0, e1⟩ := wX (s := s) (z := z) hj
  have r := rl_mc (o := o) (h := h) (t := t) (s := upd s j (iI z)) (g := g) hn (sOk_upd h0 (sOk_i hz)) (sOk_upd h1 (sOk_i hz)) hg0 hg3
  unfold mRd mMl
  unfold sWith
  rw [e0, e1]
  rcases r with ⟨a1, a2⟩ | ⟨p, hp, a1, a2, a3⟩
  · rw [decide_eq_false (fun q => q a1), Bool.false_and, Bool.false_and]
    refine ⟨?_, fun q => q, fun q => by cases q⟩
    rw [decide_eq_false]
    rintro ⟨q1, q2⟩
    exact a2.elim q1 q2
  · have hm : ¬ sRl (mLit o) h t g n (upd s j (iI z) 0) (upd s j (iI z) 1) = -1 := by rw [a1]; exact nI_ne_m1 (by omega)
    rw [decide_eq_true hm]
    refine ⟨?_, fun _ => rfl, fun _ => ?_⟩
    · rw [decide_eq_true (show _ ∧ _ from ⟨a2, by rw [a3]; exact nI_ne_none (by omega)⟩)]; rfl
    · rw [mRn_y a2 a3 (by omega), mNear_s, a1, nI_clamp (by omega)]
      rfl
theorem ws_cnt {is b : Nat → Bool} {f3 : Nat → Int32} : ∀ m, (∀ k, k < m → b k = true → is k = true) → (∀ k, k < m → is k = true → f3 k = bI (b k = true)) → (mWs is f3 m).1 = sCnt is m ∧ (mWs is f3 m).2.1 = nI (sCnt b m)
  | 0, _, _ => ⟨rfl, rfl⟩
  | m + 1, h1, h2 => by
    obtain ⟨i1, i2⟩ := ws_cnt m (fun k hk => h1 k (by omega)) (fun k hk => h2 k (by omega))
    by_cases c : is m = true
    · rw [mWs_y c, sCnt_y c]
      refine ⟨by rw [i1], ?_⟩
      show (mWs is f3 m).2.1 + f3 m = _
      rw [i2, h2 m (by omega) c]
      by_cases d : b m = true
      · rw [sCnt_y d, ← bI_t d]; exact nI_add _ 1
      · rw [sCnt_n d, ← bI_f d, Int32.add_zero]
    · rw [mWs_n c, sCnt_n c]
      refine ⟨i1, ?_⟩
      rw [i2, sCnt_n (fun q => c (h1 m (by omega) q))]
theorem sAnyL_no {b : Nat → Bool} : ∀ {k : Nat}, (∀ i, i < k → ¬ b i = true) → sAnyL b k = false
  | 0, _ => rfl
  | k + 1, h => sAnyL_s (sAnyL_no (fun i hi => h i (by omega))) (h k (by omega))
theorem ws_fl {is : Nat → Bool} {f3 : Nat → Int32} : ∀ m, m ≤ 61 → ((∀ i, i < m → ¬ is i = true) ∧ (mWs is f3 m).2.2.1 = -99999 ∧ (mWs is f3 m).2.2.2 = -99999) ∨
    ∃ a b, a < m ∧ b < m ∧ is a = true ∧ is b = true ∧ (∀ i, i < a → ¬ is i = true) ∧ (∀ i, b < i → i < m → ¬ is i = true) ∧ (mWs is f3 m).2.2.1 = iI (-30 + (a : Int)) + 100 ∧ (mWs is f3 m).2.2.2 = iI (-30 + (b : Int)) + 100
  | 0, _ => Or.inl ⟨fun i hi => absurd hi (Nat.not_lt_zero i), rfl, rfl⟩
  | m + 1, hm => by
    rcases ws_fl (is := is) (f3 := f3) m (by omega) with ⟨h1, h2, h3⟩ | ⟨a, b, ha, hb, h1, h2, h3, h4, h5, h6⟩
    · by_cases c : is m = true
      · rw [mWs_y c]
        refine Or.inr ⟨m, m, Nat.lt_succ_self m, Nat.lt_succ_self m, c, c, h1, fun i h1 h2 => by omega, ?_, rfl⟩
        show (if (mWs is f3 m).2.2.1 = -99999 then _ else _) = _
        rw [if_pos h2]
      · rw [mWs_n c]
        refine Or.inl ⟨fun i hi => ?_, h2, h3⟩
        by_cases e : i = m
        · rw [e]; exact c
        · exact h1 i (by omega)
    · by_cases c : is m = true
      · rw [mWs_y c]
        refine Or.inr ⟨a, m, by omega, Nat.lt_succ_self m, h1, c, h3, fun i q1 q2 => by omega, ?_, rfl⟩
        show (if (mWs is f3 m).2.2.1 = -99999 then _ else (mWs is f3 m).2.2.1) = _
        rw [if_neg, h5]
        rw [h5]
        intro e
        have := congrArg Int32.toInt e
        rw [show iI (-30 + (a : Int)) + 100 = iI (-30 + (a : Int) + 100) from iI_add _ 100, iI_toInt (by omega), show (-99999 : Int32).toInt = -99999 by decide +kernel] at this
        omega
      · rw [mWs_n c]
        refine Or.inr ⟨a, b, by omega, by omega, h1, h2, h3, fun i q1 q2 => ?_, h5, h6⟩
        by_cases e : i = m
        · rw [e]; exact c
        · exact h4 i q1 (by omega)
/-- ifScanned: the class's answers are the reference's -/
theorem ws_all {w : Nat} (hw : w ≤ 3) (hj : j < 2) (hn : n ≤ 6) (h0 : sOk (s 0)) (h1 : sOk (s 1)) (hg0 : 50 ≤ (g 0).toInt ∧ (g 0).toInt ≤ 1000) (hg3 : 0 ≤ (g 3).toInt ∧ (g 3).toInt ≤ 100) :
    (if w < 2 then nI (sCnt (fun k => sWith (mLit o) h t s g n j (decide (w = 1)) (-30 + (k : Int))) 61) else sOut (mLit o) h t s g n j (decide (w = 3))) = mWv (mWs (mIs o h t s g n j) (mF3 o h t s g n j) 61) w := by
  have A : ∀ k : Nat, k < 61 → _ := fun k hk => wAll (o := o) (h := h) (t := t) (s := s) (g := g) (n := n) (j := j) (z := -30 + (k : Int)) (by omega) hj hn h0 h1 hg0 hg3
  have hi : ∀ k : Nat, k < 61 → sWith (mLit o) h t s g n j false (-30 + (k : Int)) = mIs o h t s g n j k := fun k hk => (A k hk).1
  have cn := ws_cnt (is := mIs o h t s g n j) (b := fun k => sWith (mLit o) h t s g n j true (-30 + (k : Int))) (f3 := mF3 o h t s g n j) 61
    (fun k hk q => by rw [← hi k hk]; exact (A k hk).2.1 q) (fun k hk q => (A k hk).2.2 (by rw [hi k hk]; exact q))
  have fl := ws_fl (is := mIs o h t s g n j) (f3 := mF3 o h t s g n j) 61 (Nat.le_refl _)
  have cng : ∀ (b c : Nat → Bool) (m : Nat), (∀ k, k < m → b k = c k) → sCnt b m = sCnt c m := by
    intro b c m
    induction m with
    | zero => intro _; rfl
    | succ m ih =>
      intro q
      show sCnt b m + (if b m = true then 1 else 0) = sCnt c m + (if c m = true then 1 else 0)
      rw [ih (fun k hk => q k (by omega)), q m (by omega)]
  generalize mWs (mIs o h t s g n j) (mF3 o h t s g n j) 61 = Z at cn fl ⊢
  rcases (show w = 0 ∨ w = 1 ∨ w = 2 ∨ w = 3 by omega) with rfl | rfl | rfl | rfl
  · rw [if_pos (by decide), mWv, if_pos rfl, show (decide ((0 : Nat) = 1)) = false from rfl, cn.1, cng _ _ 61 (fun k hk => hi k hk)]
  · rw [if_pos (by decide), mWv, if_neg (by decide), if_pos rfl, show (decide ((1 : Nat) = 1)) = true from rfl, cn.2]
  · rw [if_neg (by decide), mWv, if_neg (by decide), if_neg (by decide), if_pos rfl, show (decide ((2 : Nat) = 3)) = false from rfl]
    unfold sOut
    have sl : ∀ k, sSl false k = -30 + (k : Int) := fun k => rfl
    rcases fl with ⟨a1, a2, -⟩ | ⟨a, b, ha, -, a1, -, a3, -, a5, -⟩
    · rw [sFst_no (sAnyL_no (fun i hi2 q => a1 i hi2 (by rw [← hi i hi2]; exact q))), if_neg (by decide), a2]
    · rw [sFst_at (k := a) (sAnyL_no (fun i hi2 q => a3 i hi2 (by rw [← hi i (by omega)]; exact q))) ha (by show sWith _ _ _ _ _ _ _ _ (sSl false a) = true; rw [sl, hi a ha]; exact a1), if_pos ha, sl, a5]
  · rw [if_neg (by decide), mWv, if_neg (by decide), if_neg (by decide), if_neg (by decide), show (decide ((3 : Nat) = 3)) = true from rfl]
    unfold sOut
    have sl : ∀ k, k < 61 → sSl true k = -30 + ((60 - k : Nat) : Int) := fun k hk => by show -(-30 + (k : Int)) = _; omega
    rcases fl with ⟨a1, -, a2⟩ | ⟨a, b, -, hb, -, a2, -, a4, -, a6⟩
    · rw [sFst_no (sAnyL_no (fun i hi2 q => a1 (60 - i) (by omega) (by rw [← hi (60 - i) (by omega), ← sl i hi2]; exact q))), if_neg (by decide), a2]
    · have e60 : 60 - (60 - b) = b := by omega
      rw [sFst_at (k := 60 - b) (sAnyL_no (fun i hi2 q => a4 (60 - i) (by omega) (by omega) (by rw [← hi (60 - i) (by omega), ← sl i (by omega)]; exact q))) (by omega) (by show sWith _ _ _ _ _ _ _ _ (sSl true (60 - b)) = true; rw [sl _ (by omega), e60, hi b hb]; exact a2), if_pos (by omega), sl _ (by omega), e60, a6]
end WS
