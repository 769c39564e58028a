/-! the slope by computing is the slope by trying -/
theorem td10 (x : Int) : (0 ≤ x → x.tdiv 10 = x / 10) ∧ (x ≤ 0 → x.tdiv 10 = -((-x) / 10)) := by
  refine ⟨fun h => Int.tdiv_eq_ediv_of_nonneg h, fun h => ?_⟩
  have := Int.neg_tdiv (a := -x) (b := 10)
  rw [Int.neg_neg] at this
  rw [this, Int.tdiv_eq_ediv_of_nonneg (by omega)]
theorem td10_lt {a b : Int} (h : a + 20 ≤ b) : a.tdiv 10 < b.tdiv 10 := by
  obtain ⟨a1, a2⟩ := td10 a
  obtain ⟨b1, b2⟩ := td10 b
  rcases Int.le_total 0 a with ha | ha
  · rw [a1 ha, b1 (by omega)]; omega
  · rcases Int.le_total 0 b with hb | hb
    · rw [a2 ha, b1 hb]; omega
    · rw [a2 ha, b2 hb]; omega
theorem td10_le {a b : Int} (h : a ≤ b) : a.tdiv 10 ≤ b.tdiv 10 := by
  obtain ⟨a1, a2⟩ := td10 a
  obtain ⟨b1, b2⟩ := td10 b
  rcases Int.le_total 0 a with ha | ha
  · rw [a1 ha, b1 (by omega)]; omega
  · rcases Int.le_total 0 b with hb | hb
    · rw [a2 ha, b1 hb]; omega
    · rw [a2 ha, b2 hb]; omega
theorem td10_m (w : Int) : (10 * w).tdiv 10 = w := by
  obtain ⟨a1, a2⟩ := td10 (10 * w)
  rcases Int.le_total 0 (10 * w) with ha | ha
  · rw [a1 ha]; omega
  · rw [a2 ha]; omega
theorem P_lt {H a b : Int} (hH : 50 ≤ H) (h : a < b) : (a * H).tdiv 10 < (b * H).tdiv 10 := by
  refine td10_lt ?_
  obtain ⟨d, rfl⟩ : ∃ d, b = a + 1 + d := ⟨b - a - 1, by omega⟩
  have hd : 0 ≤ d := by omega
  have := Int.mul_nonneg hd (show (0 : Int) ≤ H by omega)
  rw [Int.add_mul, Int.add_mul, Int.one_mul]; omega
theorem P_le {H a b : Int} (hH : 50 ≤ H) (h : a ≤ b) : (a * H).tdiv 10 ≤ (b * H).tdiv 10 := by
  rcases Int.lt_or_eq_of_le h with q | q
  · exact Int.le_of_lt (P_lt hH q)
  · rw [q]; exact Int.le_refl _
theorem P_r {H W : Int} (hH : 50 ≤ H) : (((10 * W).tdiv H - 1) * H).tdiv 10 ≤ W ∧ W ≤ (((10 * W).tdiv H + 1) * H).tdiv 10 := by
  have e := Int.mul_tdiv_add_tmod (10 * W) H
  have b1 : ((10 * W).tmod H) < H := Int.tmod_lt_of_pos _ (by omega)
  have b2 : -H < ((10 * W).tmod H) := Int.lt_tmod_of_pos _ (by omega)
  rw [Int.mul_comm] at e
  constructor
  · have := td10_le (a := ((10 * W).tdiv H - 1) * H) (b := 10 * W) (by rw [Int.sub_mul, Int.one_mul]; omega)
    rw [td10_m] at this; exact this
  · have := td10_le (a := 10 * W) (b := ((10 * W).tdiv H + 1) * H) (by rw [Int.add_mul, Int.one_mul]; omega)
    rw [td10_m] at this; exact this
/-- the first of the least -/
def FM (f : Int → Int32) (u v b : Int) : Prop := u ≤ b ∧ b ≤ v ∧ (∀ z, u ≤ z → z ≤ v → (f b).toInt ≤ (f z).toInt) ∧ (∀ z, u ≤ z → z < b → (f b).toInt < (f z).toInt)
theorem FM_u {f : Int → Int32} {u v b c : Int} (h1 : FM f u v b) (h2 : FM f u v c) : b = c := by
  obtain ⟨a1, a2, a3, a4⟩ := h1
  obtain ⟨b1, b2, b3, b4⟩ := h2
  rcases Int.lt_trichotomy b c with q | q | q
  · have := b4 b a1 q; have := a3 c b1 b2; omega
  · exact q
  · have := a4 c b1 q; have := b3 b a1 a2; omega
theorem sBs_fm (f : Int → Int32) (u : Int) : ∀ k : Nat, FM f u (u + k) (sBs f u k).1 ∧ (sBs f u k).2 = f (sBs f u k).1
  | 0 => by
    refine ⟨⟨Int.le_refl _, by show u ≤ u + ((0 : Nat) : Int); omega, fun z h1 h2 => ?_, fun z h1 h2 => ?_⟩, rfl⟩
    · have : z = u := by omega
      rw [this]; exact Int.le_refl _
    · have h2 : z < u := h2
      omega
  | k + 1 => by
    obtain ⟨⟨a1, a2, a3, a4⟩, e⟩ := sBs_fm f u k
    have ek : ((k + 1 : Nat) : Int) = (k : Int) + 1 := by omega
    by_cases c : f (u + 1 + (k : Int)) < (sBs f u k).2
    · rw [sBs_y c]
      rw [e, Int32.lt_iff_toInt_lt] at c
      refine ⟨⟨by show u ≤ u + 1 + (k : Int); omega, by show u + 1 + (k : Int) ≤ _; omega, fun z h1 h2 => ?_, fun z h1 h2 => ?_⟩, rfl⟩
      · by_cases q : z ≤ u + k
        · have := a3 z h1 q
          show (f (u + 1 + (k : Int))).toInt ≤ _; omega
        · have : z = u + 1 + (k : Int) := by omega
          rw [this]; exact Int.le_refl _
      · have h2 : z < u + 1 + (k : Int) := h2
        have := a3 z h1 (by omega)
        show (f (u + 1 + (k : Int))).toInt < _; omega
    · rw [sBs_n (Int32.not_lt.mp c)]
      rw [e, Int32.lt_iff_toInt_lt] at c
      refine ⟨⟨a1, by omega, fun z h1 h2 => ?_, a4⟩, e⟩
      by_cases q : z ≤ u + k
      · exact a3 z h1 q
      · have : z = u + 1 + (k : Int) := by omega
        rw [this]; omega
theorem sPlace_i {g : Nat → Int32} {j : Nat} {z : Int} {hh : Int32} (hz : -30 ≤ z ∧ z ≤ 30) (hj : j < 2) (hh1 : 50 ≤ hh.toInt ∧ hh.toInt ≤ 3000) (hg : 50 ≤ (g 0).toInt ∧ (g 0).toInt ≤ 1000) :
    (sPlace g (nI j) (iI z) hh).toInt = (if j = 0 then 0 else (g 0).toInt) + (z * hh.toInt).tdiv 10 ∧ -9000 ≤ (z * hh.toInt).tdiv 10 ∧ (z * hh.toInt).tdiv 10 ≤ 9000 := by
  have b1 : z * hh.toInt ≤ 30 * hh.toInt := Int.mul_le_mul_of_nonneg_right (by omega) (by omega)
  have b2 : -30 * hh.toInt ≤ z * hh.toInt := Int.mul_le_mul_of_nonneg_right (by omega) (by omega)
  have c1 := td10_le (a := z * hh.toInt) (b := 90000) (by omega)
  have c2 := td10_le (a := -90000) (b := z * hh.toInt) (by omega)
  rw [show (90000 : Int).tdiv 10 = 9000 by decide] at c1
  rw [show (-90000 : Int).tdiv 10 = -9000 by decide] at c2
  refine ⟨?_, c2, c1⟩
  have e1 : (iI z * hh).toInt = z * hh.toInt := by
    rw [Int32.toInt_mul, iI_toInt (by omega)]
    exact Int.bmod_eq_of_le (by omega) (by omega)
  have e2 : (iI z * hh / 10).toInt = (z * hh.toInt).tdiv 10 := by
    rw [Int32.toInt_div, e1, show (10 : Int32).toInt = 10 by decide +kernel]
    exact Int.bmod_eq_of_le (by omega) (by omega)
  unfold sPlace
  rcases (show j = 0 ∨ j = 1 by omega) with rfl | rfl
  · rw [if_pos (by decide), if_pos rfl, Int32.toInt_add, e2, Int32.toInt_zero]
    exact Int.bmod_eq_of_le (by omega) (by omega)
  · rw [if_neg (by decide), if_neg (by decide), Int32.toInt_add, e2]
    exact Int.bmod_eq_of_le (by omega) (by omega)
theorem mAbs_i {x : Int32} (h : -2147483648 < x.toInt) : (mAbs x).toInt = if 0 ≤ x.toInt then x.toInt else -x.toInt := by
  unfold mAbs
  by_cases c : (0 : Int32) ≤ x
  · rw [if_pos c]
    rw [Int32.le_iff_toInt_le, Int32.toInt_zero] at c
    rw [if_pos c]
  · rw [if_neg c]
    rw [Int32.le_iff_toInt_le, Int32.toInt_zero] at c
    have := Int32.toInt_lt x
    rw [if_neg c, Int32.toInt_sub, Int32.toInt_zero, Int.bmod_eq_of_le (by omega) (by omega)]; omega
theorem sTry_fm (g h s : Nat → Int32) (j p : Nat) : FM (sFar g h s j p) (-30) 30 (sTry g h s j p) := by
  have := (sBs_fm (sFar g h s j p) (-30) 60).1
  exact this
theorem sCmp_try {g h s : Nat → Int32} {j p : Nat} (hj : j < 2) (hh : 50 ≤ (h p).toInt ∧ (h p).toInt ≤ 3000) (hg : 50 ≤ (g 0).toInt ∧ (g 0).toInt ≤ 1000) (hs : sOk (s (1 - j))) : sCmp g h s j p = sTry g h s j p := by
  have hs1 := hs
  unfold sOk at hs1
  obtain ⟨G, eG⟩ : ∃ G, G = sPlace g (nI (1 - j)) (s (1 - j)) (h p) := ⟨_, rfl⟩
  obtain ⟨q1, q2, q3⟩ := sPlace_i (g := g) (j := 1 - j) (z := (s (1 - j)).toInt) (hh := h p) (by omega) (by omega) hh hg
  rw [iI_self, ← eG] at q1
  obtain ⟨W, eW⟩ : ∃ W : Int, W = G.toInt - (if j = 0 then 0 else (g 0).toInt) := ⟨_, rfl⟩
  have hB : 0 ≤ (if j = 0 then 0 else (g 0).toInt) ∧ (if j = 0 then 0 else (g 0).toInt) ≤ 1000 := by split <;> omega
  have hB2 : 0 ≤ (if 1 - j = 0 then 0 else (g 0).toInt) ∧ (if 1 - j = 0 then 0 else (g 0).toInt) ≤ 1000 := by split <;> omega
  have hW : -11000 ≤ W ∧ W ≤ 11000 := by omega
  -- the size at z
  have hf : ∀ z : Int, -30 ≤ z → z ≤ 30 → (sFar g h s j p z).toInt = if 0 ≤ (z * (h p).toInt).tdiv 10 - W then (z * (h p).toInt).tdiv 10 - W else -((z * (h p).toInt).tdiv 10 - W) := by
    intro z z1 z2
    obtain ⟨r1, r2, r3⟩ := sPlace_i (g := g) (j := j) (z := z) (hh := h p) ⟨z1, z2⟩ hj hh hg
    have e : (sPlace g (nI j) (iI z) (h p) - G).toInt = (z * (h p).toInt).tdiv 10 - W := by
      rw [Int32.toInt_sub, r1, eW, Int.bmod_eq_of_le (by omega) (by omega)]; omega
    unfold sFar
    rw [← eG, mAbs_i (by rw [e]; omega), e]
  -- the computed one
  have hr : (sCmpR g h s j p).toInt = (10 * W).tdiv (h p).toInt := by
    obtain ⟨r1, -, -⟩ := sPlace_i (g := g) (j := j) (z := 0) (hh := h p) (by omega) hj hh hg
    rw [Int.zero_mul, show (0 : Int).tdiv 10 = 0 from rfl, Int.add_zero] at r1
    have e : (G - sPlace g (nI j) 0 (h p)).toInt = W := by
      rw [Int32.toInt_sub, show sPlace g (nI j) 0 (h p) = sPlace g (nI j) (iI 0) (h p) from rfl, r1, eW]
      exact Int.bmod_eq_of_le (by omega) (by omega)
    have e2 : (10 * (G - sPlace g (nI j) 0 (h p))).toInt = 10 * W := by
      rw [Int32.toInt_mul, e, show (10 : Int32).toInt = 10 by decide +kernel]
      exact Int.bmod_eq_of_le (by omega) (by omega)
    unfold sCmpR
    rw [← eG, Int32.toInt_div, e2]
    have b1 : (10 * W).tdiv (h p).toInt ≤ 110000 := by
      rcases Int.le_total 0 (10 * W) with c | c
      · have := Int.tdiv_le_self (a := 10 * W) (b := (h p).toInt) c; omega
      · have e3 := Int.neg_tdiv (a := -(10 * W)) (b := (h p).toInt)
        rw [Int.neg_neg] at e3
        have := Int.tdiv_nonneg (a := -(10 * W)) (b := (h p).toInt) (by omega) (by omega)
        omega
    have b2 : -110000 ≤ (10 * W).tdiv (h p).toInt := by
      rcases Int.le_total 0 (10 * W) with c | c
      · have := Int.tdiv_nonneg (a := 10 * W) (b := (h p).toInt) c (by omega); omega
      · have e3 := Int.neg_tdiv (a := -(10 * W)) (b := (h p).toInt)
        rw [Int.neg_neg] at e3
        have := Int.tdiv_le_self (a := -(10 * W)) (b := (h p).toInt) (by omega)
        omega
    exact Int.bmod_eq_of_le (by omega) (by omega)
  obtain ⟨r, er⟩ : ∃ r : Int, r = (10 * W).tdiv (h p).toInt := ⟨_, rfl⟩
  obtain ⟨p1, p2⟩ := P_r (H := (h p).toInt) (W := W) (by omega)
  rw [← er] at p1 p2 hr
  obtain ⟨Q, eQ⟩ : ∃ Q : Int, Q = sClamp (sCmpR g h s j p) := ⟨_, rfl⟩
  have hQ : Q = max (-30) (min 30 r) := by rw [eQ]; unfold sClamp; rw [hr]
  obtain ⟨lo, elo⟩ : ∃ lo : Int, lo = max (-30) (Q - 1) := ⟨_, rfl⟩
  obtain ⟨hi, ehi⟩ : ∃ hi : Int, hi = min 30 (Q + 1) := ⟨_, rfl⟩
  have hc := (sBs_fm (sFar g h s j p) lo (hi - lo).toNat).1
  have e0 : sCmp g h s j p = (sBs (sFar g h s j p) lo (hi - lo).toNat).1 := by unfold sCmp; rw [← eQ, ← elo, ← ehi]
  rw [← e0] at hc
  have eh : lo + ((hi - lo).toNat : Int) = hi := by omega
  rw [eh] at hc
  obtain ⟨c1, c2, c3, c4⟩ := hc
  have below : ∀ z, -30 ≤ z → z < lo → (sFar g h s j p lo).toInt < (sFar g h s j p z).toInt := by
    intro z z1 z2
    have k1 : lo = Q - 1 := by omega
    have k2 : lo ≤ r - 1 := by omega
    have m1 := P_lt (H := (h p).toInt) (by omega) z2
    have m2 := P_le (H := (h p).toInt) (by omega) k2
    rw [hf z z1 (by omega), hf lo (by omega) (by omega)]
    split <;> split <;> omega
  have above : ∀ z, hi < z → z ≤ 30 → (sFar g h s j p hi).toInt < (sFar g h s j p z).toInt := by
    intro z z1 z2
    have k2 : r + 1 ≤ hi := by omega
    have m1 := P_lt (H := (h p).toInt) (by omega) z1
    have m2 := P_le (H := (h p).toInt) (by omega) k2
    rw [hf z (by omega) z2, hf hi (by omega) (by omega)]
    split <;> split <;> omega
  refine FM_u (f := sFar g h s j p) (u := -30) (v := 30) ⟨by omega, by omega, fun z h1 h2 => ?_, fun z h1 h2 => ?_⟩ (sTry_fm g h s j p)
  · rcases Int.lt_or_le z lo with q | q
    · have := below z h1 q; have := c3 lo (by omega) (by omega); omega
    · rcases Int.lt_or_le hi z with q2 | q2
      · have := above z q2 h2; have := c3 hi (by omega) (by omega); omega
      · exact c3 z q q2
  · rcases Int.lt_or_le z lo with q | q
    · have := below z h1 q; have := c3 lo (by omega) (by omega); omega
    · exact c4 z q h2
