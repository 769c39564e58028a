/-! the model's further numbers -/
def mD (h s g : Nat → Int32) : Nat → Int32 := fun p => sDist h g p (s 0) (s 1)
def mFnd (h : Nat → Int32) (n : Nat) (rd ml : Int32) (fo : Nat → Int32) : Prop :=
  ((rd = -99999 ∨ ml = -99999) → fo 0 = -99999 ∧ fo 1 = -99999 ∧ fo 2 = -99999 ∧ fo 3 = -99999) ∧
  ∀ p : Nat, p < n → ¬ rd = -99999 → ml = nI p → fo 0 = rd ∧ fo 1 = nI p ∧ fo 2 = rd - h p ∧ fo 3 = bI (sAnyL (mNear h rd p) n = true)
theorem mFnd_n {h : Nat → Int32} {n : Nat} {rd ml : Int32} {fo : Nat → Int32} (hn : n ≤ 6) (e : rd = -99999 ∨ ml = -99999) (f0 : fo 0 = -99999) (f1 : fo 1 = -99999) (f2 : fo 2 = -99999) (f3 : fo 3 = -99999) : mFnd h n rd ml fo :=
  ⟨fun _ => ⟨f0, f1, f2, f3⟩, fun p hp h1 h2 => by
    rcases e with e | e
    · exact absurd e h1
    · rw [h2] at e; exact absurd e (nI_ne_none (by omega))⟩
theorem mFnd_y {h : Nat → Int32} {n p : Nat} {rd ml : Int32} {fo : Nat → Int32} (hn : n ≤ 6) (hp : p < n) (hr : ¬ rd = -99999) (e : ml = nI p) (f0 : fo 0 = rd) (f1 : fo 1 = nI p) (f2 : fo 2 = rd - h p) (f3 : fo 3 = bI (sAnyL (mNear h rd p) n = true)) : mFnd h n rd ml fo :=
  ⟨fun q => by
    rcases q with q | q
    · exact absurd q hr
    · rw [e] at q; exact absurd q (nI_ne_none (by omega)), fun p' hp' _ h2 => by
    rw [e] at h2
    have : p = p' := (nI_eq (by omega) (by omega)).mp h2
    subst this
    exact ⟨f0, f1, f2, f3⟩⟩
theorem mW_t {n k : Nat} {h : Nat → Int32} {x : Int32} (c : n = 6 ∨ sAny h x k = true) : n = 6 ∨ sAny h x (k + 1) = true := c.elim Or.inl (fun z => Or.inr (by unfold sAny; rw [z]; rfl))
theorem mW_y {n k : Nat} {h : Nat → Int32} {x : Int32} (c : h k = x) : n = 6 ∨ sAny h x (k + 1) = true := Or.inr (by unfold sAny; rw [decide_eq_true c]; simp)
theorem mW_f {n k : Nat} {h : Nat → Int32} {x : Int32} (c : ¬ (n = 6 ∨ sAny h x k = true)) (d : ¬ h k = x) : ¬ (n = 6 ∨ sAny h x (k + 1) = true) := fun q => by
  rcases q with q | q
  · exact c (Or.inl q)
  · unfold sAny at q
    rw [decide_eq_false d, Bool.or_false] at q
    exact c (Or.inr q)
theorem sDn_k {f : Nat → Int32} {p k : Nat} (hp : p ≤ k) : upd (sDn f p (k + 1)) k (f (k + 1)) = sDn f p (k + 1 + 1) := sDn_s (i := k + 1) (by omega)
def mShN (nm : Nat → Int32) (k : Nat) : Nat → Int32 := fun i => if k < i ∧ i ≤ 31 then nm (i - 4) else nm i
theorem mShN_0 (nm : Nat → Int32) : mShN nm 31 = nm := by funext i; unfold mShN; rw [if_neg (by omega)]
theorem mShN_at {nm : Nat → Int32} {k : Nat} (h : 4 ≤ k) : mShN nm k (k - 4) = nm (k - 4) := by unfold mShN; rw [if_neg (by omega)]
theorem mShN_s {nm : Nat → Int32} {k : Nat} (h : 4 ≤ k) (h2 : k ≤ 31) : upd (mShN nm k) k (nm (k - 4)) = mShN nm (k - 1) := by
  funext i
  unfold upd mShN
  by_cases e : i = k
  · rw [if_pos e, if_pos (by omega), e]
  · rw [if_neg e]
    by_cases l : k < i ∧ i ≤ 31
    · rw [if_pos l, if_pos (by omega)]
    · rw [if_neg l, if_neg (by omega)]
theorem mShN_3 (nm : Nat → Int32) : mShN nm 3 = va_cpy nm nm 0 4 28 := by
  funext i
  unfold mShN va_cpy
  by_cases l : 3 < i ∧ i ≤ 31
  · rw [if_pos l, if_pos (by omega), Nat.zero_add]
  · rw [if_neg l, if_neg (by omega)]
/-- what the model writes down as a night -/
def mLg (h : Nat → Int32) (n : Nat) (rd ml : Int32) : Int32 × Int32 × Int32 × Bool := if rd = -99999 ∨ ml = -99999 then (-99999, -99999, -99999, false) else (rd, h ml.toNatClampNeg, rd - h ml.toNatClampNeg, sAnyL (mNear h rd ml.toNatClampNeg) n)
theorem mLg_n {h : Nat → Int32} {n : Nat} {rd ml : Int32} (e : rd = -99999 ∨ ml = -99999) : mLg h n rd ml = (-99999, -99999, -99999, false) := if_pos e
theorem mLg_y {h : Nat → Int32} {n p : Nat} {rd ml : Int32} (hr : ¬ rd = -99999) (e : ml = nI p) (hp : p < 6) : mLg h n rd ml = (rd, h p, rd - h p, sAnyL (mNear h rd p) n) := by
  unfold mLg
  rw [e, if_neg (fun q => q.elim hr (nI_ne_none (by omega))), nI_clamp (by omega)]
def mB (f : Int → Int32) : Nat → Int32 × Int32
  | 0 => (0, -1)
  | k + 1 => if (mB f k).2 < 0 ∨ f (-30 + (k : Int)) < (mB f k).2 then (iI (-30 + (k : Int)), f (-30 + (k : Int))) else mB f k
theorem mB_y1 {f : Int → Int32} {k : Nat} (c : (mB f k).2 < 0) : mB f (k + 1) = (iI (-30 + (k : Int)), f (-30 + (k : Int))) := if_pos (Or.inl c)
theorem mB_y2 {f : Int → Int32} {k : Nat} (c : f (-30 + (k : Int)) < (mB f k).2) : mB f (k + 1) = (iI (-30 + (k : Int)), f (-30 + (k : Int))) := if_pos (Or.inr c)
theorem mB_n {f : Int → Int32} {k : Nat} (c : ¬ (mB f k).2 < 0) (d : (mB f k).2 ≤ f (-30 + (k : Int))) : mB f (k + 1) = mB f k := if_neg (fun q => q.elim c (not_lt_of_le32 d))
theorem mAbs_neg (x : Int32) : mAbs (-x) = mAbs x := by
  by_cases hm : x.toInt = -2147483648
  · have : x = -2147483648 := Int32.toInt_inj.mp (by rw [hm]; decide +kernel)
    rw [this]; decide +kernel
  · have hr := Int32.minValue_le_toInt x
    have hr2 := Int32.toInt_le x
    have e1 : (Int32.minValue).toInt = -2147483648 := by decide +kernel
    have e2 : (Int32.maxValue).toInt = 2147483647 := by decide +kernel
    have en : (-x).toInt = -x.toInt := by
      rw [Int32.toInt_neg]
      exact Int.bmod_eq_of_le (by omega) (by omega)
    unfold mAbs
    rw [Int32.zero_sub, Int32.zero_sub, Int32.neg_neg]
    by_cases h1 : 0 ≤ x
    · rw [if_pos h1]
      by_cases h2 : 0 ≤ -x
      · rw [if_pos h2]
        rw [Int32.le_iff_toInt_le, Int32.toInt_zero] at h1 h2
        exact Int32.toInt_inj.mp (by omega)
      · rw [if_neg h2]
    · rw [if_neg h1]
      have h2 : 0 ≤ -x := by
        rw [Int32.le_iff_toInt_le, Int32.toInt_zero] at h1 ⊢
        omega
      rw [if_pos h2]
theorem mAbs_sub (x y : Int32) : mAbs (x - y) = mAbs (y - x) := by rw [← mAbs_neg, Int32.neg_sub]
theorem mFar {g h s s1 : Nat → Int32} {j p : Nat} {z : Int} (hj : j < 2) (hs : upd s1 j (s j) = s) : mAbs (sDist h g p (upd s1 j (iI z) 0) (upd s1 j (iI z) 1)) = sFar g h s j p z := by
  rcases (show j = 0 ∨ j = 1 by omega) with rfl | rfl
  · have e : s1 1 = s 1 := by have := congrFun hs 1; simpa [upd] using this
    show mAbs (sPlace g 1 (s1 1) (h p) - sPlace g 0 (iI z) (h p)) = mAbs (sPlace g (nI 0) (iI z) (h p) - sPlace g (nI 1) (s 1) (h p))
    rw [e, mAbs_sub]; rfl
  · have e : s1 0 = s 0 := by have := congrFun hs 0; simpa [upd] using this
    show mAbs (sPlace g 1 (iI z) (h p) - sPlace g 0 (s1 0) (h p)) = mAbs (sPlace g (nI 1) (iI z) (h p) - sPlace g (nI 0) (s 0) (h p))
    rw [e]; rfl
theorem upd_back {s s1 : Nat → Int32} {j : Nat} {v : Int32} (hs : upd s1 j (s j) = s) : upd (upd s1 j v) j (s j) = s := by
  rw [← hs]
  funext i
  unfold upd
  by_cases e : i = j <;> simp [e]
def mLeast (j : Nat) : Int32 := if j = 0 then 50 else if j = 2 then 1 else 0
def mMost (j : Nat) : Int32 := if j < 2 then 1000 else if j = 2 then 500 else 100
/-- the thin layers of those from k on are gone: N are left -/
def mTh (n : Nat) (h t : Nat → Int32) (x : Int32) (k N : Nat) (H T : Nat → Int32) : Prop :=
  k ≤ N ∧ sKeep t x k + (N - k) = sKeep t x n ∧ (∀ i, i < k → H i = h i ∧ T i = t i) ∧ ∀ i, k ≤ i → i < N → H i = sPack t x h n (sKeep t x k + (i - k)) ∧ T i = sPack t x t n (sKeep t x k + (i - k))
theorem sKeep_mono (t : Nat → Int32) (x : Int32) (p : Nat) : ∀ d, sKeep t x p ≤ sKeep t x (p + d)
  | 0 => Nat.le_refl _
  | d + 1 => by
    have := sKeep_mono t x p d
    show _ ≤ (if x < t (p + d) then sKeep t x (p + d) + 1 else sKeep t x (p + d))
    split <;> omega
theorem sPack_kept {t : Nat → Int32} {x : Int32} (f : Nat → Int32) {p : Nat} (hp : x < t p) : ∀ d, sPack t x f (p + 1 + d) (sKeep t x p) = f p
  | 0 => by
    rw [Nat.add_zero, sPack_y hp]
    exact pk_us
  | d + 1 => by
    have ih := sPack_kept f hp d
    have hm : sKeep t x (p + 1) ≤ sKeep t x (p + 1 + d) := sKeep_mono t x (p + 1) d
    rw [sKeep_y hp] at hm
    show (if x < t (p + 1 + d) then upd (sPack t x f (p + 1 + d)) (sKeep t x (p + 1 + d)) (f (p + 1 + d)) else sPack t x f (p + 1 + d)) (sKeep t x p) = f p
    split
    · rw [pk_un (by omega)]; exact ih
    · exact ih
theorem mTh_0 (n : Nat) (h t : Nat → Int32) (x : Int32) : mTh n h t x n n h t := ⟨Nat.le_refl _, by omega, fun i _ => ⟨rfl, rfl⟩, fun i h1 h2 => by omega⟩
theorem mTh_keep {n : Nat} {h t : Nat → Int32} {x : Int32} {k N : Nat} {H T : Nat → Int32} (hk : 0 < k) (hkn : k ≤ n) (M : mTh n h t x k N H T) (c : x < t (k - 1)) : mTh n h t x (k - 1) N H T := by
  obtain ⟨m1, m2, m3, m4⟩ := M
  obtain ⟨p, rfl⟩ : ∃ p, k = p + 1 := ⟨k - 1, by omega⟩
  rw [Nat.add_sub_cancel] at c ⊢
  have e := sKeep_y c
  refine ⟨by omega, by omega, fun i hi => m3 i (by omega), fun i h1 h2 => ?_⟩
  by_cases hi : i = p
  · subst hi
    rw [Nat.sub_self, Nat.add_zero]
    obtain ⟨d, rfl⟩ : ∃ d, n = i + 1 + d := ⟨n - (i + 1), by omega⟩
    rw [sPack_kept h c d, sPack_kept t c d]
    exact m3 i (by omega)
  · have := m4 i (by omega) h2
    rw [e, show sKeep t x p + 1 + (i - (p + 1)) = sKeep t x p + (i - p) by omega] at this
    exact this
theorem mTh_drop {n : Nat} {h t : Nat → Int32} {x : Int32} {k N : Nat} {H T : Nat → Int32} (hk : 0 < k) (M : mTh n h t x k N H T) (c : t (k - 1) ≤ x) : mTh n h t x (k - 1) (N - 1) (sDn H (k - 1) N) (sDn T (k - 1) N) := by
  obtain ⟨m1, m2, m3, m4⟩ := M
  obtain ⟨p, rfl⟩ : ∃ p, k = p + 1 := ⟨k - 1, by omega⟩
  rw [Nat.add_sub_cancel] at c ⊢
  have e := sKeep_n c
  refine ⟨by omega, by omega, fun i hi => ?_, fun i h1 h2 => ?_⟩
  · unfold sDn
    rw [if_neg (by omega), if_neg (by omega)]
    exact m3 i (by omega)
  · unfold sDn
    rw [if_pos (by omega), if_pos (by omega)]
    have := m4 (i + 1) (by omega) (by omega)
    rw [e, show sKeep t x p + (i + 1 - (p + 1)) = sKeep t x p + (i - p) by omega] at this
    exact this
theorem upd_self (s : Nat → Int32) (j : Nat) : upd s j (s j) = s := by
  funext i
  unfold upd
  by_cases e : i = j
  · rw [if_pos e, e]
  · rw [if_neg e]
def sLy (lit : Int32) (h t s g : Nat → Int32) (p : Nat) (w : Int32) : Int32 := if w = 0 then h p else if w = 1 then t p else if w = 2 then (if sPair lit h t g p = true then sDist h g p (s 0) (s 1) else -99999) else bI (sClose lit h t s g p = true)
def mRn (h : Nat → Int32) (n : Nat) (rd ml : Int32) (w : Nat) : Int32 :=
  if rd = -99999 ∨ ml = -99999 then -99999 else if w = 0 then rd else if w = 1 then ml else if w = 2 then rd - h ml.toNatClampNeg else bI (sAnyL (mNear h rd ml.toNatClampNeg) n = true)
theorem mRn_n {h : Nat → Int32} {n : Nat} {rd ml : Int32} {w : Nat} (e : rd = -99999 ∨ ml = -99999) : mRn h n rd ml w = -99999 := if_pos e
theorem mRn_y {h : Nat → Int32} {n p : Nat} {rd ml : Int32} {w : Nat} (hr : ¬ rd = -99999) (e : ml = nI p) (hp : p < 6) : mRn h n rd ml w = if w = 0 then rd else if w = 1 then nI p else if w = 2 then rd - h p else bI (sAnyL (mNear h rd p) n = true) := by
  unfold mRn
  rw [e, if_neg (fun q => q.elim hr (nI_ne_none (by omega))), nI_clamp (by omega)]
theorem mFo {h : Nat → Int32} {n p : Nat} {rd ml : Int32} {fo : Nat → Int32} {w : Nat} (hw : w ≤ 3) (hp : p < n) (hn : n ≤ 6) (hr : ¬ rd = -99999) (e : ml = nI p) (F : mFnd h n rd ml fo) : fo w = mRn h n rd ml w := by
  obtain ⟨f0, f1, f2, f3⟩ := F.2 p hp hr e
  rw [mRn_y hr e (by omega)]
  rcases (show w = 0 ∨ w = 1 ∨ w = 2 ∨ w = 3 by omega) with rfl | rfl | rfl | rfl
  · rw [f0]; rfl
  · rw [f1]; rfl
  · rw [f2]; rfl
  · rw [f3]; rfl
theorem w03 {w : Nat} (h : w ≤ 3) : 0 ≤ nI w ∧ nI w ≤ 3 := by
  rcases (show w = 0 ∨ w = 1 ∨ w = 2 ∨ w = 3 by omega) with rfl | rfl | rfl | rfl <;> decide
theorem nI_ninf {j : Nat} (h : j < 2 ^ 31) : ¬ nI j < 0 := nI_pos h
theorem mThin_ok {x : Int32} {a b : Int32} (h : a ≤ x ∧ x ≤ b) : a ≤ x ∧ x ≤ b := h
def mCnt2 (b : Bool) (lit : Int32) (h t s g : Nat → Int32) : Nat → Bool := fun k => if b = true then sClose lit h t s g k else sPair lit h t g k
/-- the model's count, by what is asked -/
def mTc (sm ln n : Nat) (o h t s g : Nat → Int32) (kn : Nat) (lo lf : Int32) (w : Nat) : Int32 :=
  if w = 0 then nI n else if w = 1 then s 0 else if w = 2 then s 1 else if w = 3 then o 0 + 2 * o 1 else if w = 4 then sMeet g (s 0) (s 1) else if w = 5 then mSpots o h t g (g 1) n
  else if w = 6 then nI (sCnt (sPair (mLit o) h t g) n) else if w = 7 then nI (sCnt (sClose (mLit o) h t s g) n) else if w = 8 then nI kn else if w = 9 then lo else if w = 10 then lf else if w = 11 then nI sm else if w = 12 then nI ln else g (w - 13)
/-- would scan: with the slopes -30 + i, i < k: how many readings, how many false, the first's slope + 100, the last's -/
def mWs (is : Nat → Bool) (f3 : Nat → Int32) : Nat → Nat × Int32 × Int32 × Int32
  | 0 => (0, 0, -99999, -99999)
  | k + 1 => if is k = true then ((mWs is f3 k).1 + 1, (mWs is f3 k).2.1 + f3 k, (if (mWs is f3 k).2.2.1 = -99999 then iI (-30 + (k : Int)) + 100 else (mWs is f3 k).2.2.1), iI (-30 + (k : Int)) + 100) else mWs is f3 k
theorem mWs_y {is : Nat → Bool} {f3 : Nat → Int32} {k : Nat} (c : is k = true) : mWs is f3 (k + 1) = ((mWs is f3 k).1 + 1, (mWs is f3 k).2.1 + f3 k, (if (mWs is f3 k).2.2.1 = -99999 then iI (-30 + (k : Int)) + 100 else (mWs is f3 k).2.2.1), iI (-30 + (k : Int)) + 100) := if_pos c
theorem mWs_n {is : Nat → Bool} {f3 : Nat → Int32} {k : Nat} (c : ¬ is k = true) : mWs is f3 (k + 1) = mWs is f3 k := if_neg c
theorem mWs_le (is : Nat → Bool) (f3 : Nat → Int32) : ∀ k, (mWs is f3 k).1 ≤ k
  | 0 => Nat.le_refl 0
  | k + 1 => by
    have := mWs_le is f3 k
    unfold mWs
    split
    · exact Nat.succ_le_succ this
    · exact Nat.le_succ_of_le this
def mRd (s g : Nat → Int32) (j : Nat) (z : Int) : Int32 := sMeet g (upd s j (iI z) 0) (upd s j (iI z) 1)
def mMl (o h t s g : Nat → Int32) (n j : Nat) (z : Int) : Int32 := mC (sClose (mLit o) h t (upd s j (iI z)) g) (mD h (upd s j (iI z)) g) n
def mIs (o h t s g : Nat → Int32) (n j k : Nat) : Bool := decide (¬ mRd s g j (-30 + (k : Int)) = -99999 ∧ ¬ mMl o h t s g n j (-30 + (k : Int)) = -99999)
def mF3 (o h t s g : Nat → Int32) (n j k : Nat) : Int32 := mRn h n (mRd s g j (-30 + (k : Int))) (mMl o h t s g n j (-30 + (k : Int))) 3
def mWv (q : Nat × Int32 × Int32 × Int32) (w : Nat) : Int32 := if w = 0 then nI q.1 else if w = 1 then q.2.1 else if w = 2 then q.2.2.1 else q.2.2.2
theorem upd_to {s s1 : Nat → Int32} {j : Nat} {v : Int32} (hs : upd s1 j (s j) = s) : upd s1 j v = upd s j v := by
  rw [← hs]
  funext i
  unfold upd
  by_cases e : i = j <;> simp [e]
theorem sOk_i {z : Int} (h : -30 ≤ z ∧ z ≤ 30) : sOk (iI z) := by
  unfold sOk
  rw [iI_toInt (by omega)]
  exact h
theorem sOk_upd {s : Nat → Int32} {j i : Nat} {v : Int32} (hs : sOk (s i)) (hv : sOk v) : sOk (upd s j v i) := by
  unfold upd
  split
  · exact hv
  · exact hs
/-- clearEnough: the greatest haze up to k with as many spots -/
def mHz (f : Nat → Int32) (all : Int32) : Nat → Nat
  | 0 => 0
  | k + 1 => if f (k + 1) = all then k + 1 else mHz f all k
theorem mHz_y {f : Nat → Int32} {all : Int32} {k : Nat} (c : f k = all) : mHz f all k = k := by
  cases k with
  | zero => rfl
  | succ k => exact if_pos c
theorem mHz_n {f : Nat → Int32} {all : Int32} {k : Nat} (hk : 0 < k) (c : ¬ f k = all) : mHz f all k = mHz f all (k - 1) := by
  cases k with
  | zero => omega
  | succ k => exact if_neg c
def mSp (o h t s g : Nat → Int32) (j p : Nat) (w : Int32) : Int32 := if o j = 0 then -99999 else sSpot h t s g j p w
theorem mOn {o : Nat → Int32} {j : Nat} (ho : mBin o) (hj : j < 2) (c : ¬ o j = 0) : o j = 1 := by
  rcases (show j = 0 ∨ j = 1 by omega) with rfl | rfl
  · exact ho.1.resolve_left c
  · exact ho.2.resolve_left c
