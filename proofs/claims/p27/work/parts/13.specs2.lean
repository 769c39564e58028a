/-! what the sky's further methods compute -/
def iI (z : Int) : Int32 := Int32.ofInt z
theorem iI_toInt {z : Int} (h : -100000 ≤ z ∧ z ≤ 100000) : (iI z).toInt = z := by
  unfold iI
  rw [Int32.toInt_ofInt, show Int32.size = 4294967296 from rfl]
  exact Int.bmod_eq_of_le (by omega) (by omega)
theorem iI_lt {a b : Int} (ha : -100000 ≤ a ∧ a ≤ 100000) (hb : -100000 ≤ b ∧ b ≤ 100000) : iI a < iI b ↔ a < b := by
  rw [Int32.lt_iff_toInt_lt, iI_toInt ha, iI_toInt hb]
theorem iI_add (a b : Int) : iI a + iI b = iI (a + b) := (Int32.ofInt_add a b).symm
theorem iI_neg (a : Int) : -iI a = iI (-a) := (Int32.ofInt_neg a).symm
theorem iI_sub (a b : Int) : iI a - iI b = iI (a - b) := by rw [Int32.sub_eq_add_neg, iI_neg, iI_add]; rfl
theorem iI_self (x : Int32) : iI x.toInt = x := Int32.ofInt_toInt x
theorem iI_nI (n : Nat) : iI (n : Int) = nI n := rfl
def sPm (lit : Int32) (h t g : Nat → Int32) (n : Nat) : Nat := if lit = 3 then sMask h t g (g 1) n else 0
def sPair (lit : Int32) (h t g : Nat → Int32) (p : Nat) : Bool := decide (lit = 3) && sSeen h t g (g 1) p
theorem sMask_tb (h t g : Nat → Int32) (hz : Int32) (p : Nat) : ∀ n, (sMask h t g hz n).testBit p = (decide (p < n) && sSeen h t g hz p)
  | 0 => by simp [sMask]
  | k + 1 => by
    have ih := sMask_tb h t g hz p k
    have hl := sMask_lt h t g hz k
    unfold sMask
    by_cases hs : sSeen h t g hz k = true
    · rw [if_pos hs]
      by_cases e : p = k
      · subst e
        rw [Nat.add_comm, Nat.testBit_two_pow_add_eq, ih]
        simp [hs]
      · by_cases l : p < k
        · rw [Nat.add_comm, Nat.testBit_two_pow_add_gt l, ih]
          simp [l, show p < k + 1 by omega]
        · have : sMask h t g hz k + 2 ^ k < 2 ^ p := by
            have e1 : 2 ^ (k + 1) = 2 ^ k + 2 ^ k := by rw [Nat.pow_succ]; omega
            have e2 : 2 ^ (k + 1) ≤ 2 ^ p := Nat.pow_le_pow_right (by decide) (by omega)
            omega
          rw [Nat.testBit_lt_two_pow this]
          simp [show ¬ p < k + 1 by omega]
    · rw [if_neg hs, Nat.add_zero, ih]
      by_cases e : p = k
      · subst e
        simp [hs]
      · simp [show (p < k + 1) ↔ (p < k) by omega]
theorem sBit1 : ∀ m : Nat, m < 64 → ∀ p : Nat, p < 6 → (((nI m >>> (nI p &&& 31)) &&& 1 = 1) ↔ m.testBit p = true) := by decide +kernel
theorem sMask_bit {h t g : Nat → Int32} {hz : Int32} {n p : Nat} (hn : n ≤ 6) (hp : p < n) : ((nI (sMask h t g hz n) >>> (nI p &&& 31)) &&& 1 = 1) ↔ sSeen h t g hz p = true := by
  have hl := sMask_lt h t g hz n
  have : 2 ^ n ≤ 2 ^ 6 := Nat.pow_le_pow_right (by decide) hn
  rw [sBit1 _ (by omega) p (by omega), sMask_tb]
  simp [hp]
theorem sPair_iff {lit : Int32} {h t g : Nat → Int32} {n p : Nat} (hn : n ≤ 6) (hp : p < n) : ((nI (sPm lit h t g n) >>> (nI p &&& 31)) &&& 1 = 1) ↔ sPair lit h t g p = true := by
  unfold sPm sPair
  by_cases hl : lit = 3
  · rw [if_pos hl, sMask_bit hn hp]
    simp [hl]
  · rw [if_neg hl, sBit1 0 (by decide) p (by omega)]
    simp [hl]
def sClose (lit : Int32) (h t s g : Nat → Int32) (p : Nat) : Bool := sPair lit h t g p && decide (mAbs (sDist h g p (s 0) (s 1)) ≤ g 3)
theorem sClose_1 {lit : Int32} {h t s g : Nat → Int32} {p : Nat} (q : sClose lit h t s g p = true) : sPair lit h t g p = true := by
  unfold sClose at q
  exact (Bool.and_eq_true_iff.mp q).1
theorem sClose_2 {lit : Int32} {h t s g : Nat → Int32} {p : Nat} (q : sClose lit h t s g p = true) : mAbs (sDist h g p (s 0) (s 1)) ≤ g 3 := by
  unfold sClose at q
  exact of_decide_eq_true (Bool.and_eq_true_iff.mp q).2
theorem sClose_i {lit : Int32} {h t s g : Nat → Int32} {p : Nat} (a : sPair lit h t g p = true) (b : mAbs (sDist h g p (s 0) (s 1)) ≤ g 3) : sClose lit h t s g p = true := by
  unfold sClose
  rw [a, decide_eq_true b]; rfl
def sCnt (b : Nat → Bool) : Nat → Nat
  | 0 => 0
  | k + 1 => sCnt b k + (if b k = true then 1 else 0)
theorem sCnt_y {b : Nat → Bool} {k : Nat} (h : b k = true) : sCnt b (k + 1) = sCnt b k + 1 := by
  show sCnt b k + (if b k = true then 1 else 0) = _
  rw [if_pos h]
theorem sCnt_n {b : Nat → Bool} {k : Nat} (h : ¬ b k = true) : sCnt b (k + 1) = sCnt b k := by
  show sCnt b k + (if b k = true then 1 else 0) = _
  rw [if_neg h, Nat.add_zero]
theorem sCnt_le (b : Nat → Bool) : ∀ k, sCnt b k ≤ k
  | 0 => Nat.le_refl 0
  | k + 1 => by
    have := sCnt_le b k
    show sCnt b k + (if b k = true then 1 else 0) ≤ _
    split <;> omega
def sAnyL (b : Nat → Bool) : Nat → Bool
  | 0 => false
  | k + 1 => sAnyL b k || b k
theorem sAnyL_of {b : Nat → Bool} : ∀ {n k : Nat}, k < n → b k = true → sAnyL b n = true
  | 0, _, h1, _ => absurd h1 (Nat.not_lt_zero _)
  | n + 1, k, h1, h2 => by
    unfold sAnyL
    rcases Nat.lt_or_ge k n with q | q
    · rw [sAnyL_of q h2]; rfl
    · rw [show k = n by omega] at h2
      rw [h2]; simp
theorem sAnyL_s {b : Nat → Bool} {k : Nat} (h1 : sAnyL b k = false) (h2 : ¬ b k = true) : sAnyL b (k + 1) = false := by
  unfold sAnyL
  rw [h1]
  simpa using h2
/-- layer of the reading and its size so far -/
def sLo (h t g : Nat → Int32) (x y : Int32) : Nat → Int32 × Int32
  | 0 => (-1, g 3 + 1)
  | k + 1 => if mAbs (sDist h g k x y) < (sLo h t g x y k).2 ∧ sSeen h t g (g 1) k = true then (nI k, mAbs (sDist h g k x y)) else sLo h t g x y k
theorem sLo_n1 {h t g : Nat → Int32} {x y : Int32} {k : Nat} (c : (sLo h t g x y k).2 ≤ mAbs (sDist h g k x y)) : sLo h t g x y (k + 1) = sLo h t g x y k := if_neg (fun q => not_lt_of_le32 c q.1)
theorem sLo_n2 {h t g : Nat → Int32} {x y : Int32} {k : Nat} (c : ¬ sSeen h t g (g 1) k = true) : sLo h t g x y (k + 1) = sLo h t g x y k := if_neg (fun q => c q.2)
theorem sLo_y {h t g : Nat → Int32} {x y : Int32} {k : Nat} (c : mAbs (sDist h g k x y) < (sLo h t g x y k).2) (d : sSeen h t g (g 1) k = true) : sLo h t g x y (k + 1) = (nI k, mAbs (sDist h g k x y)) := if_pos ⟨c, d⟩
def sRl (lit : Int32) (h t g : Nat → Int32) (n : Nat) (x y : Int32) : Int32 := if y < x ∧ lit = 3 then (sLo h t g x y n).1 else -1
theorem sLo_ex (h t g : Nat → Int32) (x y : Int32) : ∀ n, (sLo h t g x y n).1 = -1 ∨ ∃ p, p < n ∧ (sLo h t g x y n).1 = nI p
  | 0 => Or.inl rfl
  | k + 1 => by
    unfold sLo
    split
    · exact Or.inr ⟨k, Nat.lt_succ_self k, rfl⟩
    · rcases sLo_ex h t g x y k with e | ⟨p, hp, e⟩
      · exact Or.inl e
      · exact Or.inr ⟨p, Nat.lt_succ_of_lt hp, e⟩
theorem sRl_ex {lit : Int32} {h t g : Nat → Int32} {n : Nat} {x y : Int32} (c : ¬ sRl lit h t g n x y = -1) : ∃ p, p < n ∧ sRl lit h t g n x y = nI p := by
  unfold sRl at c ⊢
  split
  · rename_i q
    rw [if_pos q] at c
    rcases sLo_ex h t g x y n with e | e
    · exact absurd e c
    · exact e
  · rename_i q
    rw [if_neg q] at c
    exact absurd rfl c
theorem nI_ne_m1 {p : Nat} (hp : p < 1000) : ¬ nI p = -1 := by
  intro e
  have := congrArg Int32.toInt e
  rw [nI_toInt (by omega)] at this
  have h2 : (-1 : Int32).toInt = -1 := by decide +kernel
  omega
def sNear (h : Nat → Int32) (x : Int32) (p i : Nat) : Bool := decide (mAbs (x - h i) < mAbs (x - h p))
def sFalse (h : Nat → Int32) (n : Nat) (x : Int32) (p : Nat) : Bool := sAnyL (sNear h x p) n
def sRn (lit : Int32) (h t s g : Nat → Int32) (n : Nat) (w : Int32) : Int32 :=
  if sRl lit h t g n (s 0) (s 1) = -1 then -99999 else if w = 0 then sMeet g (s 0) (s 1) else if w = 1 then sRl lit h t g n (s 0) (s 1)
  else if w = 2 then sMeet g (s 0) (s 1) - h (sRl lit h t g n (s 0) (s 1)).toNatClampNeg else bI (sFalse h n (sMeet g (s 0) (s 1)) (sRl lit h t g n (s 0) (s 1)).toNatClampNeg = true)
theorem sRn_no {lit : Int32} {h t s g : Nat → Int32} {n : Nat} {w : Int32} (c : sRl lit h t g n (s 0) (s 1) = -1) : sRn lit h t s g n w = -99999 := if_pos c
theorem sRn_ok {lit : Int32} {h t s g : Nat → Int32} {n : Nat} {w : Int32} {p : Nat} (e : sRl lit h t g n (s 0) (s 1) = nI p) (hp : p < 6) : sRn lit h t s g n w = if w = 0 then sMeet g (s 0) (s 1) else if w = 1 then nI p else if w = 2 then sMeet g (s 0) (s 1) - h p else bI (sFalse h n (sMeet g (s 0) (s 1)) p = true) := by
  unfold sRn
  rw [e, if_neg (nI_ne_m1 (by omega)), nI_clamp (by omega)]
def sLg (lit : Int32) (h t s g : Nat → Int32) (n : Nat) : Int32 × Int32 × Int32 × Bool :=
  if sRl lit h t g n (s 0) (s 1) = -1 then (-99999, -99999, -99999, false)
  else (sMeet g (s 0) (s 1), h (sRl lit h t g n (s 0) (s 1)).toNatClampNeg, sMeet g (s 0) (s 1) - h (sRl lit h t g n (s 0) (s 1)).toNatClampNeg, sFalse h n (sMeet g (s 0) (s 1)) (sRl lit h t g n (s 0) (s 1)).toNatClampNeg)
theorem sLg_no {lit : Int32} {h t s g : Nat → Int32} {n : Nat} (c : sRl lit h t g n (s 0) (s 1) = -1) : sLg lit h t s g n = (-99999, -99999, -99999, false) := if_pos c
theorem sLg_ok {lit : Int32} {h t s g : Nat → Int32} {n : Nat} {p : Nat} (e : sRl lit h t g n (s 0) (s 1) = nI p) (hp : p < 6) : sLg lit h t s g n = (sMeet g (s 0) (s 1), h p, sMeet g (s 0) (s 1) - h p, sFalse h n (sMeet g (s 0) (s 1)) p) := by
  unfold sLg
  rw [e, if_neg (nI_ne_m1 (by omega)), nI_clamp (by omega)]
def sWrL (nm : Nat → Int32) (q : Int32 × Int32 × Int32 × Bool) : Nat → Int32 := sWr nm q.1 q.2.1 q.2.2.1 q.2.2.2
def sFar (g h s : Nat → Int32) (j p : Nat) (z : Int) : Int32 := mAbs (sPlace g (nI j) (iI z) (h p) - sPlace g (nI (1 - j)) (s (1 - j)) (h p))
def sBs (f : Int → Int32) (u : Int) : Nat → Int × Int32
  | 0 => (u, f u)
  | k + 1 => if f (u + 1 + (k : Int)) < (sBs f u k).2 then (u + 1 + (k : Int), f (u + 1 + (k : Int))) else sBs f u k
theorem sBs_y {f : Int → Int32} {u : Int} {k : Nat} (c : f (u + 1 + (k : Int)) < (sBs f u k).2) : sBs f u (k + 1) = (u + 1 + (k : Int), f (u + 1 + (k : Int))) := if_pos c
theorem sBs_n {f : Int → Int32} {u : Int} {k : Nat} (c : (sBs f u k).2 ≤ f (u + 1 + (k : Int))) : sBs f u (k + 1) = sBs f u k := if_neg (not_lt_of_le32 c)
def sTry (g h s : Nat → Int32) (j p : Nat) : Int := (sBs (sFar g h s j p) (-30) 60).1
def sClamp (r : Int32) : Int := max (-30) (min 30 r.toInt)
theorem sClamp_in (r : Int32) : -30 ≤ sClamp r ∧ sClamp r ≤ 30 := by unfold sClamp; omega
theorem mMax_i {a b : Int} (ha : -100000 ≤ a ∧ a ≤ 100000) (hb : -100000 ≤ b ∧ b ≤ 100000) : mMax (iI a) (iI b) = iI (max a b) := by
  unfold mMax
  by_cases h : a < b
  · rw [if_pos ((iI_lt ha hb).mpr h), Int.max_eq_right (by omega)]
  · rw [if_neg (fun q => h ((iI_lt ha hb).mp q)), Int.max_eq_left (by omega)]
theorem mMin_i {a b : Int} (ha : -100000 ≤ a ∧ a ≤ 100000) (hb : -100000 ≤ b ∧ b ≤ 100000) : mMin (iI a) (iI b) = iI (min a b) := by
  unfold mMin
  by_cases h : b < a
  · rw [if_pos ((iI_lt hb ha).mpr h), Int.min_eq_right (by omega)]
  · rw [if_neg (fun q => h ((iI_lt hb ha).mp q)), Int.min_eq_left (by omega)]
theorem mClamp (r : Int32) : mMax (-30) (mMin 30 r) = iI (sClamp r) := by
  have h30 : (30 : Int32).toInt = 30 := by decide +kernel
  have e : mMin 30 r = iI (min 30 r.toInt) := by
    unfold mMin
    by_cases h : r < 30
    · rw [if_pos h, Int.min_eq_right (by rw [Int32.lt_iff_toInt_lt] at h; omega), iI_self]
    · rw [if_neg h, Int.min_eq_left (by rw [Int32.lt_iff_toInt_lt] at h; omega)]
      rfl
  rw [e]
  unfold mMax sClamp
  by_cases h : -30 < min 30 r.toInt
  · rw [if_pos (show (-30 : Int32) < iI (min 30 r.toInt) from (iI_lt (a := -30) (by omega) (by omega)).mpr h), Int.max_eq_right (by omega)]
  · have hm : ¬ (-30 : Int32) < iI (min 30 r.toInt) := by
      rw [Int32.lt_iff_toInt_lt]
      unfold iI
      rw [Int32.toInt_ofInt, show Int32.size = 4294967296 from rfl]
      have hr := Int32.minValue_le_toInt r
      have h2 : (Int32.minValue).toInt = -2147483648 := by decide +kernel
      have h3 : (-30 : Int32).toInt = -30 := by decide +kernel
      rw [Int.bmod_eq_of_le (by omega) (by omega), h3]
      omega
    rw [if_neg hm, Int.max_eq_left (by omega)]
    rfl
def sCmpR (g h s : Nat → Int32) (j p : Nat) : Int32 := 10 * (sPlace g (nI (1 - j)) (s (1 - j)) (h p) - sPlace g (nI j) 0 (h p)) / h p
def sCmp (g h s : Nat → Int32) (j p : Nat) : Int := (sBs (sFar g h s j p) (max (-30) (sClamp (sCmpR g h s j p) - 1)) (min 30 (sClamp (sCmpR g h s j p) + 1) - max (-30) (sClamp (sCmpR g h s j p) - 1)).toNat).1
def sX (s : Nat → Int32) (j : Nat) (x : Int32) : Int32 := if j = 0 then x else s 0
def sY (s : Nat → Int32) (j : Nat) (x : Int32) : Int32 := if j = 0 then s 1 else x
/-- with the slope z of light j: is there a reading; (b) and a false one -/
def sWith (lit : Int32) (h t s g : Nat → Int32) (n j : Nat) (b : Bool) (z : Int) : Bool :=
  decide (¬ sRl lit h t g n (sX s j (iI z)) (sY s j (iI z)) = -1) && (!b || sFalse h n (sMeet g (sX s j (iI z)) (sY s j (iI z))) (sRl lit h t g n (sX s j (iI z)) (sY s j (iI z))).toNatClampNeg)
def sFst (q : Nat → Bool) : Nat → Nat
  | 0 => 0
  | k + 1 => if sFst q k < k then sFst q k else if q k = true then k else k + 1
theorem sFst_no {q : Nat → Bool} : ∀ {k : Nat}, sAnyL q k = false → sFst q k = k
  | 0, _ => rfl
  | k + 1, h => by
    unfold sAnyL at h
    rw [Bool.or_eq_false_iff] at h
    unfold sFst
    rw [sFst_no h.1, if_neg (Nat.lt_irrefl _), if_neg (by rw [h.2]; decide)]
theorem sFst_keep {q : Nat → Bool} {k : Nat} (h : sFst q (k + 1) = k) : ∀ d, sFst q (k + 1 + d) = k
  | 0 => h
  | d + 1 => by
    show (if sFst q (k + 1 + d) < k + 1 + d then sFst q (k + 1 + d) else if q (k + 1 + d) = true then k + 1 + d else k + 1 + d + 1) = k
    rw [sFst_keep h d, if_pos (by omega)]
theorem sFst_at {q : Nat → Bool} {k m : Nat} (h : sAnyL q k = false) (hk : k < m) (hq : q k = true) : sFst q m = k := by
  obtain ⟨d, rfl⟩ : ∃ d, m = k + 1 + d := ⟨m - (k + 1), by omega⟩
  refine sFst_keep ?_ d
  unfold sFst
  rw [sFst_no h, if_neg (Nat.lt_irrefl _), if_pos hq]
def sSl (b : Bool) (k : Nat) : Int := if b = true then -(-30 + (k : Int)) else -30 + (k : Int)
def sOut (lit : Int32) (h t s g : Nat → Int32) (n j : Nat) (b : Bool) : Int32 :=
  if sFst (fun k => sWith lit h t s g n j false (sSl b k)) 61 < 61 then iI (sSl b (sFst (fun k => sWith lit h t s g n j false (sSl b k)) 61)) + 100 else -99999
theorem sWith_no {lit : Int32} {h t s g : Nat → Int32} {n j : Nat} {b : Bool} {z : Int} (c : sRl lit h t g n (sX s j (iI z)) (sY s j (iI z)) = -1) : ¬ sWith lit h t s g n j b z = true := by
  unfold sWith
  simp [c]
theorem sWith_f {lit : Int32} {h t s g : Nat → Int32} {n j : Nat} {z : Int} (c : ¬ sRl lit h t g n (sX s j (iI z)) (sY s j (iI z)) = -1) : sWith lit h t s g n j false z = true := by
  unfold sWith
  simp [c]
theorem sWith_t {lit : Int32} {h t s g : Nat → Int32} {n j : Nat} {b : Bool} {z : Int} {p : Nat} (c : ¬ sRl lit h t g n (sX s j (iI z)) (sY s j (iI z)) = -1) (e : sRl lit h t g n (sX s j (iI z)) (sY s j (iI z)) = nI p) (hp : p < 6) (hb : b = true) : sWith lit h t s g n j b z = true ↔ sFalse h n (sMeet g (sX s j (iI z)) (sY s j (iI z))) p = true := by
  unfold sWith
  rw [e, nI_clamp (by omega)]
  simp [nI_ne_m1 (show p < 1000 by omega), hb]
def sSpot (h t s g : Nat → Int32) (j p : Nat) (w : Int32) : Int32 :=
  if w = 0 then sPlace g (nI j) (s j) (h p) else if w = 1 then sBr h t (g 1) p else if w = 2 then bI (sSeen h t g (g 1) p = true) else if w = 3 then sCo h t (g 1) p else sCo h t (g 1) p - sBr h t (g 1) p
