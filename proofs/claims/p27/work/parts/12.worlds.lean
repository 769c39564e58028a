/-! the worlds, and what the methods compute (specs) -/
def wLog (a : Nat → Nat) (cy : Nat → ClassId) (kn : Nat) (lo lf : Int32) (nm : Nat → Int32) : va_W := [(a 5, .inr (0, [.ref (a 6), .int (nI kn), .int lo, .int lf])), (a 6, .inl (cy 0, 32, .inl nm))]
def wSky5 (a : Nat → Nat) (cy : Nat → ClassId) (n : Nat) (lit : Int32) (h t s g : Nat → Int32) : va_W := [(a 0, .inr (2, [.int (nI n), .ref (a 1), .ref (a 2), .ref (a 3), .ref (a 4), .int lit, .ref (a 5)])), (a 1, .inl (cy 0, 6, .inl h)), (a 2, .inl (cy 0, 6, .inl t)), (a 3, .inl (cy 0, 2, .inl s)), (a 4, .inl (cy 0, 4, .inl g))]
def wSky (a : Nat → Nat) (cy : Nat → ClassId) (n : Nat) (lit : Int32) (h t s g : Nat → Int32) (kn : Nat) (lo lf : Int32) (nm : Nat → Int32) : va_W := wSky5 a cy n lit h t s g ++ wLog a cy kn lo lf nm
def wRd (r : Nat) (kd hg : Nat) (nu dg : Nat) (ng tk : Bool) : va_W := [(r, .inr (1, [.int (nI kd), .int (nI hg), .int (nI nu), .int (nI dg), .int (bI (ng = true)), .int (bI (tk = true))]))]
def wM (a : Nat → Nat) (cy : Nat → ClassId) (th : Int32) (sm ln pt sg : Nat) (fi se : Int32) (st sv sl ik : Nat → Int32) (bf : Nat → Nat) (co go fo : Nat → Int32) : va_W :=
  [(a 0, .inr (4, [.int th, .ref (a 1), .ref (a 2), .int (nI sm), .ref (a 3), .ref (a 4), .ref (a 5), .int (nI ln), .int (nI pt), .int (nI sg), .int fi, .int se, .ref (a 6), .ref (a 7), .ref (a 8)])),
   (a 1, .inl (cy 0, 56, .inl st)), (a 2, .inl (cy 0, 336, .inl sv)), (a 3, .inl (cy 0, 112, .inl sl)), (a 4, .inl (cy 0, 2, .inl ik)), (a 5, .inl (cy 0, 60, .inl (fun j => nI (bf j)))), (a 6, .inl (cy 0, 12, .inl co)), (a 7, .inl (cy 0, 12, .inl go)), (a 8, .inl (cy 0, 4, .inl fo))]
theorem nI_min {a b : Nat} (ha : a < 2 ^ 31) (hb : b < 2 ^ 31) : mMin (nI a) (nI b) = nI (min a b) := by
  unfold mMin
  by_cases h : b < a
  · rw [if_pos (nI_lt h ha), Nat.min_eq_right (by omega)]
  · rw [if_neg (nI_nlt (by omega) hb), Nat.min_eq_left (by omega)]
theorem k_ne_sub {x y : Int32} (h : y < x) : ¬ x - y = 0 := by
  intro e
  have e2 : x = y := by
    have := congrArg (fun z => z + y) e
    simpa [Int32.sub_add_cancel] using this
  rw [e2] at h
  exact absurd h (Int32.lt_irrefl)
theorem not_lt_of_le32 {x y : Int32} (h : x ≤ y) : ¬ y < x := Int32.not_lt.mpr h
/-- heights and thicknesses, slopes, settings: places, distances, meeting -/
def sPlace (g : Nat → Int32) (light slope height : Int32) : Int32 := (if light = 0 then 0 else g 0) + slope * height / 10
def sDist (h g : Nat → Int32) (layer : Nat) (s0 s1 : Int32) : Int32 := sPlace g 1 s1 (h layer) - sPlace g 0 s0 (h layer)
def sMeet (g : Nat → Int32) (s0 s1 : Int32) : Int32 := if s1 < s0 then 10 * g 0 / (s0 - s1) else -99999
def sHaze (st hz way : Int32) : Int32 := if st.toInt64 * hz.toInt64 * way.toInt64 / 10000000 < st.toInt64 then st - (st.toInt64 * hz.toInt64 * way.toInt64 / 10000000).toInt32 else 0
def sBri (st th : Int32) : Int32 := st * th / 100
def sLow (h : Nat → Int32) : Nat → Int32
  | 0 => 0
  | k + 1 => h k
/-- the strength with which a beam comes to layer k, after sGo of the layers before -/
def sGo (h t : Nat → Int32) (hz : Int32) : Nat → Int32
  | 0 => 1000
  | k + 1 => sHaze (sGo h t hz k) hz (h k - sLow h k) - sBri (sHaze (sGo h t hz k) hz (h k - sLow h k)) (t k)
def sCo (h t : Nat → Int32) (hz : Int32) (k : Nat) : Int32 := sHaze (sGo h t hz k) hz (h k - sLow h k)
def sBr (h t : Nat → Int32) (hz : Int32) (k : Nat) : Int32 := sBri (sCo h t hz k) (t k)
theorem sGo_s (h t : Nat → Int32) (hz : Int32) (k : Nat) : sGo h t hz (k + 1) = sCo h t hz k - sBr h t hz k := rfl
def sSeen (h t g : Nat → Int32) (hz : Int32) (k : Nat) : Bool := decide (g 2 ≤ sBr h t hz k)
def sMask (h t g : Nat → Int32) (hz : Int32) : Nat → Nat
  | 0 => 0
  | k + 1 => sMask h t g hz k + (if sSeen h t g hz k = true then 2 ^ k else 0)
def sAny (h : Nat → Int32) (x : Int32) : Nat → Bool
  | 0 => false
  | k + 1 => sAny h x k || decide (h k = x)
def sPos (h : Nat → Int32) (x : Int32) : Nat → Nat
  | 0 => 0
  | k + 1 => if x < h k then sPos h x k else k + 1
theorem sPos_le (h : Nat → Int32) (x : Int32) : ∀ k, sPos h x k ≤ k
  | 0 => Nat.le_refl 0
  | k + 1 => by
    unfold sPos
    split
    · exact Nat.le_succ_of_le (sPos_le h x k)
    · exact Nat.le_refl _
/-- the entries from k on, up to n, moved up by one -/
def sUp (f : Nat → Int32) (n k : Nat) : Nat → Int32 := fun i => if k < i ∧ i ≤ n then f (i - 1) else f i
theorem sUp_0 (f : Nat → Int32) (n : Nat) : sUp f n n = f := by
  funext i
  unfold sUp
  rw [if_neg (by omega)]
theorem sUp_at {f : Nat → Int32} {n k : Nat} : sUp f n (k + 1) k = f k := by
  unfold sUp
  rw [if_neg (by omega)]
theorem sUp_s {f : Nat → Int32} {n k : Nat} (hk : k + 1 ≤ n) : upd (sUp f n (k + 1)) (k + 1) (f k) = sUp f n k := by
  funext i
  unfold upd sUp
  by_cases h : i = k + 1
  · rw [if_pos h, if_pos (by omega), h]; rfl
  · rw [if_neg h]
    by_cases h2 : k + 1 < i ∧ i ≤ n
    · rw [if_pos h2, if_pos (by omega)]
    · rw [if_neg h2, if_neg (by omega)]
/-- the entries above p moved down by one, up to place i -/
def sDn (f : Nat → Int32) (p i : Nat) : Nat → Int32 := fun j => if p ≤ j ∧ j + 1 < i then f (j + 1) else f j
theorem sDn_0 (f : Nat → Int32) (p : Nat) : sDn f p (p + 1) = f := by
  funext j
  unfold sDn
  rw [if_neg (by omega)]
theorem sDn_at {f : Nat → Int32} {p i : Nat} : sDn f p i i = f i := by
  unfold sDn
  rw [if_neg (by omega)]
theorem sDn_s {f : Nat → Int32} {p i : Nat} (hp : p < i) : upd (sDn f p i) (i - 1) (f i) = sDn f p (i + 1) := by
  funext j
  unfold upd sDn
  by_cases h : j = i - 1
  · rw [if_pos h, if_pos (by omega), h]; congr 1; omega
  · rw [if_neg h]
    by_cases h2 : p ≤ j ∧ j + 1 < i
    · rw [if_pos h2, if_pos (by omega)]
    · rw [if_neg h2, if_neg (by omega)]
/-- the kept ones of the first i, packed -/
def sKeep (t : Nat → Int32) (th : Int32) : Nat → Nat
  | 0 => 0
  | i + 1 => if th < t i then sKeep t th i + 1 else sKeep t th i
theorem sKeep_le (t : Nat → Int32) (th : Int32) : ∀ i, sKeep t th i ≤ i
  | 0 => Nat.le_refl 0
  | i + 1 => by
    have := sKeep_le t th i
    unfold sKeep
    split <;> omega
def sPack (t : Nat → Int32) (th : Int32) (f : Nat → Int32) : Nat → (Nat → Int32)
  | 0 => f
  | i + 1 => if th < t i then upd (sPack t th f i) (sKeep t th i) (f i) else sPack t th f i
theorem sPack_at (t : Nat → Int32) (th : Int32) (f : Nat → Int32) : ∀ i j, i ≤ j → sPack t th f i j = f j
  | 0, _, _ => rfl
  | i + 1, j, hj => by
    have := sKeep_le t th i
    unfold sPack
    split
    · unfold upd
      rw [if_neg (by omega)]
      exact sPack_at t th f i j (by omega)
    · exact sPack_at t th f i j (by omega)
def sB1 (x : Int32) : Int32 := x - ((x.toUInt32 >>> ((1 : Int32).toUInt32 &&& Int32.toUInt32 31)).toInt32 &&& 1431655765)
def sB2 (x : Int32) : Int32 := (x &&& 858993459) + ((x.toUInt32 >>> ((2 : Int32).toUInt32 &&& Int32.toUInt32 31)).toInt32 &&& 858993459)
def sB3 (x : Int32) : Int32 := (x + (x.toUInt32 >>> ((4 : Int32).toUInt32 &&& Int32.toUInt32 31)).toInt32) &&& 252645135
def sB4 (x : Int32) : Int32 := x + (x.toUInt32 >>> ((8 : Int32).toUInt32 &&& Int32.toUInt32 31)).toInt32
def sB5 (x : Int32) : Int32 := x + (x.toUInt32 >>> ((16 : Int32).toUInt32 &&& Int32.toUInt32 31)).toInt32
def sBits (x : Int32) : Int32 := sB5 (sB4 (sB3 (sB2 (sB1 x)))) &&& 63
def sWr (nm : Nat → Int32) (p0 p1 p2 : Int32) (p3 : Bool) : Nat → Int32 := upd (upd (upd (upd (va_cpy nm nm 0 4 28) 0 p0) 1 p1) 2 p2) 3 (bI (p3 = true))
def sNight (kn : Nat) (nm : Nat → Int32) (j w : Nat) : Int32 := if j < kn then nm (4 * j + w) else -99999
theorem sAny_of {h : Nat → Int32} {x : Int32} : ∀ {n k : Nat}, k < n → h k = x → sAny h x n = true
  | 0, _, h1, _ => absurd h1 (Nat.not_lt_zero _)
  | n + 1, k, h1, h2 => by
    unfold sAny
    rcases Nat.lt_or_ge k n with q | q
    · rw [sAny_of q h2]; rfl
    · rw [show k = n by omega] at h2
      rw [decide_eq_true h2]; simp
def sIns (f : Nat → Int32) (n k : Nat) (x : Int32) : Nat → Int32 := upd (sUp f n k) k x
theorem sUp_p {f : Nat → Int32} {n k : Nat} (hk : 0 < k) : sUp f n k (k - 1) = f (k - 1) := by
  unfold sUp
  rw [if_neg (by omega)]
theorem sUp_d {f : Nat → Int32} {n k : Nat} (hk : 0 < k) (hn : k ≤ n) : upd (sUp f n k) k (f (k - 1)) = sUp f n (k - 1) := by
  obtain ⟨j, rfl⟩ : ∃ j, k = j + 1 := ⟨k - 1, by omega⟩
  exact sUp_s hn
theorem sPos_y {h : Nat → Int32} {x : Int32} {k : Nat} (hk : 0 < k) (hx : x < h (k - 1)) : sPos h x k = sPos h x (k - 1) := by
  obtain ⟨j, rfl⟩ : ∃ j, k = j + 1 := ⟨k - 1, by omega⟩
  exact if_pos hx
theorem sPos_n {h : Nat → Int32} {x : Int32} {k : Nat} (hx : h (k - 1) ≤ x) : sPos h x k = k := by
  cases k with
  | zero => rfl
  | succ j => exact if_neg (not_lt_of_le32 hx)
theorem sKeep_y {t : Nat → Int32} {th : Int32} {i : Nat} (h : th < t i) : sKeep t th (i + 1) = sKeep t th i + 1 := if_pos h
theorem sKeep_n {t : Nat → Int32} {th : Int32} {i : Nat} (h : t i ≤ th) : sKeep t th (i + 1) = sKeep t th i := if_neg (not_lt_of_le32 h)
theorem sPack_y {t : Nat → Int32} {th : Int32} {f : Nat → Int32} {i : Nat} (h : th < t i) : sPack t th f (i + 1) = upd (sPack t th f i) (sKeep t th i) (f i) := if_pos h
theorem sPack_n {t : Nat → Int32} {th : Int32} {f : Nat → Int32} {i : Nat} (h : t i ≤ th) : sPack t th f (i + 1) = sPack t th f i := if_neg (not_lt_of_le32 h)
theorem sMask_lt (h t g : Nat → Int32) (hz : Int32) : ∀ k, sMask h t g hz k < 2 ^ k
  | 0 => Nat.zero_lt_one
  | k + 1 => by
    have := sMask_lt h t g hz k
    unfold sMask
    have e : 2 ^ (k + 1) = 2 ^ k + 2 ^ k := by rw [Nat.pow_succ]; omega
    split <;> omega
theorem sMask_or1 : ∀ k : Nat, k < 6 → ∀ m : Nat, m < 2 ^ k → (nI m ||| ((1 : Int32) <<< (nI k &&& 31))) = nI (m + 2 ^ k) := by decide +kernel
theorem sMask_or (h t g : Nat → Int32) (hz : Int32) {k : Nat} (hk : k < 6) : (nI (sMask h t g hz k) ||| ((1 : Int32) <<< (nI k &&& 31))) = nI (sMask h t g hz k + 2 ^ k) := sMask_or1 k hk _ (sMask_lt h t g hz k)
theorem sMask_y {h t g : Nat → Int32} {hz : Int32} {k : Nat} (c : g 2 ≤ sBri (sHaze (sGo h t hz k) hz (h k - sLow h k)) (t k)) : sMask h t g hz (k + 1) = sMask h t g hz k + 2 ^ k := by
  show sMask h t g hz k + (if sSeen h t g hz k = true then 2 ^ k else 0) = _
  rw [if_pos (show sSeen h t g hz k = true from decide_eq_true (p := g 2 ≤ sBr h t hz k) c)]
theorem sMask_n {h t g : Nat → Int32} {hz : Int32} {k : Nat} (c : sBri (sHaze (sGo h t hz k) hz (h k - sLow h k)) (t k) < g 2) : sMask h t g hz (k + 1) = sMask h t g hz k := by
  show sMask h t g hz k + (if sSeen h t g hz k = true then 2 ^ k else 0) = _
  rw [if_neg (show ¬ sSeen h t g hz k = true from fun q => Int32.not_le.mpr c (of_decide_eq_true (p := g 2 ≤ sBr h t hz k) q)), Nat.add_zero]
theorem lc_lt {x y : Int64} : ¬ 0 ≤ lg_cmp x y ↔ x < y := by
  rw [lg_cmp_ge]
  exact Int64.not_le
