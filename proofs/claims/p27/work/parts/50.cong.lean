/-! what the specs look at: heights and thicknesses below n, two slopes, four settings -/
section CONG
variable {n : Nat} {h h' t t' s s' g g' : Nat → Int32} {lit : Int32}
theorem cg_Any {x : Int32} : ∀ {n : Nat}, (∀ i, i < n → h i = h' i) → sAny h x n = sAny h' x n
  | 0, _ => rfl
  | n + 1, H => by unfold sAny; rw [cg_Any (fun i hi => H i (by omega)), H n (by omega)]
theorem cg_Pos {x : Int32} : ∀ {n : Nat}, (∀ i, i < n → h i = h' i) → sPos h x n = sPos h' x n
  | 0, _ => rfl
  | n + 1, H => by unfold sPos; rw [cg_Pos (fun i hi => H i (by omega)), H n (by omega)]
theorem cg_Keep {x : Int32} : ∀ {n : Nat}, (∀ i, i < n → t i = t' i) → sKeep t x n = sKeep t' x n
  | 0, _ => rfl
  | n + 1, H => by unfold sKeep; rw [cg_Keep (fun i hi => H i (by omega)), H n (by omega)]
theorem cg_Low {k : Nat} (H : ∀ i, i < n → h i = h' i) (hk : k ≤ n) : sLow h k = sLow h' k := by
  cases k with
  | zero => rfl
  | succ k => exact H k (by omega)
theorem cg_Go {z : Int32} (H : ∀ i, i < n → h i = h' i) (T : ∀ i, i < n → t i = t' i) : ∀ {k : Nat}, k ≤ n → sGo h t z k = sGo h' t' z k
  | 0, _ => rfl
  | k + 1, hk => by unfold sGo; rw [cg_Go H T (by omega), H k (by omega), T k (by omega), cg_Low H (by omega)]
theorem cg_Co {z : Int32} {p : Nat} (H : ∀ i, i < n → h i = h' i) (T : ∀ i, i < n → t i = t' i) (hp : p < n) : sCo h t z p = sCo h' t' z p := by
  unfold sCo; rw [cg_Go H T (by omega), H p hp, cg_Low H (by omega)]
theorem cg_Br {z : Int32} {p : Nat} (H : ∀ i, i < n → h i = h' i) (T : ∀ i, i < n → t i = t' i) (hp : p < n) : sBr h t z p = sBr h' t' z p := by
  unfold sBr; rw [cg_Co H T hp, T p hp]
theorem cg_Seen {z : Int32} {p : Nat} (H : ∀ i, i < n → h i = h' i) (T : ∀ i, i < n → t i = t' i) (G : ∀ i, i < 4 → g i = g' i) (hp : p < n) : sSeen h t g z p = sSeen h' t' g' z p := by
  unfold sSeen; rw [cg_Br H T hp, G 2 (by decide)]
theorem cg_Mask {z : Int32} (H : ∀ i, i < n → h i = h' i) (T : ∀ i, i < n → t i = t' i) (G : ∀ i, i < 4 → g i = g' i) : ∀ {k : Nat}, k ≤ n → sMask h t g z k = sMask h' t' g' z k
  | 0, _ => rfl
  | k + 1, hk => by unfold sMask; rw [cg_Mask H T G (by omega), cg_Seen H T G (by omega)]
theorem cg_Pm (H : ∀ i, i < n → h i = h' i) (T : ∀ i, i < n → t i = t' i) (G : ∀ i, i < 4 → g i = g' i) : sPm lit h t g n = sPm lit h' t' g' n := by
  unfold sPm; rw [cg_Mask H T G (Nat.le_refl _), G 1 (by decide)]
theorem cg_Pair {p : Nat} (H : ∀ i, i < n → h i = h' i) (T : ∀ i, i < n → t i = t' i) (G : ∀ i, i < 4 → g i = g' i) (hp : p < n) : sPair lit h t g p = sPair lit h' t' g' p := by
  unfold sPair; rw [cg_Seen H T G hp, G 1 (by decide)]
theorem cg_Place (G : ∀ i, i < 4 → g i = g' i) (a b c : Int32) : sPlace g a b c = sPlace g' a b c := by
  unfold sPlace; rw [G 0 (by decide)]
theorem cg_Dist {p : Nat} {x y : Int32} (H : ∀ i, i < n → h i = h' i) (G : ∀ i, i < 4 → g i = g' i) (hp : p < n) : sDist h g p x y = sDist h' g' p x y := by
  unfold sDist; rw [cg_Place G, cg_Place G, H p hp]
theorem cg_Meet {x y : Int32} (G : ∀ i, i < 4 → g i = g' i) : sMeet g x y = sMeet g' x y := by
  unfold sMeet; rw [G 0 (by decide)]
theorem cg_Close {p : Nat} (H : ∀ i, i < n → h i = h' i) (T : ∀ i, i < n → t i = t' i) (S : ∀ i, i < 2 → s i = s' i) (G : ∀ i, i < 4 → g i = g' i) (hp : p < n) : sClose lit h t s g p = sClose lit h' t' s' g' p := by
  unfold sClose; rw [cg_Pair H T G hp, cg_Dist H G hp, S 0 (by decide), S 1 (by decide), G 3 (by decide)]
theorem cg_Cnt {b c : Nat → Bool} : ∀ {m : Nat}, (∀ k, k < m → b k = c k) → sCnt b m = sCnt c m
  | 0, _ => rfl
  | m + 1, q => by
    show sCnt b m + (if b m = true then 1 else 0) = sCnt c m + (if c m = true then 1 else 0)
    rw [cg_Cnt (fun k hk => q k (by omega)), q m (by omega)]
theorem cg_AnyL {b c : Nat → Bool} : ∀ {m : Nat}, (∀ k, k < m → b k = c k) → sAnyL b m = sAnyL c m
  | 0, _ => rfl
  | m + 1, q => by unfold sAnyL; rw [cg_AnyL (fun k hk => q k (by omega)), q m (by omega)]
theorem cg_Lo {x y : Int32} (H : ∀ i, i < n → h i = h' i) (T : ∀ i, i < n → t i = t' i) (G : ∀ i, i < 4 → g i = g' i) : ∀ {k : Nat}, k ≤ n → sLo h t g x y k = sLo h' t' g' x y k
  | 0, _ => by unfold sLo; rw [G 3 (by decide)]
  | k + 1, hk => by unfold sLo; rw [cg_Lo H T G (by omega), cg_Dist H G (by omega), cg_Seen H T G (by omega), G 1 (by decide)]
theorem cg_Rl {x y : Int32} (H : ∀ i, i < n → h i = h' i) (T : ∀ i, i < n → t i = t' i) (G : ∀ i, i < 4 → g i = g' i) : sRl lit h t g n x y = sRl lit h' t' g' n x y := by
  unfold sRl; rw [cg_Lo H T G (Nat.le_refl _)]
theorem cg_False {x : Int32} {p : Nat} (H : ∀ i, i < n → h i = h' i) (hp : p < n) : sFalse h n x p = sFalse h' n x p := by
  unfold sFalse
  exact cg_AnyL (fun k hk => by unfold sNear; rw [H k hk, H p hp])
theorem cg_Lg (hn : n ≤ 6) (H : ∀ i, i < n → h i = h' i) (T : ∀ i, i < n → t i = t' i) (S : ∀ i, i < 2 → s i = s' i) (G : ∀ i, i < 4 → g i = g' i) : sLg lit h t s g n = sLg lit h' t' s' g' n := by
  have e : sRl lit h t g n (s 0) (s 1) = sRl lit h' t' g' n (s' 0) (s' 1) := by rw [cg_Rl H T G, S 0 (by decide), S 1 (by decide)]
  by_cases c : sRl lit h t g n (s 0) (s 1) = -1
  · rw [sLg_no c, sLg_no (e ▸ c)]
  · obtain ⟨p, hp, ep⟩ := sRl_ex c
    rw [sLg_ok ep (by omega), sLg_ok (e ▸ ep) (by omega), cg_Meet G, S 0 (by decide), S 1 (by decide), H p hp, cg_False H hp]
theorem cg_Rn {w : Int32} (hn : n ≤ 6) (H : ∀ i, i < n → h i = h' i) (T : ∀ i, i < n → t i = t' i) (S : ∀ i, i < 2 → s i = s' i) (G : ∀ i, i < 4 → g i = g' i) : sRn lit h t s g n w = sRn lit h' t' s' g' n w := by
  have e : sRl lit h t g n (s 0) (s 1) = sRl lit h' t' g' n (s' 0) (s' 1) := by rw [cg_Rl H T G, S 0 (by decide), S 1 (by decide)]
  by_cases c : sRl lit h t g n (s 0) (s 1) = -1
  · rw [sRn_no c, sRn_no (e ▸ c)]
  · obtain ⟨p, hp, ep⟩ := sRl_ex c
    rw [sRn_ok ep (by omega), sRn_ok (e ▸ ep) (by omega), cg_Meet G, S 0 (by decide), S 1 (by decide), H p hp, cg_False H hp]
theorem cg_Far {j p : Nat} (H : ∀ i, i < n → h i = h' i) (S : ∀ i, i < 2 → s i = s' i) (G : ∀ i, i < 4 → g i = g' i) (hp : p < n) (hj : j < 2) : sFar g h s j p = sFar g' h' s' j p := by
  funext z; unfold sFar; rw [cg_Place G, cg_Place G, H p hp, S (1 - j) (by omega)]
theorem cg_Try {j p : Nat} (H : ∀ i, i < n → h i = h' i) (S : ∀ i, i < 2 → s i = s' i) (G : ∀ i, i < 4 → g i = g' i) (hp : p < n) (hj : j < 2) : sTry g h s j p = sTry g' h' s' j p := by
  unfold sTry; rw [cg_Far H S G hp hj]
theorem cg_Cmp {j p : Nat} (H : ∀ i, i < n → h i = h' i) (S : ∀ i, i < 2 → s i = s' i) (G : ∀ i, i < 4 → g i = g' i) (hp : p < n) (hj : j < 2) : sCmp g h s j p = sCmp g' h' s' j p := by
  have e : sCmpR g h s j p = sCmpR g' h' s' j p := by unfold sCmpR; rw [cg_Place G, cg_Place G, H p hp, S (1 - j) (by omega)]
  unfold sCmp; rw [cg_Far H S G hp hj, e]
theorem cg_With {j : Nat} {b : Bool} {z : Int} (hn : n ≤ 6) (H : ∀ i, i < n → h i = h' i) (T : ∀ i, i < n → t i = t' i) (S : ∀ i, i < 2 → s i = s' i) (G : ∀ i, i < 4 → g i = g' i) : sWith lit h t s g n j b z = sWith lit h' t' s' g' n j b z := by
  have ex : sX s j (iI z) = sX s' j (iI z) := by unfold sX; rw [S 0 (by decide)]
  have ey : sY s j (iI z) = sY s' j (iI z) := by unfold sY; rw [S 1 (by decide)]
  unfold sWith
  rw [ex, ey, cg_Rl H T G, cg_Meet G]
  by_cases c : sRl lit h' t' g' n (sX s' j (iI z)) (sY s' j (iI z)) = -1
  · rw [decide_eq_false (fun q => q c), Bool.false_and, Bool.false_and]
  · obtain ⟨p, hp, ep⟩ := sRl_ex c
    rw [ep, nI_clamp (by omega), cg_False H hp]
theorem cg_Out {j : Nat} {b : Bool} (hn : n ≤ 6) (H : ∀ i, i < n → h i = h' i) (T : ∀ i, i < n → t i = t' i) (S : ∀ i, i < 2 → s i = s' i) (G : ∀ i, i < 4 → g i = g' i) : sOut lit h t s g n j b = sOut lit h' t' s' g' n j b := by
  unfold sOut
  rw [show (fun k => sWith lit h t s g n j false (sSl b k)) = (fun k => sWith lit h' t' s' g' n j false (sSl b k)) from funext fun k => cg_With hn H T S G]
theorem cg_Spot {j p : Nat} {w : Int32} (H : ∀ i, i < n → h i = h' i) (T : ∀ i, i < n → t i = t' i) (S : ∀ i, i < 2 → s i = s' i) (G : ∀ i, i < 4 → g i = g' i) (hp : p < n) (hj : j < 2) : sSpot h t s g j p w = sSpot h' t' s' g' j p w := by
  unfold sSpot; rw [cg_Place G, S j hj, H p hp, G 1 (by decide), cg_Br H T hp, cg_Co H T hp, cg_Seen H T G hp]
theorem cg_Ly {p : Nat} {w : Int32} (H : ∀ i, i < n → h i = h' i) (T : ∀ i, i < n → t i = t' i) (S : ∀ i, i < 2 → s i = s' i) (G : ∀ i, i < 4 → g i = g' i) (hp : p < n) : sLy lit h t s g p w = sLy lit h' t' s' g' p w := by
  unfold sLy; rw [H p hp, T p hp, cg_Pair H T G hp, cg_Dist H G hp, S 0 (by decide), S 1 (by decide), cg_Close H T S G hp]
theorem cg_Tc {sm ln kn w : Nat} {lo lf : Int32} (hn : n ≤ 6) (hw : w ≤ 16) (H : ∀ i, i < n → h i = h' i) (T : ∀ i, i < n → t i = t' i) (S : ∀ i, i < 2 → s i = s' i) (G : ∀ i, i < 4 → g i = g' i) : xTc sm ln n lit h t s g kn lo lf w = xTc sm ln n lit h' t' s' g' kn lo lf w := by
  have e : sCnt (sClose lit h t s g) n = sCnt (sClose lit h' t' s' g') n := cg_Cnt (fun k hk => cg_Close H T S G hk)
  have e13 : 13 ≤ w → g (w - 13) = g' (w - 13) := fun q => G _ (by omega)
  unfold xTc
  rw [S 0 (by decide), S 1 (by decide), cg_Meet G, cg_Mask H T G (Nat.le_refl _), G 1 (by decide), cg_Pm H T G, e]
  by_cases q : 13 ≤ w
  · rw [e13 q]
  · rcases (show w = 0 ∨ w = 1 ∨ w = 2 ∨ w = 3 ∨ w = 4 ∨ w = 5 ∨ w = 6 ∨ w = 7 ∨ w = 8 ∨ w = 9 ∨ w = 10 ∨ w = 11 ∨ w = 12 by omega) with rfl | rfl | rfl | rfl | rfl | rfl | rfl | rfl | rfl | rfl | rfl | rfl | rfl <;> rfl
theorem cg_Ins {x : Int32} {k : Nat} (H : ∀ i, i < n → h i = h' i) (hk : k ≤ n) : ∀ i, i < n + 1 → sIns h n k x i = sIns h' n k x i := by
  intro i hi
  unfold sIns upd
  split
  · rfl
  · unfold sUp
    split
    · exact H _ (by omega)
    · exact H _ (by omega)
theorem cg_Dn {p : Nat} (H : ∀ i, i < n → h i = h' i) : ∀ i, i < n - 1 → sDn h p n i = sDn h' p n i := by
  intro i hi
  unfold sDn
  split
  · exact H _ (by omega)
  · exact H _ (by omega)
theorem cg_Pack {x : Int32} (H : ∀ i, i < n → h i = h' i) (T : ∀ i, i < n → t i = t' i) : ∀ {k : Nat}, k ≤ n → ∀ i, i < sKeep t x k → sPack t x h k i = sPack t' x h' k i
  | 0, _, i, hi => absurd hi (Nat.not_lt_zero i)
  | k + 1, hk, i, hi => by
    have ek : sKeep t x k = sKeep t' x k := cg_Keep (fun i hi => T i (by omega))
    unfold sPack
    unfold sKeep at hi
    rw [← T k (by omega)]
    split
    · rename_i c
      rw [if_pos c] at hi
      unfold upd
      rw [← ek]
      split
      · exact H k (by omega)
      · exact cg_Pack H T (by omega) i (by omega)
    · rename_i c
      rw [if_neg c] at hi
      exact cg_Pack H T (by omega) i hi
theorem cg_Wr {nm nm' : Nat → Int32} {p0 p1 p2 : Int32} {b : Bool} (N : ∀ i, i < 32 → nm i = nm' i) : ∀ i, i < 32 → sWr nm p0 p1 p2 b i = sWr nm' p0 p1 p2 b i := by
  intro i hi
  unfold sWr upd va_cpy
  split
  · rfl
  · split
    · rfl
    · split
      · rfl
      · split
        · rfl
        · split
          · exact N _ (by omega)
          · exact N _ hi
end CONG
