/-! the model's row of numbers, by its regions -/
def mSt (n : Nat) (o h t s g : Nat → Int32) (kn : Nat) (lo lf : Int32) (nm : Nat → Int32) : Nat → Int32 := fun k =>
  if k < 4 then g k else if k < 6 then s (k - 4) else if k < 8 then o (k - 6) else if k = 8 then nI n else if k = 9 then nI kn else if k = 10 then lo else if k = 11 then lf
  else if k < 18 then h (k - 12) else if k < 24 then t (k - 18) else nm (k - 24)
section MST
variable {n kn k : Nat} {o h t s g nm : Nat → Int32} {lo lf x : Int32}
theorem mSt_g (hk : k < 4) : mSt n o h t s g kn lo lf nm k = g k := if_pos hk
theorem mSt_s (hk : k < 2) : mSt n o h t s g kn lo lf nm (4 + k) = s k := by
  unfold mSt; rw [if_neg (by omega), if_pos (by omega)]; congr 1; omega
theorem mSt_o (hk : k < 2) : mSt n o h t s g kn lo lf nm (6 + k) = o k := by
  unfold mSt; rw [if_neg (by omega), if_neg (by omega), if_pos (by omega)]; congr 1; omega
theorem mSt_8 : mSt n o h t s g kn lo lf nm 8 = nI n := rfl
theorem mSt_9 : mSt n o h t s g kn lo lf nm 9 = nI kn := rfl
theorem mSt_10 : mSt n o h t s g kn lo lf nm 10 = lo := rfl
theorem mSt_11 : mSt n o h t s g kn lo lf nm 11 = lf := rfl
theorem mSt_h (hk : k < 6) : mSt n o h t s g kn lo lf nm (12 + k) = h k := by
  unfold mSt
  rw [if_neg (by omega), if_neg (by omega), if_neg (by omega), if_neg (by omega), if_neg (by omega), if_neg (by omega), if_neg (by omega), if_pos (by omega)]; congr 1; omega
theorem mSt_t (hk : k < 6) : mSt n o h t s g kn lo lf nm (18 + k) = t k := by
  unfold mSt
  rw [if_neg (by omega), if_neg (by omega), if_neg (by omega), if_neg (by omega), if_neg (by omega), if_neg (by omega), if_neg (by omega), if_neg (by omega), if_pos (by omega)]; congr 1; omega
theorem mSt_m : mSt n o h t s g kn lo lf nm (24 + k) = nm k := by
  unfold mSt
  rw [if_neg (by omega), if_neg (by omega), if_neg (by omega), if_neg (by omega), if_neg (by omega), if_neg (by omega), if_neg (by omega), if_neg (by omega), if_neg (by omega)]; congr 1; omega
theorem mSt_wg (hk : k < 4) : upd (mSt n o h t s g kn lo lf nm) k x = mSt n o h t s (upd g k x) kn lo lf nm := by
  funext i
  by_cases e : i = k
  · subst e; simp [upd, mSt, hk]
  · by_cases i4 : i < 4
    · simp [upd, mSt, e, i4]
    · simp [upd, mSt, e, i4]
theorem mSt_ws (hk : k < 2) : upd (mSt n o h t s g kn lo lf nm) (4 + k) x = mSt n o h t (upd s k x) g kn lo lf nm := by
  funext i
  by_cases e : i = 4 + k
  · subst e
    show (if 4 + k = 4 + k then x else _) = _
    rw [if_pos rfl, mSt_s hk]; simp [upd]
  · show (if i = 4 + k then x else _) = _
    rw [if_neg e]
    unfold mSt
    by_cases i4 : i < 4
    · rw [if_pos i4, if_pos i4]
    · rw [if_neg i4, if_neg i4]
      by_cases i6 : i < 6
      · rw [if_pos i6, if_pos i6]; simp [upd, show ¬ i - 4 = k by omega]
      · rw [if_neg i6, if_neg i6]
theorem mSt_wo (hk : k < 2) : upd (mSt n o h t s g kn lo lf nm) (6 + k) x = mSt n (upd o k x) h t s g kn lo lf nm := by
  funext i
  by_cases e : i = 6 + k
  · subst e
    show (if 6 + k = 6 + k then x else _) = _
    rw [if_pos rfl, mSt_o hk]; simp [upd]
  · show (if i = 6 + k then x else _) = _
    rw [if_neg e]
    unfold mSt
    by_cases i8 : 6 ≤ i ∧ i < 8
    · simp [upd, show ¬ i < 4 by omega, show ¬ i < 6 by omega, show i < 8 by omega, show ¬ i - 6 = k by omega]
    · by_cases i4 : i < 4
      · rw [if_pos i4, if_pos i4]
      · by_cases i6 : i < 6
        · simp [i4, i6]
        · simp [i4, i6, show ¬ i < 8 by omega]
theorem mSt_w8 (y : Nat) : upd (mSt n o h t s g kn lo lf nm) 8 (nI y) = mSt y o h t s g kn lo lf nm := by
  funext i
  by_cases e : i = 8
  · subst e; rfl
  · simp [upd, mSt, e]
theorem mSt_w9 (y : Nat) : upd (mSt n o h t s g kn lo lf nm) 9 (nI y) = mSt n o h t s g y lo lf nm := by
  funext i
  by_cases e : i = 9
  · subst e; rfl
  · simp [upd, mSt, e]
theorem mSt_w10 : upd (mSt n o h t s g kn lo lf nm) 10 x = mSt n o h t s g kn x lf nm := by
  funext i
  by_cases e : i = 10
  · subst e; rfl
  · simp [upd, mSt, e]
theorem mSt_w11 : upd (mSt n o h t s g kn lo lf nm) 11 x = mSt n o h t s g kn lo x nm := by
  funext i
  by_cases e : i = 11
  · subst e; rfl
  · simp [upd, mSt, e]
theorem mSt_wh (hk : k < 6) : upd (mSt n o h t s g kn lo lf nm) (12 + k) x = mSt n o (upd h k x) t s g kn lo lf nm := by
  funext i
  by_cases e : i = 12 + k
  · subst e
    show (if 12 + k = 12 + k then x else _) = _
    rw [if_pos rfl, mSt_h hk]; simp [upd]
  · show (if i = 12 + k then x else _) = _
    rw [if_neg e]
    by_cases r : 12 ≤ i ∧ i < 18
    · obtain ⟨j, rfl⟩ : ∃ j, i = 12 + j := ⟨i - 12, by omega⟩
      rw [mSt_h (by omega), mSt_h (by omega)]; simp [upd, show ¬ j = k by omega]
    · unfold mSt
      repeat' (split; · first | rfl | omega)
      rfl
theorem mSt_wt (hk : k < 6) : upd (mSt n o h t s g kn lo lf nm) (18 + k) x = mSt n o h (upd t k x) s g kn lo lf nm := by
  funext i
  by_cases e : i = 18 + k
  · subst e
    show (if 18 + k = 18 + k then x else _) = _
    rw [if_pos rfl, mSt_t hk]; simp [upd]
  · show (if i = 18 + k then x else _) = _
    rw [if_neg e]
    by_cases r : 18 ≤ i ∧ i < 24
    · obtain ⟨j, rfl⟩ : ∃ j, i = 18 + j := ⟨i - 18, by omega⟩
      rw [mSt_t (by omega), mSt_t (by omega)]; simp [upd, show ¬ j = k by omega]
    · unfold mSt
      repeat' (split; · first | rfl | omega)
      rfl
theorem mSt_wm : upd (mSt n o h t s g kn lo lf nm) (24 + k) x = mSt n o h t s g kn lo lf (upd nm k x) := by
  funext i
  by_cases e : i = 24 + k
  · subst e
    show (if 24 + k = 24 + k then x else _) = _
    rw [if_pos rfl, mSt_m]; simp [upd]
  · show (if i = 24 + k then x else _) = _
    rw [if_neg e]
    by_cases r : 24 ≤ i
    · obtain ⟨j, rfl⟩ : ∃ j, i = 24 + j := ⟨i - 24, by omega⟩
      rw [mSt_m, mSt_m]; simp [upd, show ¬ j = k by omega]
    · unfold mSt
      repeat' (split; · first | rfl | omega)
      omega
end MST
theorem mSt_self (f : Nat → Int32) {n kn : Nat} (h8 : f 8 = nI n) (h9 : f 9 = nI kn) : mSt n (fun k => f (6 + k)) (fun k => f (12 + k)) (fun k => f (18 + k)) (fun k => f (4 + k)) f kn (f 10) (f 11) (fun k => f (24 + k)) = f := by
  funext i
  unfold mSt
  split
  · rfl
  split
  · show f (4 + (i - 4)) = f i
    congr 1; omega
  split
  · show f (6 + (i - 6)) = f i
    congr 1; omega
  split
  · rename_i e; rw [e, h8]
  split
  · rename_i e; rw [e, h9]
  split
  · rename_i e; rw [e]
  split
  · rename_i e; rw [e]
  split
  · show f (12 + (i - 12)) = f i
    congr 1; omega
  split
  · show f (18 + (i - 18)) = f i
    congr 1; omega
  · show f (24 + (i - 24)) = f i
    congr 1; omega
def mSh (sv : Nat → Int32) (k : Nat) : Nat → Int32 := fun i => if i < k then sv (i + 56) else sv i
def mPut (b st : Nat → Int32) (q k : Nat) : Nat → Int32 := fun i => if q * 56 ≤ i ∧ i < q * 56 + k then st (i - q * 56) else b i
def mGet (st sv : Nat → Int32) (q k : Nat) : Nat → Int32 := fun i => if i < k then sv (q * 56 + i) else st i
def mSave (sv st : Nat → Int32) (sm : Nat) : Nat → Int32 := mPut (if sm = 6 then mSh sv 280 else sv) st (min sm 5) 56
theorem mSh_at (sv : Nat → Int32) (k : Nat) : mSh sv k (k + 56) = sv (k + 56) := by unfold mSh; rw [if_neg (by omega)]
theorem mSh_s (sv : Nat → Int32) (k : Nat) : upd (mSh sv k) k (sv (k + 56)) = mSh sv (k + 1) := by
  funext i
  unfold upd mSh
  by_cases e : i = k
  · rw [if_pos e, if_pos (by omega), e]
  · rw [if_neg e]
    by_cases l : i < k
    · rw [if_pos l, if_pos (by omega)]
    · rw [if_neg l, if_neg (by omega)]
theorem mSh_0 (sv : Nat → Int32) : mSh sv 0 = sv := by funext i; unfold mSh; rw [if_neg (by omega)]
theorem mPut_s (b st : Nat → Int32) (q k : Nat) : upd (mPut b st q k) (q * 56 + k) (st k) = mPut b st q (k + 1) := by
  funext i
  unfold upd mPut
  by_cases e : i = q * 56 + k
  · rw [if_pos e, if_pos (by omega), e]; congr 1; omega
  · rw [if_neg e]
    by_cases l : q * 56 ≤ i ∧ i < q * 56 + k
    · rw [if_pos l, if_pos (by omega)]
    · rw [if_neg l, if_neg (by omega)]
theorem mPut_0 (b st : Nat → Int32) (q : Nat) : mPut b st q 0 = b := by funext i; unfold mPut; rw [if_neg (by omega)]
theorem mGet_s (st sv : Nat → Int32) (q k : Nat) : upd (mGet st sv q k) k (sv (q * 56 + k)) = mGet st sv q (k + 1) := by
  funext i
  unfold upd mGet
  by_cases e : i = k
  · rw [if_pos e, if_pos (by omega), e]
  · rw [if_neg e]
    by_cases l : i < k
    · rw [if_pos l, if_pos (by omega)]
    · rw [if_neg l, if_neg (by omega)]
theorem mGet_0 (st sv : Nat → Int32) (q : Nat) : mGet st sv q 0 = st := by funext i; unfold mGet; rw [if_neg (by omega)]
theorem mAbs_sz (x : Int32) : (x < 0 → -x = mAbs x) ∧ (¬ x < 0 → x = mAbs x) := by
  constructor
  · intro h
    unfold mAbs
    rw [if_neg (Int32.not_le.mpr h), Int32.zero_sub]
  · intro h
    unfold mAbs
    rw [if_pos (Int32.not_lt.mp h)]
def mLit (o : Nat → Int32) : Int32 := o 0 + 2 * o 1
def mBin (o : Nat → Int32) : Prop := (o 0 = 0 ∨ o 0 = 1) ∧ (o 1 = 0 ∨ o 1 = 1)
theorem mLit_3 {o : Nat → Int32} (ho : mBin o) : mLit o = 3 ↔ o 0 = 1 ∧ o 1 = 1 := by
  unfold mLit
  obtain ⟨h0 | h0, h1 | h1⟩ := ho <;> rw [h0, h1] <;> decide
/-- the strengths of both beams are laid, with the haze hz -/
def mLaid (n : Nat) (h t : Nat → Int32) (hz : Int32) (co go : Nat → Int32) : Prop := ∀ j p : Nat, j < 2 → p < n → co (6 * j + p) = sCo h t hz p ∧ go (6 * j + p) = sGo h t hz (p + 1)
/-- so far: light j up to layer k, the lights before whole -/
def mLaidTo (n : Nat) (h t : Nat → Int32) (hz : Int32) (co go : Nat → Int32) (l k : Nat) : Prop := ∀ j p : Nat, (j < l ∧ p < n) ∨ (j = l ∧ p < k) → co (6 * j + p) = sCo h t hz p ∧ go (6 * j + p) = sGo h t hz (p + 1)
theorem mLaidTo_s {n : Nat} {h t : Nat → Int32} {hz : Int32} {co go : Nat → Int32} {l k : Nat} (hn : n ≤ 6) (hk : k < n) (H : mLaidTo n h t hz co go l k) : mLaidTo n h t hz (upd co (6 * l + k) (sCo h t hz k)) (upd go (6 * l + k) (sGo h t hz (k + 1))) l (k + 1) := by
  intro j p hp
  by_cases e : j = l ∧ p = k
  · obtain ⟨rfl, rfl⟩ := e
    exact ⟨pk_us, pk_us⟩
  · have hne : 6 * j + p ≠ 6 * l + k := by
      rcases hp with ⟨a, b⟩ | ⟨a, b⟩ <;> omega
    rw [pk_un hne, pk_un hne]
    exact H j p (by omega)
theorem mLaidTo_n {n : Nat} {h t : Nat → Int32} {hz : Int32} {co go : Nat → Int32} {l : Nat} (H : mLaidTo n h t hz co go l n) : mLaidTo n h t hz co go (l + 1) 0 := fun j p hp => H j p (by omega)
theorem mHaze {st hz way : Int32} {y : Int32} (e : (st.toInt64 * hz.toInt64 * way.toInt64 / 10000000 < st.toInt64 ∧ y = (st.toInt64 * hz.toInt64 * way.toInt64 / 10000000).toInt32) ∨ (¬ st.toInt64 * hz.toInt64 * way.toInt64 / 10000000 < st.toInt64 ∧ y = st)) : st - y = sHaze st hz way := by
  unfold sHaze
  rcases e with ⟨a, rfl⟩ | ⟨a, rfl⟩
  · rw [if_pos a]
  · rw [if_neg a, Int32.sub_self]
theorem i32_sub_sub (x y : Int32) : x - (x - y) = y := by
  rw [Int32.sub_eq_add_neg, Int32.neg_sub, Int32.sub_eq_add_neg, Int32.add_comm y, ← Int32.add_assoc, Int32.add_right_neg, Int32.zero_add]
def updN (f : Nat → Nat) (k : Nat) (x : Nat) : Nat → Nat := fun j => if j = k then x else f j
theorem updN_eq (f : Nat → Nat) (k x : Nat) : upd (fun j => nI (f j)) k (nI x) = fun j => nI (updN f k x j) := by
  funext j
  unfold upd updN
  split <;> rfl
theorem wM_st {a : Nat → Nat} {cy : Nat → ClassId} {th : Int32} {sm ln pt sg : Nat} {fi se : Int32} {st st2 sv sl ik : Nat → Int32} {bf : Nat → Nat} {co go fo : Nat → Int32} (h : st = st2) : wM a cy th sm ln pt sg fi se st sv sl ik bf co go fo = wM a cy th sm ln pt sg fi se st2 sv sl ik bf co go fo := by rw [h]
theorem wM_bf {a : Nat → Nat} {cy : Nat → ClassId} {th : Int32} {sm ln pt sg : Nat} {fi se : Int32} {st sv sl ik : Nat → Int32} {bf : Nat → Nat} {co go fo : Nat → Int32} {k x : Nat} : (wM a cy th sm ln pt sg fi se st sv sl ik bf co go fo).set 5 (a 5, .inl (cy 0, 60, .inl (upd (fun j => nI (bf j)) k (nI x)))) = wM a cy th sm ln pt sg fi se st sv sl ik (updN bf k x) co go fo := by
  rw [updN_eq]; rfl
theorem mWithin {x : Int32} {n : Nat} (hn : n ≤ 6) : (0 ≤ x ∧ x ≤ nI n - 1) ↔ (0 ≤ x ∧ x < nI n) := by
  rcases Nat.eq_zero_or_pos n with rfl | h
  · constructor
    · rintro ⟨a, b⟩
      exact absurd (Int32.le_trans a b) (by decide)
    · rintro ⟨a, b⟩
      exact absurd b (Int32.not_lt.mpr a)
  · rw [show nI n - 1 = nI (n - 1) from pk_sub (a := n) (b := 1) h]
    have e1 : (nI (n - 1)).toInt = (n - 1 : Nat) := nI_toInt (by omega)
    have e2 : (nI n).toInt = n := nI_toInt (by omega)
    rw [Int32.le_iff_toInt_le (x := x), Int32.lt_iff_toInt_lt (x := x), e1, e2]
    constructor
    · rintro ⟨a, b⟩
      exact ⟨a, by omega⟩
    · rintro ⟨a, b⟩
      exact ⟨a, by omega⟩
theorem i32_bnd {x : Int32} {a b : Int32} {u v : Int} (ha : a.toInt = u) (hb : b.toInt = v) (h : a ≤ x ∧ x ≤ b) : u ≤ x.toInt ∧ x.toInt ≤ v := by
  rw [Int32.le_iff_toInt_le, Int32.le_iff_toInt_le, ha, hb] at h
  exact h
/-- a slope is from -30 to 30 -/
def sOk (x : Int32) : Prop := -30 ≤ x.toInt ∧ x.toInt ≤ 30
theorem sOk_sub {x y : Int32} (hx : sOk x) (hy : sOk y) : (x - y).toInt = x.toInt - y.toInt := by
  unfold sOk at hx hy
  rw [Int32.toInt_sub]
  exact Int.bmod_eq_of_le (by omega) (by omega)
theorem mMeet_c {x y : Int32} (hx : sOk x) (hy : sOk y) : x - y ≤ 0 ↔ ¬ y < x := by
  rw [Int32.le_iff_toInt_le, Int32.lt_iff_toInt_lt, sOk_sub hx hy, Int32.toInt_zero]
  omega
/-- the model's closest: index of the layer, or -99999 -/
def mC (b : Nat → Bool) (d : Nat → Int32) : Nat → Int32
  | 0 => -99999
  | k + 1 => if b k = true ∧ (mC b d k = -99999 ∨ mAbs (d k) < mAbs (d (mC b d k).toNatClampNeg)) then nI k else mC b d k
theorem mC_ex (b : Nat → Bool) (d : Nat → Int32) : ∀ n, mC b d n = -99999 ∨ ∃ p, p < n ∧ mC b d n = nI p
  | 0 => Or.inl rfl
  | k + 1 => by
    unfold mC
    split
    · exact Or.inr ⟨k, Nat.lt_succ_self k, rfl⟩
    · rcases mC_ex b d k with e | ⟨p, hp, e⟩
      · exact Or.inl e
      · exact Or.inr ⟨p, Nat.lt_succ_of_lt hp, e⟩
theorem nI_ne_none {p : Nat} (hp : p < 1000) : ¬ nI p = -99999 := by
  intro e
  have := congrArg Int32.toInt e
  rw [nI_toInt (by omega)] at this
  have h2 : (-99999 : Int32).toInt = -99999 := by decide +kernel
  omega
theorem mC_n1 {b : Nat → Bool} {d : Nat → Int32} {k : Nat} (c : ¬ b k = true) : mC b d (k + 1) = mC b d k := if_neg (fun q => c q.1)
theorem mC_y1 {b : Nat → Bool} {d : Nat → Int32} {k : Nat} (c : b k = true) (e : mC b d k = -99999) : mC b d (k + 1) = nI k := if_pos ⟨c, Or.inl e⟩
theorem mC_y2 {b : Nat → Bool} {d : Nat → Int32} {k p : Nat} (c : b k = true) (e : mC b d k = nI p) (hp : p < 1000) (l : mAbs (d k) < mAbs (d p)) : mC b d (k + 1) = nI k := if_pos ⟨c, Or.inr (by rw [e, nI_clamp (by omega)]; exact l)⟩
theorem mC_n2 {b : Nat → Bool} {d : Nat → Int32} {k p : Nat} (e : mC b d k = nI p) (hp : p < 1000) (l : mAbs (d p) ≤ mAbs (d k)) : mC b d (k + 1) = mC b d k := if_neg (fun q => by
  rcases q.2 with z | z
  · rw [e] at z; exact nI_ne_none hp z
  · rw [e, nI_clamp (by omega)] at z; exact not_lt_of_le32 l z)
def mNear (h : Nat → Int32) (x : Int32) (p i : Nat) : Bool := decide (mAbs (h i - x) < mAbs (h p - x))
theorem sAnyL_t {b : Nat → Bool} {k : Nat} (h1 : sAnyL b k = true) : sAnyL b (k + 1) = true := by
  unfold sAnyL; rw [h1]; rfl
theorem sAnyL_y {b : Nat → Bool} {k : Nat} (h2 : b k = true) : sAnyL b (k + 1) = true := by
  unfold sAnyL; rw [h2]; simp
def mWhy (n : Nat) (h : Nat → Int32) (x y : Int32) : Int32 := if ¬ ((50 ≤ x ∧ x ≤ 3000) ∧ (1 ≤ y ∧ y ≤ 100)) then 1 else if n = 6 ∨ sAny h x n = true then 2 else 0
theorem mSlot {j : Nat} (hj : j < 2) : 0 ≤ nI j ∧ nI j ≤ 1 := by
  rcases (show j = 0 ∨ j = 1 by omega) with rfl | rfl <;> decide
theorem mPair_1 {o h t g : Nat → Int32} {p : Nat} (ho : mBin o) (q : sPair (mLit o) h t g p = true) : o 0 = 1 ∧ sSeen h t g (g 1) p = true := by
  unfold sPair at q
  obtain ⟨a, b⟩ := Bool.and_eq_true_iff.mp q
  exact ⟨((mLit_3 ho).mp (of_decide_eq_true a)).1, b⟩
theorem mPair_2 {o h t g : Nat → Int32} {p : Nat} (ho : mBin o) (q : sPair (mLit o) h t g p = true) : o 1 = 1 ∧ sSeen h t g (g 1) p = true := by
  unfold sPair at q
  obtain ⟨a, b⟩ := Bool.and_eq_true_iff.mp q
  exact ⟨((mLit_3 ho).mp (of_decide_eq_true a)).2, b⟩
theorem mPair_i {o h t g : Nat → Int32} {p : Nat} (ho : mBin o) (a : o 0 = 1 ∧ sSeen h t g (g 1) p = true) (b : o 1 = 1 ∧ sSeen h t g (g 1) p = true) : sPair (mLit o) h t g p = true := by
  unfold sPair
  rw [decide_eq_true ((mLit_3 ho).mpr ⟨a.1, b.1⟩), a.2]; rfl
/-- the spots seen, as the model adds them -/
def mSpots (o h t g : Nat → Int32) (z : Int32) : Nat → Int32
  | 0 => 0
  | k + 1 => mSpots o h t g z k + (bI (o 0 = 1 ∧ sSeen h t g z k = true) + bI (o 1 = 1 ∧ sSeen h t g z k = true))
