/-! the law's arrays, and what its methods compute -/
def fz : Nat → Int32 := fun _ => 0
abbrev qSt (n : Nat) (o s g : Nat → Int32) (kn : Nat) (lo lf : Int32) : Nat → Int32 := mSt n o fz fz s g kn lo lf fz
def wLa (e : Nat → Nat) (cy : Nat → ClassId) (q h t l b r : Nat → Int32) : va_W := [(e 0, .inl (cy 0, 12, .inl q)), (e 1, .inl (cy 0, 6, .inl h)), (e 2, .inl (cy 0, 6, .inl t)), (e 3, .inl (cy 0, 32, .inl l)), (e 4, .inl (cy 0, 12, .inl b)), (e 5, .inl (cy 0, 4, .inl r))]
theorem wLa_q {e : Nat → Nat} {cy : Nat → ClassId} {q q1 q2 h t l b r : Nat → Int32} (hq : q1 = q2) : (wLa e cy q h t l b r).set 0 (e 0, .inl (cy 0, 12, .inl q1)) = wLa e cy q2 h t l b r := by rw [hq]; rfl
theorem wLa_qR {e : Nat → Nat} {cy : Nat → ClassId} {q q1 q2 h t l b r : Nat → Int32} {rest : va_W} (hq : q1 = q2) : (wLa e cy q h t l b r ++ rest).set 0 (e 0, .inl (cy 0, 12, .inl q1)) = wLa e cy q2 h t l b r ++ rest := by rw [hq]; rfl
/-- v's last 31 bits, by m -/
def lowN (v : Int32) (m : Nat) : Nat := (v &&& 2147483647).toNatClampNeg % m
theorem lowN_lt {v : Int32} {m : Nat} (hm : 0 < m) : lowN v m < m := Nat.mod_lt _ hm
theorem and_nn (v : Int32) : 0 ≤ (v &&& 2147483647).toInt := by
  have h : (v &&& 2147483647).toInt = ((v &&& 2147483647).toBitVec).toInt := rfl
  rw [h, Int32.toBitVec_and, BitVec.toInt_and]
  exact Int.le_of_lt_add_one (by
    have := BitVec.toInt_nonneg_of_msb_false (x := v.toBitVec &&& (2147483647 : Int32).toBitVec) (by
      rw [BitVec.msb_and, show (2147483647 : Int32).toBitVec.msb = false by decide +kernel, Bool.and_false])
    rw [BitVec.toInt_and] at this
    omega)
theorem irem_N {a : Int32} {m : Nat} (ha : 0 ≤ a.toInt) (hm : 0 < m) (hm2 : m < 2 ^ 31) : a - a / nI m * nI m = nI (a.toNatClampNeg % m) := by
  obtain ⟨k, hk, rfl⟩ : ∃ k : Nat, k < 2 ^ 31 ∧ a = nI k := by
    refine ⟨a.toInt.toNat, ?_, ?_⟩
    · have := Int32.toInt_lt a; omega
    · apply Int32.toInt_inj.mp
      rw [nI_toInt (by have := Int32.toInt_lt a; omega)]
      omega
  rw [nI_clamp hk]
  apply Int32.toInt_inj.mp
  have hx : (0 : Int) ≤ ((k / m : Nat) : Int) := Int.natCast_nonneg _
  have hx1 : ((k / m : Nat) : Int) ≤ (k : Int) := Int.ofNat_le.mpr (Nat.div_le_self k m)
  have hx2 : (0 : Int) ≤ ((k / m * m : Nat) : Int) := Int.natCast_nonneg _
  have hx3 : ((k / m * m : Nat) : Int) ≤ (k : Int) := Int.ofNat_le.mpr (Nat.div_mul_le_self k m)
  have hd : (nI k / nI m).toInt = ((k / m : Nat) : Int) := by
    rw [Int32.toInt_div, nI_toInt hk, nI_toInt hm2, Int.tdiv_eq_ediv_of_nonneg (by omega)]
    have h1 : k / m ≤ k := Nat.div_le_self k m
    have h2 : ((k : Int) / (m : Int)) = ((k / m : Nat) : Int) := by omega
    rw [h2]
    exact Int.bmod_eq_of_le (by omega) (by omega)
  have hle : k / m * m ≤ k := Nat.div_mul_le_self k m
  have hmul : (nI k / nI m * nI m).toInt = ((k / m * m : Nat) : Int) := by
    rw [Int32.toInt_mul, hd, nI_toInt hm2, ← Int.natCast_mul]
    exact Int.bmod_eq_of_le (by omega) (by omega)
  have hmod : k % m = k - k / m * m := by
    have := Nat.div_add_mod k m
    rw [Nat.mul_comm] at this
    omega
  rw [Int32.toInt_sub, hmul, nI_toInt hk, nI_toInt (by omega), hmod, Int.bmod_eq_of_le (by omega) (by omega)]
  omega
theorem low_eq (v : Int32) {m : Nat} (hm : 0 < m) (hm2 : m < 2 ^ 31) : (v &&& 2147483647) - (v &&& 2147483647) / nI m * nI m = nI (lowN v m) := irem_N (and_nn v) hm hm2
theorem nI_ne9 {m : Nat} (hm : 0 < m) (hm2 : m < 2 ^ 31) : ¬ nI m = 0 := fun q => by
  have := (nI_eq (a := m) (b := 0) hm2 (by decide)).mp q
  omega
theorem lPl {g s h : Nat → Int32} {j p : Nat} (hj : j < 2) : nI j * g 0 + s j * h p / 10 = sPlace g (nI j) (s j) (h p) := by
  unfold sPlace
  rcases (show j = 0 ∨ j = 1 by omega) with rfl | rfl
  · rw [if_pos (by decide), show nI 0 = 0 from rfl, Int32.zero_mul]
  · rw [if_neg (by decide), show nI 1 = 1 from rfl, Int32.one_mul]
/-- the strengths and what is left of them are laid, with the haze z -/
def lB (n : Nat) (h t : Nat → Int32) (z : Int32) (b : Nat → Int32) : Prop := ∀ k, k < n → b (2 * k) = sCo h t z k ∧ b (2 * k + 1) = sCo h t z k - sBr h t z k
def lBm (h t : Nat → Int32) (z : Int32) (b : Nat → Int32) : Nat → (Nat → Int32)
  | 0 => b
  | k + 1 => upd (upd (lBm h t z b k) (2 * k) (sCo h t z k)) (2 * k + 1) (sCo h t z k - sBr h t z k)
theorem lBm_ok (h t : Nat → Int32) (z : Int32) (b : Nat → Int32) : ∀ n, lB n h t z (lBm h t z b n)
  | 0 => fun k hk => absurd hk (Nat.not_lt_zero k)
  | n + 1 => fun k hk => by
    have ih := lBm_ok h t z b n
    show upd (upd (lBm h t z b n) (2 * n) _) (2 * n + 1) _ (2 * k) = _ ∧ upd (upd (lBm h t z b n) (2 * n) _) (2 * n + 1) _ (2 * k + 1) = _
    by_cases e : k = n
    · subst e
      rw [pk_un (by omega), pk_us, pk_us]
      exact ⟨rfl, rfl⟩
    · rw [pk_un (by omega), pk_un (by omega), pk_un (by omega), pk_un (by omega)]
      exact ih k (by omega)
theorem lHaze0 {st hz way : Int32} (c : 0 < lg_cmp (st.toInt64 * hz.toInt64 * way.toInt64 / 10000000) st.toInt64) : 0 = sHaze st hz way := by
  unfold sHaze
  rw [if_neg]
  intro q
  have : lg_cmp (st.toInt64 * hz.toInt64 * way.toInt64 / 10000000) st.toInt64 = -1 := by
    unfold lg_cmp
    rw [if_neg (fun z => Int64.lt_irrefl (Int64.lt_trans q z)), if_neg (fun z => by rw [z] at q; exact Int64.lt_irrefl q)]
  rw [this] at c
  exact absurd c (by decide)
theorem lHaze1 {st hz way : Int32} (c : lg_cmp (st.toInt64 * hz.toInt64 * way.toInt64 / 10000000) st.toInt64 ≤ 0) : st - (st.toInt64 * hz.toInt64 * way.toInt64 / 10000000).toInt32 = sHaze st hz way := by
  unfold sHaze
  by_cases q : st.toInt64 * hz.toInt64 * way.toInt64 / 10000000 < st.toInt64
  · rw [if_pos q]
  · rw [if_neg q]
    by_cases e : st.toInt64 * hz.toInt64 * way.toInt64 / 10000000 = st.toInt64
    · rw [e, Int32.toInt32_toInt64, Int32.sub_self]
    · exfalso
      have : lg_cmp (st.toInt64 * hz.toInt64 * way.toInt64 / 10000000) st.toInt64 = 1 := by
        unfold lg_cmp
        rw [if_pos]
        show st.toInt64 < st.toInt64 * hz.toInt64 * way.toInt64 / 10000000
        rw [Int64.lt_iff_toInt_lt] at q ⊢
        have : (st.toInt64 * hz.toInt64 * way.toInt64 / 10000000).toInt ≠ st.toInt64.toInt := fun z => e (Int64.toInt_inj.mp z)
        omega
      rw [this] at c
      exact absurd c (by decide)
/-- x is the closest of those from i on, below n -/
def rdP (cl : Nat → Bool) (d : Nat → Int32) (n i : Nat) (x : Int32) : Prop :=
  (x = -1 ∧ ∀ k, i ≤ k → k < n → ¬ cl k = true) ∨ ∃ p, x = nI p ∧ i ≤ p ∧ p < n ∧ cl p = true ∧ (∀ k, i ≤ k → k < n → cl k = true → ¬ mAbs (d k) < mAbs (d p)) ∧ ∀ k, i ≤ k → k < p → cl k = true → mAbs (d p) < mAbs (d k)
theorem rdP_0 {cl : Nat → Bool} {d : Nat → Int32} {n : Nat} : rdP cl d n n (-1) := Or.inl ⟨rfl, fun k h1 h2 => absurd h2 (by omega)⟩
theorem rdP_n {cl : Nat → Bool} {d : Nat → Int32} {n i : Nat} {x : Int32} (hi : 0 < i) (h : rdP cl d n i x) (c : ¬ cl (i - 1) = true) : rdP cl d n (i - 1) x := by
  rcases h with ⟨e, h⟩ | ⟨p, e, h1, h2, h3, h4, h5⟩
  · refine Or.inl ⟨e, fun k k1 k2 => ?_⟩
    by_cases q : k = i - 1
    · rw [q]; exact c
    · exact h k (by omega) k2
  · refine Or.inr ⟨p, e, by omega, h2, h3, fun k k1 k2 k3 => ?_, fun k k1 k2 k3 => ?_⟩
    · by_cases q : k = i - 1
      · rw [q] at k3; exact absurd k3 c
      · exact h4 k (by omega) k2 k3
    · by_cases q : k = i - 1
      · rw [q] at k3; exact absurd k3 c
      · exact h5 k (by omega) k2 k3
theorem rdP_y1 {cl : Nat → Bool} {d : Nat → Int32} {n i : Nat} {x : Int32} (hi : 0 < i) (hn : i ≤ n) (hn6 : n ≤ 6) (h : rdP cl d n i x) (c : cl (i - 1) = true) (hx : x < 0) : rdP cl d n (i - 1) (nI (i - 1)) := by
  rcases h with ⟨e, h⟩ | ⟨p, e, h1, h2, h3, h4, h5⟩
  · refine Or.inr ⟨i - 1, rfl, Nat.le_refl _, by omega, c, fun k k1 k2 k3 => ?_, fun k k1 k2 k3 => by omega⟩
    by_cases q : k = i - 1
    · rw [q]; exact Int32.lt_irrefl
    · exact absurd k3 (h k (by omega) k2)
  · rw [e] at hx
    exact absurd hx (nI_pos (by omega))
theorem rdP_ge {cl : Nat → Bool} {d : Nat → Int32} {n i : Nat} {x : Int32} (h : rdP cl d n i x) (hx : 0 ≤ x) : ∃ p, x = nI p ∧ p < n := by
  rcases h with ⟨e, h⟩ | ⟨p, e, h1, h2, -⟩
  · rw [e] at hx; exact absurd hx (by decide)
  · exact ⟨p, e, h2⟩
theorem rdP_y2 {cl : Nat → Bool} {d : Nat → Int32} {n i p : Nat} (hi : 0 < i) (hn : i ≤ n) (hn6 : n ≤ 6) (hp : p < n) (h : rdP cl d n i (nI p)) (c : cl (i - 1) = true) (l : mAbs (d (i - 1)) ≤ mAbs (d p)) : rdP cl d n (i - 1) (nI (i - 1)) := by
  rcases h with ⟨e, -⟩ | ⟨p', e, h1, h2, h3, h4, h5⟩
  · exact absurd e (nI_ne_m1 (by omega))
  · have e2 : p = p' := (nI_eq (by omega) (by omega)).mp e
    subst e2
    refine Or.inr ⟨i - 1, rfl, Nat.le_refl _, by omega, c, fun k k1 k2 k3 => ?_, fun k k1 k2 k3 => by omega⟩
    by_cases q : k = i - 1
    · rw [q]; exact Int32.lt_irrefl
    · intro z
      exact h4 k (by omega) k2 k3 (Int32.lt_of_lt_of_le z l)
theorem rdP_n2 {cl : Nat → Bool} {d : Nat → Int32} {n i p : Nat} (hi : 0 < i) (hn6 : n ≤ 6) (hp : p < n) (h : rdP cl d n i (nI p)) (l : mAbs (d p) < mAbs (d (i - 1))) : rdP cl d n (i - 1) (nI p) := by
  rcases h with ⟨e, -⟩ | ⟨p', e, h1, h2, h3, h4, h5⟩
  · exact absurd e (nI_ne_m1 (by omega))
  · have e2 : p = p' := (nI_eq (by omega) (by omega)).mp e
    subst e2
    refine Or.inr ⟨p, rfl, by omega, hp, h3, fun k k1 k2 k3 => ?_, fun k k1 k2 k3 => ?_⟩
    · by_cases q : k = i - 1
      · rw [q]; exact fun z => Int32.lt_irrefl (Int32.lt_trans z l)
      · exact h4 k (by omega) k2 k3
    · by_cases q : k = i - 1
      · rw [q]; exact l
      · exact h5 k (by omega) k2 k3
/-- the model's closest has the same property -/
theorem mC_P (b : Nat → Bool) (d : Nat → Int32) : ∀ n, n ≤ 1000 → (mC b d n = -99999 ∧ ∀ k, k < n → ¬ b k = true) ∨ ∃ p, mC b d n = nI p ∧ p < n ∧ b p = true ∧ (∀ k, k < n → b k = true → ¬ mAbs (d k) < mAbs (d p)) ∧ ∀ k, k < p → b k = true → mAbs (d p) < mAbs (d k)
  | 0, _ => Or.inl ⟨rfl, fun k hk => absurd hk (Nat.not_lt_zero k)⟩
  | n + 1, hn => by
    rcases mC_P b d n (by omega) with ⟨e, h⟩ | ⟨p, e, h2, h3, h4, h5⟩
    · by_cases c : b n = true
      · refine Or.inr ⟨n, mC_y1 c e, Nat.lt_succ_self n, c, fun k k1 k2 => ?_, fun k k1 k2 => absurd k2 (h k k1)⟩
        by_cases q : k = n
        · rw [q]; exact Int32.lt_irrefl
        · exact absurd k2 (h k (by omega))
      · refine Or.inl ⟨by rw [mC_n1 c]; exact e, fun k hk => ?_⟩
        by_cases q : k = n
        · rw [q]; exact c
        · exact h k (by omega)
    · by_cases c : b n = true
      · by_cases l : mAbs (d n) < mAbs (d p)
        · refine Or.inr ⟨n, mC_y2 c e (by omega) l, Nat.lt_succ_self n, c, fun k k1 k2 => ?_, fun k k1 k2 => ?_⟩
          · by_cases q : k = n
            · rw [q]; exact Int32.lt_irrefl
            · exact fun z => h4 k (by omega) k2 (Int32.lt_trans z l)
          · exact Int32.lt_of_lt_of_le l (Int32.not_lt.mp (h4 k k1 k2))
        · refine Or.inr ⟨p, by rw [mC_n2 e (by omega) (Int32.not_lt.mp l)]; exact e, by omega, h3, fun k k1 k2 => ?_, h5⟩
          by_cases q : k = n
          · rw [q]; exact l
          · exact h4 k (by omega) k2
      · refine Or.inr ⟨p, by rw [mC_n1 c]; exact e, by omega, h3, fun k k1 k2 => ?_, h5⟩
        by_cases q : k = n
        · rw [q] at k2; exact absurd k2 c
        · exact h4 k (by omega) k2
theorem rdP_mC {b : Nat → Bool} {d : Nat → Int32} {n : Nat} {x : Int32} (hn : n ≤ 6) (h : rdP b d n 0 x) : (x = -1 ∧ mC b d n = -99999) ∨ ∃ p, p < n ∧ x = nI p ∧ mC b d n = nI p := by
  rcases mC_P b d n (by omega) with ⟨e, g⟩ | ⟨p, e, g2, g3, g4, g5⟩
  · rcases h with ⟨e1, h1⟩ | ⟨p, e1, h1, h2, h3, -⟩
    · exact Or.inl ⟨e1, e⟩
    · exact absurd h3 (g p h2)
  · rcases h with ⟨e1, h1⟩ | ⟨p', e1, h1, h2, h3, h4, h5⟩
    · exact absurd g3 (h1 p (Nat.zero_le _) g2)
    · refine Or.inr ⟨p, g2, ?_, e⟩
      have : p = p' := by
        rcases Nat.lt_trichotomy p p' with l | l | l
        · exact absurd (h5 p (Nat.zero_le _) l g3) (g4 p' h2 h3)
        · exact l
        · exact absurd (g5 p' l h3) (h4 p (Nat.zero_le _) g2 g3)
      rw [this]; exact e1
/-- is there a reading -/
abbrev lIs (rd ml : Int32) : Prop := ¬ (rd = -99999 ∨ ml = -99999)
def lR3 (h : Nat → Int32) (n : Nat) (rd ml : Int32) (k : Nat) : Int32 := if rd = -99999 ∨ ml = -99999 then -99999 else bI (sAnyL (mNear h rd ml.toNatClampNeg) k = true)
/-- the best slope, from 30 down -/
def lBe (f : Int → Int32) : Nat → Int × Int32
  | 0 => (30, 999999)
  | i + 1 => if f (30 - (i : Int)) ≤ (lBe f i).2 then (30 - (i : Int), f (30 - (i : Int))) else lBe f i
theorem lBe_y {f : Int → Int32} {i : Nat} (c : f (30 - (i : Int)) ≤ (lBe f i).2) : lBe f (i + 1) = (30 - (i : Int), f (30 - (i : Int))) := if_pos c
theorem lBe_n {f : Int → Int32} {i : Nat} (c : (lBe f i).2 < f (30 - (i : Int))) : lBe f (i + 1) = lBe f i := if_neg (Int32.not_le.mpr c)
theorem lBe_fm {f : Int → Int32} (hf : f 30 ≤ 999999) : ∀ i : Nat, i ≤ 60 → FM f (30 - (i : Int)) 30 (lBe f (i + 1)).1 ∧ (lBe f (i + 1)).2 = f (lBe f (i + 1)).1
  | 0, _ => by
    have e : lBe f (0 + 1) = (30 - ((0 : Nat) : Int), f (30 - ((0 : Nat) : Int))) := lBe_y hf
    rw [e]
    refine ⟨⟨by omega, by omega, fun z h1 h2 => ?_, fun z h1 h2 => by omega⟩, rfl⟩
    rw [show z = 30 - ((0 : Nat) : Int) by omega]; exact Int.le_refl _
  | i + 1, hi => by
    obtain ⟨⟨h1, h2, h3, h4⟩, h5⟩ := lBe_fm hf i (by omega)
    by_cases c : f (30 - ((i + 1 : Nat) : Int)) ≤ (lBe f (i + 1)).2
    · rw [lBe_y c]
      rw [h5] at c
      have c2 := Int32.le_iff_toInt_le.mp c
      refine ⟨⟨by omega, by omega, fun z z1 z2 => ?_, fun z z1 z2 => by omega⟩, rfl⟩
      by_cases q : z = 30 - ((i + 1 : Nat) : Int)
      · rw [q]; exact Int.le_refl _
      · exact Int.le_trans c2 (h3 z (by omega) z2)
    · rw [lBe_n (Int32.not_le.mp c)]
      rw [h5] at c
      have c2 := Int32.lt_iff_toInt_lt.mp (Int32.not_le.mp c)
      refine ⟨⟨by omega, h2, fun z z1 z2 => ?_, fun z z1 z2 => ?_⟩, h5⟩
      · by_cases q : z = 30 - ((i + 1 : Nat) : Int)
        · rw [q]; omega
        · exact h3 z (by omega) z2
      · by_cases q : z = 30 - ((i + 1 : Nat) : Int)
        · rw [q]; exact c2
        · exact h4 z (by omega) z2
theorem upd_upd (f : Nat → Int32) (k : Nat) (a b : Int32) : upd (upd f k a) k b = upd f k b := by
  funext i
  unfold upd
  by_cases e : i = k <;> simp [e]
theorem lIs_t {b : Nat → Bool} {d : Nat → Int32} {n : Nat} {g : Nat → Int32} {u v x : Int32} (hmc : (x = -1 ∧ mC b d n = -99999) ∨ ∃ p, p < n ∧ x = nI p ∧ mC b d n = nI p) (hn : n ≤ 6) (h0 : sOk u) (h1 : sOk v) (hg : 50 ≤ (g 0).toInt ∧ (g 0).toInt ≤ 1000) (c : 0 ≤ x) (l : v < u) : 1 = bI (lIs (sMeet g u v) (mC b d n)) := by
  refine bI_t (fun q => ?_)
  rcases q with q | q
  · exact sMeet_ok h0 h1 hg l q
  · rcases hmc with ⟨e, -⟩ | ⟨p, hp, e, e2⟩
    · rw [e] at c; exact absurd c (by decide)
    · rw [e2] at q; exact nI_ne_none (by omega) q
theorem lIs_f1 {b : Nat → Bool} {d : Nat → Int32} {n : Nat} {rd x : Int32} (hmc : (x = -1 ∧ mC b d n = -99999) ∨ ∃ p, p < n ∧ x = nI p ∧ mC b d n = nI p) (hn : n ≤ 6) (c : x < 0) : 0 = bI (lIs rd (mC b d n)) := by
  refine bI_f (fun q => q (Or.inr ?_))
  rcases hmc with ⟨-, e⟩ | ⟨p, hp, e, e2⟩
  · exact e
  · rw [e] at c; exact absurd c (nI_pos (by omega))
theorem lIs_f2 {g : Nat → Int32} {u v ml : Int32} (c : u ≤ v) : 0 = bI (lIs (sMeet g u v) ml) := bI_f (fun q => q (Or.inl (if_neg (Int32.not_lt.mpr c))))
theorem mRn_w0 {h : Nat → Int32} {n : Nat} {rd ml : Int32} (c : lIs rd ml) : mRn h n rd ml 0 = rd := by unfold mRn; rw [if_neg c, if_pos rfl]
theorem mRn_no {h : Nat → Int32} {n w : Nat} {rd ml : Int32} (c : ¬ lIs rd ml) : mRn h n rd ml w = -99999 := mRn_n (Decidable.not_not.mp c)
theorem mRn_w1 {b : Nat → Bool} {d : Nat → Int32} {h : Nat → Int32} {n : Nat} {rd x : Int32} (hmc : (x = -1 ∧ mC b d n = -99999) ∨ ∃ p, p < n ∧ x = nI p ∧ mC b d n = nI p) (c : lIs rd (mC b d n)) : mRn h n rd (mC b d n) 1 = x := by
  unfold mRn
  rw [if_neg c, if_neg (by decide), if_pos rfl]
  rcases hmc with ⟨-, e⟩ | ⟨p, hp, e, e2⟩
  · exact absurd (Or.inr e) c
  · rw [e2, e]
theorem mRn_w1p {h : Nat → Int32} {n p : Nat} {rd ml : Int32} (e : ml = nI p) (hp : p < 6) (c : lIs rd ml) : mRn h n rd ml 1 = nI p := by
  unfold mRn
  rw [if_neg c, if_neg (by decide), if_pos rfl, e]
theorem mRn_w2 {h : Nat → Int32} {n p : Nat} {rd ml : Int32} (e : ml = nI p) (hp : p < 6) (c : lIs rd ml) : mRn h n rd ml 2 = rd - h p := by
  rw [mRn_y (fun q => c (Or.inl q)) e hp, if_neg (by decide), if_neg (by decide), if_pos rfl]
theorem lR3_no {h : Nat → Int32} {n k : Nat} {rd ml : Int32} (c : ¬ lIs rd ml) : lR3 h n rd ml k = -99999 := if_pos (Decidable.not_not.mp c)
theorem lR3_0 {h : Nat → Int32} {n : Nat} {rd ml : Int32} (c : lIs rd ml) : lR3 h n rd ml 0 = 0 := by unfold lR3; rw [if_neg c]; rfl
theorem lR3_y {h : Nat → Int32} {n k p : Nat} {rd ml : Int32} (e : ml = nI p) (hp : p < 6) (c : lIs rd ml) (l : mAbs (h k - rd) < mAbs (mRn h n rd ml 2)) : 1 = lR3 h n rd ml (k + 1) := by
  rw [mRn_w2 e hp c] at l
  unfold lR3
  rw [if_neg c]
  refine bI_t ?_
  rw [e, nI_clamp (by omega)]
  exact sAnyL_y (b := mNear h rd p) (k := k) (decide_eq_true (by rw [mAbs_sub (h p) rd]; exact l))
theorem lR3_n {h : Nat → Int32} {n k p : Nat} {rd ml : Int32} (e : ml = nI p) (hp : p < 6) (c : lIs rd ml) (l : mAbs (mRn h n rd ml 2) ≤ mAbs (h k - rd)) : lR3 h n rd ml k = lR3 h n rd ml (k + 1) := by
  rw [mRn_w2 e hp c] at l
  unfold lR3
  rw [if_neg c, if_neg c, e, nI_clamp (by omega)]
  refine bI_cong ?_
  have : mNear h rd p k = false := decide_eq_false (fun q => by rw [mAbs_sub (h p) rd] at q; exact not_lt_of_le32 l q)
  show sAnyL (mNear h rd p) k = true ↔ (sAnyL (mNear h rd p) k || mNear h rd p k) = true
  rw [this, Bool.or_false]
theorem lR3_end {h : Nat → Int32} {n k : Nat} {rd ml : Int32} (c : k = n ∨ ¬ lIs rd ml) : lR3 h n rd ml k = mRn h n rd ml 3 := by
  rcases c with rfl | c
  · unfold lR3 mRn
    rfl
  · rw [lR3_no c, mRn_no c]
theorem sFar_le {g h s : Nat → Int32} {j p : Nat} {z : Int} (hz : -30 ≤ z ∧ z ≤ 30) (hj : j < 2) (hh : 50 ≤ (h p).toInt ∧ (h p).toInt ≤ 3000) (hg : 50 ≤ (g 0).toInt ∧ (g 0).toInt ≤ 1000) (hs : sOk (s (1 - j))) : sFar g h s j p z ≤ 999999 := by
  obtain ⟨e1, b1, b2⟩ := sPlace_i (g := g) (j := j) (z := z) (hh := h p) hz hj hh hg
  obtain ⟨e2, b3, b4⟩ := sPlace_i (g := g) (j := 1 - j) (z := (s (1 - j)).toInt) (hh := h p) hs (by omega) hh hg
  rw [iI_self] at e2
  have e3 : (sPlace g (nI j) (iI z) (h p) - sPlace g (nI (1 - j)) (s (1 - j)) (h p)).toInt = (sPlace g (nI j) (iI z) (h p)).toInt - (sPlace g (nI (1 - j)) (s (1 - j)) (h p)).toInt := by
    rw [Int32.toInt_sub, e1, e2]
    refine Int.bmod_eq_of_le ?_ ?_ <;> split <;> split <;> omega
  unfold sFar
  rw [Int32.le_iff_toInt_le, mAbs_i (by rw [e3, e1, e2]; split <;> split <;> omega), show (999999 : Int32).toInt = 999999 by decide +kernel, e3, e1, e2]
  split <;> split <;> split <;> omega
theorem lBe_try {g h s : Nat → Int32} {j p : Nat} (hj : j < 2) (hh : 50 ≤ (h p).toInt ∧ (h p).toInt ≤ 3000) (hg : 50 ≤ (g 0).toInt ∧ (g 0).toInt ≤ 1000) (hs : sOk (s (1 - j))) : iI (lBe (sFar g h s j p) 61).1 = iI (sTry g h s j p) := by
  have h1 := (lBe_fm (f := sFar g h s j p) (sFar_le (by omega) hj hh hg hs) 60 (Nat.le_refl _)).1
  rw [show 30 - ((60 : Nat) : Int) = -30 by omega] at h1
  rw [FM_u h1 (sTry_fm g h s j p)]
theorem mRn_lg0 {h : Nat → Int32} {n : Nat} {rd ml : Int32} : mRn h n rd ml 0 = (mLg h n rd ml).1 := by
  unfold mRn mLg
  by_cases c : rd = -99999 ∨ ml = -99999
  · rw [if_pos c, if_pos c]
  · rw [if_neg c, if_neg c, if_pos rfl]
theorem mRn_lg2 {h : Nat → Int32} {n : Nat} {rd ml : Int32} : mRn h n rd ml 2 = (mLg h n rd ml).2.2.1 := by
  unfold mRn mLg
  by_cases c : rd = -99999 ∨ ml = -99999
  · rw [if_pos c, if_pos c]
  · rw [if_neg c, if_neg c, if_neg (by decide), if_neg (by decide), if_pos rfl]
theorem mRn_lg3 {h : Nat → Int32} {n : Nat} {rd ml : Int32} (c : lIs rd ml) : mRn h n rd ml 3 = bI ((mLg h n rd ml).2.2.2 = true) := by
  unfold mRn mLg
  rw [if_neg c, if_neg c]
  rfl
theorem mLg_h {h : Nat → Int32} {n p : Nat} {rd ml : Int32} (e : ml = nI p) (hp : p < 6) (c : lIs rd ml) : (mLg h n rd ml).2.1 = h p := by rw [mLg_y (fun q => c (Or.inl q)) e hp]
/-! what told tells -/
def tC (sn ln n : Nat) (lit : Int32) (h t s g : Nat → Int32) (kn : Nat) (lo lf : Int32) (k : Nat) : Int32 := if k = 11 ∨ k = 12 then 0 else xTc sn ln n lit h t s g kn lo lf k
def tN (kn : Nat) (nm : Nat → Int32) (k : Nat) : Int32 := sNight kn nm (k / 4) (k % 4)
def tY (n : Nat) (lit : Int32) (h t s g : Nat → Int32) (k : Nat) : Int32 := if k / 4 < n then sLy lit h t s g (k / 4) (nI (k % 4)) else -200001
def tA (f : Nat → Int32) : Nat → Int64
  | 0 => 251
  | k + 1 => 31 * tA f k + (f k).toInt64
def tB (v : Int64) (a y : Nat → Int32) : Nat → Int64
  | 0 => v
  | k + 1 => 31 * (31 * tB v a y k + (a k).toInt64) + (y k).toInt64
theorem nI_div4 {k : Nat} (h : k < 32) : nI k / 4 = nI (k / 4) := by
  have : ∀ i : Fin 32, nI i.val / 4 = nI (i.val / 4) := by decide +kernel
  exact this ⟨k, h⟩
theorem nI_rem4 {k : Nat} (h : k < 32) : nI k - nI k / 4 * 4 = nI (k % 4) := by
  have : ∀ i : Fin 32, nI i.val - nI i.val / 4 * 4 = nI (i.val % 4) := by decide +kernel
  exact this ⟨k, h⟩
/-! what due does -/
def lOne (h : Nat → Int32) (x : Int32) (k : Nat) : Nat := if h k < x then 1 else 0
def lCnt (h : Nat → Int32) (x : Int32) : Nat → Nat
  | 0 => 0
  | k + 1 => lCnt h x k + lOne h x k
theorem lCnt_le (h : Nat → Int32) (x : Int32) : ∀ k, lCnt h x k ≤ k
  | 0 => Nat.le_refl 0
  | k + 1 => by
    have := lCnt_le h x k
    show lCnt h x k + lOne h x k ≤ k + 1
    unfold lOne
    split <;> omega
theorem lOne_y {h : Nat → Int32} {x : Int32} {k : Nat} (c : h k < x) : 1 = nI (lOne h x k) := by unfold lOne; rw [if_pos c]; rfl
theorem lOne_n {h : Nat → Int32} {x : Int32} {k : Nat} (c : x ≤ h k) : 0 = nI (lOne h x k) := by unfold lOne; rw [if_neg (Int32.not_lt.mpr c)]; rfl
theorem sAny_b {h : Nat → Int32} {x : Int32} {k : Nat} (q : sAny h x (k + 1) = false) : sAny h x k = false := by
  unfold sAny at q
  rw [Bool.or_eq_false_iff] at q
  exact q.1
theorem sAny_s {h : Nat → Int32} {x : Int32} {k : Nat} (q : sAny h x k = false) (c : ¬ h k = x) : sAny h x (k + 1) = false := by
  unfold sAny
  rw [q, decide_eq_false c]; rfl
/-- heights rise -/
def sUpw (h : Nat → Int32) (n : Nat) : Prop := ∀ i j, i < j → j < n → (h i).toInt < (h j).toInt
theorem lCnt_all {h : Nat → Int32} {x : Int32} : ∀ k, (∀ i, i < k → h i < x) → lCnt h x k = k
  | 0, _ => rfl
  | k + 1, H => by
    show lCnt h x k + lOne h x k = k + 1
    unfold lOne
    rw [lCnt_all k (fun i hi => H i (by omega)), if_pos (H k (by omega))]
theorem lCnt_pos {h : Nat → Int32} {x : Int32} : ∀ n, sUpw h n → sAny h x n = false → lCnt h x n = sPos h x n
  | 0, _, _ => rfl
  | n + 1, H, q => by
    have q1 := sAny_b q
    have H1 : sUpw h n := fun i j a b => H i j a (by omega)
    have hne : ¬ h n = x := fun e => by
      rw [sAny_of (Nat.lt_succ_self n) e] at q; cases q
    show lCnt h x n + lOne h x n = if x < h n then sPos h x n else n + 1
    by_cases c : x < h n
    · rw [if_pos c]
      unfold lOne
      rw [if_neg (fun z => Int32.lt_irrefl (Int32.lt_trans z c)), lCnt_pos n H1 q1]
      rfl
    · rw [if_neg c]
      have c2 : h n < x := by
        rw [Int32.lt_iff_toInt_lt] at c ⊢
        have : (h n).toInt ≠ x.toInt := fun e => hne (Int32.toInt_inj.mp e)
        omega
      unfold lOne
      rw [if_pos c2, lCnt_all n (fun i hi => by
        rw [Int32.lt_iff_toInt_lt] at c2 ⊢
        have := H i n hi (Nat.lt_succ_self n)
        omega)]
/-- the thin ones taken away from the top down, after m of them were looked at -/
def lThn (h t : Nat → Int32) (x : Int32) (n : Nat) : Nat → Nat × (Nat → Int32) × (Nat → Int32)
  | 0 => (n, h, t)
  | m + 1 => if (lThn h t x n m).2.2 (n - m - 1) ≤ x then ((lThn h t x n m).1 - 1, sDn (lThn h t x n m).2.1 (n - m - 1) (lThn h t x n m).1, sDn (lThn h t x n m).2.2 (n - m - 1) (lThn h t x n m).1) else lThn h t x n m
theorem lThn_le (h t : Nat → Int32) (x : Int32) (n : Nat) : ∀ m, (lThn h t x n m).1 ≤ n
  | 0 => Nat.le_refl n
  | m + 1 => by
    have := lThn_le h t x n m
    unfold lThn
    split
    · show (lThn h t x n m).1 - 1 ≤ n; omega
    · exact this
section LTHN
variable {h t : Nat → Int32} {x : Int32} {n i m : Nat}
theorem lThn_y (e : i + m = n) (hi : 0 < i) (c : (lThn h t x n m).2.2 (i - 1) ≤ x) : lThn h t x n (m + 1) = ((lThn h t x n m).1 - 1, sDn (lThn h t x n m).2.1 (i - 1) (lThn h t x n m).1, sDn (lThn h t x n m).2.2 (i - 1) (lThn h t x n m).1) := by
  obtain rfl : i = n - m := by omega
  exact if_pos c
theorem lThn_y1 (e : i + m = n) (hi : 0 < i) (c : (lThn h t x n m).2.2 (i - 1) ≤ x) : (lThn h t x n (m + 1)).1 = (lThn h t x n m).1 - 1 := by rw [lThn_y e hi c]
theorem lThn_n (e : i + m = n) (hi : 0 < i) (c : x < (lThn h t x n m).2.2 (i - 1)) : lThn h t x n (m + 1) = lThn h t x n m := by
  obtain rfl : i = n - m := by omega
  exact if_neg (Int32.not_le.mpr c)
theorem lThn_kT (e : i + m = n) (hi : 0 < i) (hn : i ≤ n) (M : mTh n h t x i (lThn h t x n m).1 (lThn h t x n m).2.1 (lThn h t x n m).2.2) (c : x < (lThn h t x n m).2.2 (i - 1)) : mTh n h t x (i - 1) (lThn h t x n (m + 1)).1 (lThn h t x n (m + 1)).2.1 (lThn h t x n (m + 1)).2.2 := by
  rw [lThn_n e hi c]
  exact mTh_keep hi hn M (by rw [← (M.2.2.1 (i - 1) (by omega)).2]; exact c)
theorem lThn_yT (e : i + m = n) (hi : 0 < i) (M : mTh n h t x i (lThn h t x n m).1 (lThn h t x n m).2.1 (lThn h t x n m).2.2) (c : (lThn h t x n m).2.2 (i - 1) ≤ x) : mTh n h t x (i - 1) (lThn h t x n (m + 1)).1 (lThn h t x n (m + 1)).2.1 (lThn h t x n (m + 1)).2.2 := by
  rw [lThn_y e hi c]
  exact mTh_drop hi M (by rw [← (M.2.2.1 (i - 1) (by omega)).2]; exact c)
theorem lThn_T (h t : Nat → Int32) (x : Int32) (n : Nat) : ∀ m, m ≤ n → mTh n h t x (n - m) (lThn h t x n m).1 (lThn h t x n m).2.1 (lThn h t x n m).2.2
  | 0, _ => mTh_0 n h t x
  | m + 1, hm => by
    have ih := lThn_T h t x n m (by omega)
    by_cases c : (lThn h t x n m).2.2 (n - m - 1) ≤ x
    · exact lThn_yT (i := n - m) (by omega) (by omega) ih c
    · exact lThn_kT (i := n - m) (by omega) (by omega) (by omega) ih (Int32.not_le.mp c)
end LTHN
