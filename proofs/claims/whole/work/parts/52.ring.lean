/-! saved and kept states -/
def mStK (M : SK) : FI32 := mSt (kN M) (kO M) (kH M) (kT2 M) (kS M) (kGs M) (kK M) (kLo M) (kLf M) (kNm M)
def mParts (f : FI32) (n kn : Nat) : SK := (n, fun k => f (6 + k), fun k => f (12 + k), fun k => f (18 + k), fun k => f (4 + k), f, kn, f 10, f 11, fun k => f (24 + k))
def rRow (K : CK) (f : FI32) : Prop := ∃ M, sRel K M ∧ ∀ i, i < 56 → f i = mStK M i
theorem rel_like {K y : CK} {M : SK} (h : sRel K M) : sRel (cLike K y) M := by
  obtain ⟨k0, e1, e2, H, T, S, G, e3, e4, e5, N, O⟩ := h
  have hn := k0.1
  have c : ∀ (f g : FI32) (m i : Nat), i < m → va_cpy f g 0 0 m i = f i := fun f g m i hi => by
    unfold va_cpy; rw [if_pos (by omega)]; congr 1; omega
  refine ⟨k0, e1, e2, fun i hi => ?_, fun i hi => ?_, fun i hi => ?_, fun i hi => ?_, e3, e4, e5, fun i hi => ?_, O⟩
  · exact (c _ _ 6 i (by omega)).trans (H i hi)
  · exact (c _ _ 6 i (by omega)).trans (T i hi)
  · exact (c _ _ 2 i hi).trans (S i hi)
  · exact (c _ _ 4 i hi).trans (G i hi)
  · exact (c _ _ 32 i hi).trans (N i hi)
theorem rel_parts {K : CK} {M : SK} {f : FI32} (h : sRel K M) (hf : ∀ i, i < 56 → f i = mStK M i) : sRel K (mParts f (kN M) (kK M)) ∧ mStK (mParts f (kN M) (kK M)) = f := by
  obtain ⟨⟨k1, k2, k3, k4, k5, k6, k7, k8, k9, k10, k11⟩, e1, e2, H, T, S, G, e3, e4, e5, N, O⟩ := h
  have f6 : ∀ k, k < 2 → f (6 + k) = kO M k := fun k hk => (hf _ (by omega)).trans (mSt_o hk)
  have f12 : ∀ k, k < 6 → f (12 + k) = kH M k := fun k hk => (hf _ (by omega)).trans (mSt_h hk)
  have f18 : ∀ k, k < 6 → f (18 + k) = kT2 M k := fun k hk => (hf _ (by omega)).trans (mSt_t hk)
  have f4 : ∀ k, k < 2 → f (4 + k) = kS M k := fun k hk => (hf _ (by omega)).trans (mSt_s hk)
  have f0 : ∀ k, k < 4 → f k = kGs M k := fun k hk => (hf _ (by omega)).trans (mSt_g hk)
  have f24 : ∀ k, k < 32 → f (24 + k) = kNm M k := fun k hk => (hf _ (by omega)).trans mSt_m
  have el : mLit (fun k => f (6 + k)) = mLit (kO M) := by
    show f (6 + 0) + 2 * f (6 + 1) = kO M 0 + 2 * kO M 1
    rw [f6 0 (by decide), f6 1 (by decide)]
  refine ⟨⟨⟨k1, ?_, ?_, ?_, k5, fun i hi => ?_, fun i hi => ?_, ?_, ?_, ?_, ?_⟩, e1, ?_, fun i hi => ?_, fun i hi => ?_, fun i hi => ?_, fun i hi => ?_, e3, ?_, ?_, fun i hi => ?_, ?_⟩, ?_⟩
  · show mBin (fun k => f (6 + k))
    show (f (6 + 0) = 0 ∨ f (6 + 0) = 1) ∧ (f (6 + 1) = 0 ∨ f (6 + 1) = 1)
    rw [f6 0 (by decide), f6 1 (by decide)]; exact k2
  · show sOk (f (4 + 0)); rw [f4 0 (by decide)]; exact k3
  · show sOk (f (4 + 1)); rw [f4 1 (by decide)]; exact k4
  · show 50 ≤ (f (12 + i)).toInt ∧ _
    have hi : i < kN M := hi
    show 50 ≤ (f (12 + i)).toInt ∧ (f (12 + i)).toInt ≤ 3000
    rw [f12 i (by omega)]; exact k6 i hi
  · have hi : i < kN M := hi
    show 1 ≤ (f (18 + i)).toInt ∧ (f (18 + i)).toInt ≤ 100
    rw [f18 i (by omega)]; exact k7 i hi
  · show 50 ≤ (f 0).toInt ∧ (f 0).toInt ≤ 1000; rw [f0 0 (by decide)]; exact k8
  · show 0 ≤ (f 1).toInt ∧ (f 1).toInt ≤ 1000; rw [f0 1 (by decide)]; exact k9
  · show 1 ≤ (f 2).toInt ∧ (f 2).toInt ≤ 500; rw [f0 2 (by decide)]; exact k10
  · show 0 ≤ (f 3).toInt ∧ (f 3).toInt ≤ 100; rw [f0 3 (by decide)]; exact k11
  · show qLit K = mLit (fun k => f (6 + k)); rw [el]; exact e2
  · have hi : i < kN M := hi
    show qH K i = f (12 + i); rw [f12 i (by omega)]; exact H i hi
  · have hi : i < kN M := hi
    show qT K i = f (18 + i); rw [f18 i (by omega)]; exact T i hi
  · show qS K i = f (4 + i); rw [f4 i hi]; exact S i hi
  · show qG K i = f i; rw [f0 i hi]; exact G i hi
  · show qLo K = f 10; rw [hf 10 (by decide)]; exact e4
  · show qLf K = f 11; rw [hf 11 (by decide)]; exact e5
  · show qNm K i = f (24 + i); rw [f24 i hi]; exact N i hi
  · intro k hk
    have hk : k < kK M := hk
    show f (24 + 4 * k) = -99999 ↔ f (24 + (4 * k + 2)) = -99999
    rw [f24 (4 * k) (by omega), f24 (4 * k + 2) (by omega)]; exact O k hk
  · exact mSt_self f ((hf 8 (by decide)).trans mSt_8) ((hf 9 (by decide)).trans mSt_9)
theorem row_get {K : CK} {f : FI32} {sv st : FI32} {q : Nat} (h : rRow K (fun k => sv (q * 56 + k))) : ∃ M, sRel K M ∧ mStK M = mGet st sv q 56 := by
  obtain ⟨M, h1, h2⟩ := h
  have hf : ∀ i, i < 56 → mGet st sv q 56 i = mStK M i := fun i hi => by
    unfold mGet; rw [if_pos hi]; exact h2 i hi
  obtain ⟨a, b⟩ := rel_parts h1 hf
  exact ⟨_, a, b⟩
/-- the ring of saved states against the reference's row -/
def ringR (nx sm : Nat) (S : Nat → CK) (sv : FI32) : Prop := sm ≤ 6 ∧ nx < 6 ∧ ∀ i, i < sm → rRow (S ((nx + 6 - sm + i) % 6)) (fun k => sv (i * 56 + k))
theorem ring_save {nx sm : Nat} {S : Nat → CK} {sv : FI32} {K : CK} {M : SK} (h : ringR nx sm S sv) (hr : sRel K M) : ringR ((nx + 1) % 6) (min (sm + 1) 6) (updS S nx (cLike K (S nx))) (mSave sv (mStK M) sm) := by
  obtain ⟨h1, h2, h3⟩ := h
  refine ⟨by omega, by omega, fun i hi => ?_⟩
  have new : ∀ q, q = min sm 5 → rRow (cLike K (S nx)) (fun k => mSave sv (mStK M) sm (q * 56 + k)) := fun q hq => ⟨M, rel_like hr, fun k hk => by
    subst hq
    show mPut _ _ (min sm 5) 56 (min sm 5 * 56 + k) = _
    unfold mPut
    rw [if_pos (by omega)]; congr 1; omega⟩
  by_cases c : sm = 6
  · subst c
    have hi : i < 6 := hi
    by_cases e : i = 5
    · rw [show ((nx + 1) % 6 + 6 - min (6 + 1) 6 + i) % 6 = nx by omega, updS_eq]
      exact new i (by omega)
    · have en : ¬ ((nx + 1) % 6 + 6 - min (6 + 1) 6 + i) % 6 = nx := by omega
      have := h3 (i + 1) (by omega)
      rw [show (nx + 6 - 6 + (i + 1)) % 6 = ((nx + 1) % 6 + 6 - min (6 + 1) 6 + i) % 6 by omega] at this
      obtain ⟨M2, a, b⟩ := this
      refine ⟨M2, ?_, fun k hk => ?_⟩
      · unfold updS; rw [if_neg en]; exact a
      · have b2 := b k hk
        have b2 : sv ((i + 1) * 56 + k) = mStK M2 k := b2
        show mPut (if (6 : Nat) = 6 then mSh sv 280 else sv) _ (min 6 5) 56 (i * 56 + k) = _
        unfold mPut
        rw [if_neg (by omega), if_pos rfl]
        unfold mSh
        rw [if_pos (by omega), show i * 56 + k + 56 = (i + 1) * 56 + k by omega]
        exact b2
  · have hs : min (sm + 1) 6 = sm + 1 := by omega
    rw [hs] at hi ⊢
    by_cases e : i = sm
    · rw [show ((nx + 1) % 6 + 6 - (sm + 1) + i) % 6 = nx by omega, updS_eq]
      exact new i (by omega)
    · have en : ¬ ((nx + 1) % 6 + 6 - (sm + 1) + i) % 6 = nx := by omega
      have := h3 i (by omega)
      rw [show (nx + 6 - sm + i) % 6 = ((nx + 1) % 6 + 6 - (sm + 1) + i) % 6 by omega] at this
      obtain ⟨M2, a, b⟩ := this
      refine ⟨M2, ?_, fun k hk => ?_⟩
      · unfold updS; rw [if_neg en]; exact a
      · have b2 : sv (i * 56 + k) = mStK M2 k := b k hk
        show mPut (if sm = 6 then mSh sv 280 else sv) _ (min sm 5) 56 (i * 56 + k) = _
        unfold mPut
        rw [if_neg (by omega), if_neg c]
        exact b2
theorem ring_undo {nx sm : Nat} {S : Nat → CK} {sv st : FI32} {K : CK} (h : ringR nx sm S sv) (h0 : 0 < sm) : ringR ((nx + 6 - 1) % 6) (sm - 1) S sv ∧ ∃ M, sRel (cLike (S ((nx + 6 - 1) % 6)) K) M ∧ mStK M = mGet st sv (sm - 1) 56 := by
  obtain ⟨h1, h2, h3⟩ := h
  refine ⟨⟨by omega, by omega, fun i hi => ?_⟩, ?_⟩
  · have := h3 i (by omega)
    rw [show (nx + 6 - sm + i) % 6 = ((nx + 6 - 1) % 6 + 6 - (sm - 1) + i) % 6 by omega] at this
    exact this
  · have := h3 (sm - 1) (by omega)
    rw [show (nx + 6 - sm + (sm - 1)) % 6 = (nx + 6 - 1) % 6 by omega] at this
    obtain ⟨M, a, b⟩ := row_get (f := st) (st := st) this
    exact ⟨M, rel_like a, b⟩
/-- the kept states -/
def keptR (ik ik' : FI32) (S : Nat → CK) (sl : FI32) : Prop := ∀ j, j < 2 → ik j = ik' j ∧ (¬ ik j = 0 → rRow (S (6 + j)) (fun k => sl (j * 56 + k)))
theorem kept_save {nx : Nat} {ik ik' : FI32} {S : Nat → CK} {sl : FI32} {x : CK} (h : keptR ik ik' S sl) (hx : nx < 6) : keptR ik ik' (updS S nx x) sl := by
  intro j hj
  obtain ⟨a, b⟩ := h j hj
  refine ⟨a, fun z => ?_⟩
  unfold updS
  rw [if_neg (by omega)]
  exact b z
theorem kept_keep {j : Nat} {ik ik' : FI32} {S : Nat → CK} {sl : FI32} {K : CK} {M : SK} (h : keptR ik ik' S sl) (hj : j < 2) (hr : sRel K M) : keptR (upd ik j 1) (upd ik' j 1) (updS S (6 + j) (cLike K (S (6 + j)))) (mPut sl (mStK M) j 56) := by
  intro i hi
  obtain ⟨a, b⟩ := h i hi
  by_cases e : i = j
  · subst e
    refine ⟨by unfold upd; rw [if_pos rfl, if_pos rfl], fun _ => ?_⟩
    rw [updS_eq]
    refine ⟨M, rel_like hr, fun k hk => ?_⟩
    show mPut sl (mStK M) i 56 (i * 56 + k) = _
    unfold mPut
    rw [if_pos (by omega)]; congr 1; omega
  · refine ⟨by unfold upd; rw [if_neg e, if_neg e]; exact a, fun z => ?_⟩
    have z : ¬ ik i = 0 := by unfold upd at z; rw [if_neg e] at z; exact z
    obtain ⟨M2, c, d⟩ := b z
    refine ⟨M2, by unfold updS; rw [if_neg (by omega)]; exact c, fun k hk => ?_⟩
    have d2 : sl (i * 56 + k) = mStK M2 k := d k hk
    show mPut sl (mStK M) j 56 (i * 56 + k) = _
    unfold mPut
    rw [if_neg (by omega)]
    exact d2
theorem ring_keep {nx sm j : Nat} {S : Nat → CK} {sv : FI32} {x : CK} (h : ringR nx sm S sv) : ringR nx sm (updS S (6 + j) x) sv := by
  obtain ⟨h1, h2, h3⟩ := h
  refine ⟨h1, h2, fun i hi => ?_⟩
  unfold updS
  rw [if_neg (by omega)]
  exact h3 i hi
