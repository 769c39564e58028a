/-! the class's state and the reference's -/
def nOk (kn : Nat) (nm : Nat → Int32) : Prop := ∀ k, k < kn → (nm (4 * k) = -99999 ↔ nm (4 * k + 2) = -99999)
def sRel (K : CK) (M : SK) : Prop :=
  kInv M ∧ qN K = kN M ∧ qLit K = mLit (kO M) ∧ (∀ i, i < kN M → qH K i = kH M i) ∧ (∀ i, i < kN M → qT K i = kT2 M i) ∧ (∀ i, i < 2 → qS K i = kS M i) ∧ (∀ i, i < 4 → qG K i = kGs M i) ∧
  qK K = kK M ∧ qLo K = kLo M ∧ qLf K = kLf M ∧ (∀ i, i < 32 → qNm K i = kNm M i) ∧ nOk (kK M) (kNm M)
theorem sRel.inv {K : CK} {M : SK} (h : sRel K M) : qInv K := by
  obtain ⟨⟨k1, -, -, -, k5, -⟩, e1, -, -, -, -, -, e2, -⟩ := h
  exact ⟨by rw [e1]; exact k1, by rw [e2]; exact k5⟩
theorem sMeet_rng {g : Nat → Int32} {x y : Int32} (hx : sOk x) (hy : sOk y) (hg : 50 ≤ (g 0).toInt ∧ (g 0).toInt ≤ 1000) (h : ¬ sMeet g x y = -99999) : 0 ≤ (sMeet g x y).toInt ∧ (sMeet g x y).toInt ≤ 10000 := by
  unfold sMeet at h ⊢
  by_cases c : y < x
  · rw [if_pos c]
    have hd := sOk_sub hx hy
    rw [Int32.lt_iff_toInt_lt] at c
    unfold sOk at hx hy
    have e1 : (10 * g 0).toInt = 10 * (g 0).toInt := by
      rw [Int32.toInt_mul, show (10 : Int32).toInt = 10 by decide +kernel]
      exact Int.bmod_eq_of_le (by omega) (by omega)
    have h0 : 0 ≤ (10 * (g 0).toInt).tdiv (x.toInt - y.toInt) := Int.tdiv_nonneg (by omega) (by omega)
    have h1 : (10 * (g 0).toInt).tdiv (x.toInt - y.toInt) ≤ 10 * (g 0).toInt := by
      rw [Int.tdiv_eq_ediv_of_nonneg (by omega)]
      exact Int.ediv_le_self _ (by omega)
    rw [Int32.toInt_div, e1, hd, Int.bmod_eq_of_le (by omega) (by omega)]
    omega
  · rw [if_neg c] at h; exact absurd rfl h
/-- a night's numbers: reading none where the error is none -/
theorem mLg_ok {M : SK} (h : kInv M) : (mLgK M).1 = -99999 ↔ (mLgK M).2.2.1 = -99999 := by
  obtain ⟨k1, k2, k3, k4, k5, k6, k7, k8, k9, k10, k11⟩ := h
  unfold mLgK
  rcases rl_mc (o := kO M) (h := kH M) (t := kT2 M) (s := kS M) (g := kGs M) k1 k3 k4 k8 k11 with ⟨-, e⟩ | ⟨p, hp, -, e2, e3⟩
  · unfold mLg
    rw [if_pos e]
  · rw [mLg_y e2 e3 (by omega)]
    refine ⟨fun z => absurd z e2, fun z => ?_⟩
    have z : sMeet (kGs M) (kS M 0) (kS M 1) - kH M p = -99999 := z
    have r := sMeet_rng k3 k4 k8 e2
    have b := k6 p hp
    have := congrArg Int32.toInt z
    rw [Int32.toInt_sub, Int.bmod_eq_of_le (by omega) (by omega), show (-99999 : Int32).toInt = -99999 by decide +kernel] at this
    omega
theorem sWr_at {nm : Nat → Int32} {p0 p1 p2 : Int32} {b : Bool} : sWr nm p0 p1 p2 b 0 = p0 ∧ sWr nm p0 p1 p2 b 2 = p2 ∧ ∀ i, 4 ≤ i → i < 32 → sWr nm p0 p1 p2 b i = nm (i - 4) := by
  unfold sWr upd va_cpy
  refine ⟨rfl, rfl, fun i h1 h2 => ?_⟩
  rw [if_neg (by omega), if_neg (by omega), if_neg (by omega), if_neg (by omega), if_pos (by omega)]
  congr 1; omega
theorem nOk_log {kn : Nat} {nm : Nat → Int32} {L : Int32 × Int32 × Int32 × Bool} (hk : kn ≤ 8) (h : nOk kn nm) (hL : L.1 = -99999 ↔ L.2.2.1 = -99999) : nOk (min (kn + 1) 8) (sWrL nm L) := by
  intro k hk2
  unfold sWrL
  obtain ⟨w0, w2, w4⟩ := sWr_at (nm := nm) (p0 := L.1) (p1 := L.2.1) (p2 := L.2.2.1) (b := L.2.2.2)
  by_cases e : k = 0
  · subst e
    rw [show 4 * 0 = 0 from rfl, w0, w2]; exact hL
  · rw [w4 (4 * k) (by omega) (by omega), w4 (4 * k + 2) (by omega) (by omega)]
    have := h (k - 1) (by omega)
    rw [show 4 * k - 4 = 4 * (k - 1) by omega, show 4 * k + 2 - 4 = 4 * (k - 1) + 2 by omega]
    exact this
theorem r_add {K : CK} {M : SK} {x y : Int32} (h : sRel K M) (hw : mWhy (kN M) (kH M) x y = 0) : sRel (xAdd K x y) (kAdd M x y) := by
  have hi : kInv (kAdd M x y) := by
    have e : kStep M 99 x y = (true, kAdd M x y) := (if_pos rfl).trans (if_pos hw)
    have := kStep_inv (sg := 99) (fi := x) (se := y) h.1 (Or.inl ⟨rfl, (mWhy_6 h.1.1 hw).2.2⟩)
    rw [e] at this; exact this
  obtain ⟨-, e1, e2, H, T, S, G, e3, e4, e5, N, O⟩ := h
  have ep : sPos (qH K) x (kN M) = sPos (kH M) x (kN M) := cg_Pos H
  refine ⟨hi, by show qN K + 1 = _; rw [e1]; rfl, e2, ?_, ?_, S, G, e3, e4, e5, N, O⟩
  · show ∀ i, i < kN M + 1 → sIns (qH K) (qN K) (sPos (qH K) x (qN K)) x i = sIns (kH M) (kN M) (sPos (kH M) x (kN M)) x i
    rw [e1, ep]; exact cg_Ins H (sPos_le _ _ _)
  · show ∀ i, i < kN M + 1 → sIns (qT K) (qN K) (sPos (qH K) x (qN K)) y i = sIns (kT2 M) (kN M) (sPos (kH M) x (kN M)) y i
    rw [e1, ep]; exact cg_Ins T (sPos_le _ _ _)
theorem r_drop {K : CK} {M : SK} {p : Nat} (h : sRel K M) (hp : p < kN M) : sRel (xDrop K p) (kDrop M p) := by
  have hn := h.1.1
  have hi : kInv (kDrop M p) := by
    have hx : (0 : Int32) ≤ nI p ∧ nI p < nI (kN M) := ⟨nI_pos' (by omega), nI_lt hp (by omega)⟩
    have e : kStep M 120 (nI p) 0 = (true, kDrop M p) := by
      have : kStep M 120 (nI p) 0 = (true, kDrop M (nI p).toNatClampNeg) := (if_neg (by decide)).trans ((if_pos rfl).trans (if_pos hx))
      rw [this, nI_clamp (by omega)]
    have := kStep_inv (sg := 120) (fi := nI p) (se := 0) h.1 (Or.inr (Or.inl ⟨rfl, hx.1, (nI_leI (b := 5) (by omega) (by decide)).mpr (by omega)⟩))
    rw [e] at this; exact this
  obtain ⟨-, e1, e2, H, T, S, G, e3, e4, e5, N, O⟩ := h
  refine ⟨hi, by show qN K - 1 = _; rw [e1]; rfl, e2, ?_, ?_, S, G, e3, e4, e5, N, O⟩
  · show ∀ i, i < kN M - 1 → sDn (qH K) p (qN K) i = sDn (kH M) p (kN M) i
    rw [e1]; exact cg_Dn H
  · show ∀ i, i < kN M - 1 → sDn (qT K) p (qN K) i = sDn (kT2 M) p (kN M) i
    rw [e1]; exact cg_Dn T
theorem xLg_m {K : CK} {M : SK} (h : sRel K M) : xLg K = mLgK M := by
  obtain ⟨⟨k1, k2, k3, k4, k5, k6, k7, k8, k9, k10, k11⟩, e1, e2, H, T, S, G, -⟩ := h
  unfold xLg mLgK
  rw [e1, e2, cg_Lg k1 H T S G, sLg_m k1 k3 k4 k8 k11]
theorem r_log {K : CK} {M : SK} (h : sRel K M) : sRel (xLog K) (kLog M (mLgK M)) := by
  have el := xLg_m h
  have hl := mLg_ok h.1
  have hi : kInv (kLog M (mLgK M)) := by
    obtain ⟨k1, k2, k3, k4, k5, k6, k7, k8⟩ := h.1
    exact ⟨k1, k2, k3, k4, by show min (kK M + 1) 8 ≤ 8; omega, k6, k7, k8⟩
  have hk := h.1.2.2.2.2.1
  obtain ⟨-, e1, e2, H, T, S, G, e3, e4, e5, N, O⟩ := h
  refine ⟨hi, e1, e2, H, T, S, G, ?_, ?_, ?_, ?_, ?_⟩
  · show min (qK K + 1) 8 = min (kK M + 1) 8; rw [e3]
  · show qLo K + 1 = kLo M + 1; rw [e4]
  · show qLf K + bI ((xLg K).2.2.2 = true) = kLf M + bI ((mLgK M).2.2.2 = true); rw [e5, el]
  · show ∀ i, i < 32 → sWrL (qNm K) (xLg K) i = sWrL (kNm M) (mLgK M) i
    rw [el]; exact cg_Wr N
  · exact nOk_log hk O hl
theorem r_aim {K : CK} {M : SK} {j : Nat} {x : Int32} (h : sRel K M) (hj : j < 2) (hx : sOk x) : sRel (xAim K j x) (kAim M j x) := by
  obtain ⟨⟨k1, k2, k3, k4, k5⟩, e1, e2, H, T, S, G, e3⟩ := h
  refine ⟨⟨k1, k2, sOk_upd k3 hx, sOk_upd k4 hx, k5⟩, e1, e2, H, T, fun i hi => ?_, G, e3⟩
  show upd (qS K) j x i = upd (kS M) j x i
  unfold upd
  split
  · rfl
  · exact S i hi
theorem mWhy_0 {n : Nat} {h : Nat → Int32} {x y : Int32} (hx : 50 ≤ x ∧ x ≤ 3000) (hy : 1 ≤ y ∧ y ≤ 100) (hn : n ≤ 6) : mWhy n h x y = 0 ↔ (sAny h x n = false ∧ n < 6) := by
  unfold mWhy
  rw [if_neg (fun z => z ⟨hx, hy⟩)]
  by_cases c : n = 6 ∨ sAny h x n = true
  · rw [if_pos c]
    refine ⟨fun z => absurd z (by decide), fun z => ?_⟩
    rcases c with c | c
    · omega
    · rw [z.1] at c; cases c
  · rw [if_neg c]
    exact ⟨fun _ => ⟨by simpa using fun z => c (Or.inr z), by have : ¬ n = 6 := fun z => c (Or.inl z); omega⟩, fun _ => rfl⟩
