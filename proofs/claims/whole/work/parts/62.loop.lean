/-- at the loop's head, with any state in the relation -/
def lwH (X : kX) (cy : Nat → ClassId) (a b : Nat → Nat) (r : Nat) (sk : Nat → Nat → Nat) (ob : Nat) (aM : Nat → Nat) (sb i ce sl : Nat) : Prop := ∀ (nx : Nat) (sn : Nat) (ln : Nat) (S : Nat → CK) (ik : Nat → Int32) (bf : Nat → Nat) (kd : Nat) (hg : Nat) (nu : Nat) (dg : Nat) (ng : Bool) (tk : Bool) (K : CK) (ou : Nat → Int64) (thM : Int32) (smM : Nat) (lnM : Nat) (ptM : Nat) (sgM : Nat) (fiM : Int32) (seM : Int32) (M : SK) (svM : Nat → Int32) (slM : Nat → Int32) (ikM : Nat → Int32) (bfM : Nat → Nat) (coM : Nat → Int32) (goM : Nat → Int32) (foM : Nat → Int32), gR nx sn ln ik bf K S smM lnM M svM slM ikM bfM → kG X 9 ce sl (([(ob, .inl (cy 4, 1, .inr (.inl ou)))] ++ ((wXo b cy (a 0) r nx sn ln (svOf sk) (kpOf sk) ik bf ++ wRd r kd hg nu dg ng tk) ++ (wSky a cy (qN K) (qLit K) (qH K) (qT K) (qS K) (qG K) (qK K) (qLo K) (qLf K) (qNm K) ++ wOth sk cy S))) ++ (wM aM cy thM smM lnM ptM sgM fiM seM (mSt (kN M) (kO M) (kH M) (kT2 M) (kS M) (kGs M) (kK M) (kLo M) (kLf M) (kNm M)) svM slM ikM bfM coM goM foM)) 23 [(4, .int (nI i)), (3, .ref ob), (2, .ref (aM 0)), (1, .ref (b 0)), (0, .ref sb)] []
theorem lw_inc {X : kX} {cy : Nat → ClassId} {a b : Nat → Nat} {r : Nat} {sk : Nat → Nat → Nat} {ob : Nat} {aM : Nat → Nat} {sb i ce sl : Nat} (C : kC X 9 RL cL_law wsL_law cy) (hi : i ≤ 2048) (h : lwH X cy a b r sk ob aM sb (i + 4) (ce + 1) (sl + 6)) : lwE X cy a b r sk ob aM sb i ce sl := by
  intro nx sn ln S ik bf kd hg nu dg ng tk K ou thM smM lnM ptM sgM fiM seM M svM slM ikM bfM coM goM foM hgR
  refine k_iinc (i := 4) (q := 1418) (v := nI (i + 4)) (fr2 := [(4, .int (nI (i + 4))), (3, .ref ob), (2, .ref (aM 0)), (1, .ref (b 0)), (0, .ref sb)]) C 0 dL_law_1415 rfl (by rw [show Int32.ofInt 4 = nI 4 from by decide +kernel]; exact nI_add i 4) (by decide) rfl rfl ?_
  refine k_goto (q := 23) C dL_law_1418 (by decide) ?_
  exact h nx sn ln S ik bf kd hg nu dg ng tk K ou thM smM lnM ptM sgM fiM seM M svM slM ikM bfM coM goM foM hgR
theorem lw_head {X : kX} {cy : Nat → ClassId} {w : va_W} {b0 m0 ob sb i L ce sl : Nat} {xs : Nat → Int32} (C : kC X 9 RL cL_law wsL_law cy) (hX : va_X sb L xs (xS X) (xS X).heap) (hbl : sb < (xS X).heap.size) (hbA : ¬ (xA X) sb) (hL : L ≤ 2048) (h0 : i ≤ L)
    (Gt : L < i + 4 → kG X 9 ce sl w 1421 [(4, .int (nI i)), (3, .ref ob), (2, .ref m0), (1, .ref b0), (0, .ref sb)] [])
    (Gf : i + 4 ≤ L → kG X 9 ce sl w 39 [(4, .int (nI i)), (3, .ref ob), (2, .ref m0), (1, .ref b0), (0, .ref sb)] [.int (xs i &&& 31)]) :
    kG X 9 ce sl w 23 [(4, .int (nI i)), (3, .ref ob), (2, .ref m0), (1, .ref b0), (0, .ref sb)] [] := by
  have eL : (nI L - 4).toInt = (L : Int) - 4 := by
    rw [Int32.toInt_sub, nI_toInt (by omega), show (4 : Int32).toInt = 4 by decide +kernel]
    exact Int.bmod_eq_of_le (by omega) (by omega)
  refine k_iload (q := 25) C 0 dL_law_23 rfl rfl ?_
  refine k_aload_n (q := 26) C 4 dL_law_25 rfl rfl ?_
  refine k_slen (q := 27) C hX hbl hbA dL_law_26 rfl ?_
  refine k_iconst (q := 28) (v := 4) C dL_law_27 (by decide) rfl ?_
  refine k_isub (q := 29) C dL_law_28 rfl ?_
  refine k_icmp_gt (tgt := 1421) (q := 32) C dL_law_29 (by decide) rfl (fun h => Gt ?_) (fun h => ?_)
  · rw [Int32.lt_iff_toInt_lt, eL, nI_toInt (by omega)] at h; omega
  · have hi : i + 4 ≤ L := by
      rw [Int32.lt_iff_toInt_lt, eL, nI_toInt (by omega)] at h; omega
    refine k_aload_n (q := 33) C 4 dL_law_32 rfl rfl ?_
    refine k_iload (q := 35) C 0 dL_law_33 rfl rfl ?_
    refine k_sld (q := 36) C hX hbl hbA (vp_in_nI (n := i) (by omega) (by omega)) dL_law_35 rfl ?_
    refine k_st (st2 := (.int (xs i) :: _)) (congrArg (fun z => Value.int z :: _) (show xs (nI i).toNatClampNeg = xs i from congrArg xs (nI_clamp (n := i) (by omega)))) ?_
    refine k_bipush (q := 38) (v := 31) C dL_law_36 (by decide +kernel) rfl ?_
    refine k_iand (q := 39) C dL_law_38 rfl ?_
    exact Gf hi
set_option maxHeartbeats 4000000 in
set_option maxRecDepth 100000 in
theorem lw_loop (cy : Nat → ClassId) (a b : Nat → Nat) (r : Nat) (sk : Nat → Nat → Nat) (ob : Nat) (aM : Nat → Nat) (X : kX) (hR : xR X = room_1) (C : kC X 9 RL cL_law wsL_law cy) (Z : kZ (xA X) (xS X) (xS X).heap) (hst : (xL X).stackTraces = false) (s0 : State) (d0 : Drawn) (hs : xS X = s0.setDrawn d0) (sb L : Nat) (xs : Nat → Int32) (hX : va_X sb L xs (xS X) (xS X).heap) (hbl : sb < (xS X).heap.size) (hbA : ¬ (xA X) sb) (hL : L ≤ 2048)
    (Fin : ∀ (d : Drawn) (ce sl : Nat) (w : va_W) (fr : List (Nat × Value)), s0.drawn.sameBut d lw_cs → ce ≤ 620303 → sl ≤ 7235195 → kG (kXs X (s0.setDrawn d)) 9 ce sl w 1421 fr []) :
    ∀ (m i ce sl : Nat), i ≤ L → L < i + 4 + 4 * m → ce + m ≤ 620303 → sl + 6 * m ≤ 7235195 → ∀ d, s0.drawn.sameBut d lw_cs → lwH (kXs X (s0.setDrawn d)) cy a b r sk ob aM sb i ce sl := by
  rw [hs] at hX hbl Z
  have hA : xA X sb → False := hbA
  intro m
  induction m with
  | zero =>
    intro i ce sl h1 h2 h3 h4 d hd nx sn ln S ik bf kd hg nu dg ng tk K ou thM smM lnM ptM sgM fiM seM M svM slM ikM bfM coM goM foM hgR
    have C1 : kC (kXs X (s0.setDrawn d)) 9 RL cL_law wsL_law cy := kC_d (d := d) C hs
    have hX1 : va_X sb L xs (xS (kXs X (s0.setDrawn d))) (xS (kXs X (s0.setDrawn d))).heap := hX
    have hbl1 : sb < (xS (kXs X (s0.setDrawn d))).heap.size := hbl
    exact lw_head C1 hX1 hbl1 hA hL h1 (fun _ => Fin d ce sl _ _ hd (by omega) (by omega)) (fun hi => absurd hi (by omega))
  | succ m ih =>
    intro i ce sl h1 h2 h3 h4 d hd nx sn ln S ik bf kd hg nu dg ng tk K ou thM smM lnM ptM sgM fiM seM M svM slM ikM bfM coM goM foM hgR
    have C1 : kC (kXs X (s0.setDrawn d)) 9 RL cL_law wsL_law cy := kC_d (d := d) C hs
    have hX1 : va_X sb L xs (xS (kXs X (s0.setDrawn d))) (xS (kXs X (s0.setDrawn d))).heap := hX
    have hbl1 : sb < (xS (kXs X (s0.setDrawn d))).heap.size := hbl
    have Z1 : kZ (xA X) (s0.setDrawn d0) (s0.setDrawn d0).heap := Z
    refine lw_head C1 hX1 hbl1 hA hL h1 (fun _ => Fin d ce sl _ _ hd (by omega) (by omega)) (fun hi => ?_)
    obtain ⟨n, lit, h, t, s, g, kn, lo, lf, nm⟩ := K
    obtain ⟨nM, oM, hM, tM, sM, gM, knM, loM, lfM, nmM⟩ := M
    exact lw_switch cy a b r nx sn ln sk S ik bf kd hg nu dg ng tk n lit h t s g kn lo lf nm ob ou aM thM smM lnM ptM sgM fiM seM nM oM hM tM sM gM knM loM lfM nmM svM slM ikM bfM coM goM foM (kXs X (s0.setDrawn d)) (show xR (kXs X (s0.setDrawn d)) = room_1 from hR) C1 (kZ_d (s := s0) (d0 := d0) (d := d) Z1) hst sb i L ce sl xs hX1 hbl1 hbA hL hi ⟨by omega, by omega⟩ s0 d rfl hd (fun d' hd' => lw_inc (show kC (kXs X (s0.setDrawn d')) 9 RL cL_law wsL_law cy from kC_d (d := d') C hs) (by omega) (ih (i + 4) (ce + 1) (sl + 6) (by omega) (by omega) (by omega) (by omega) d' hd')) hgR
