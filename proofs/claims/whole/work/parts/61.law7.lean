/-! the switch -/
theorem and31 (x : Int32) : 0 ≤ (x &&& 31).toInt ∧ (x &&& 31).toInt ≤ 31 := by
  have h : (x &&& 31).toBitVec.toNat ≤ 31 := by
    show (x.toBitVec &&& (31 : Int32).toBitVec).toNat ≤ 31
    rw [BitVec.toNat_and]
    exact Nat.and_le_right
  have e : (x &&& 31).toInt = ((x &&& 31).toBitVec.toNat : Int) := by
    show (x &&& 31).toBitVec.toInt = _
    exact BitVec.toInt_eq_toNat_of_lt (by omega)
  rw [e]; omega
set_option maxHeartbeats 4000000 in
set_option maxRecDepth 100000 in
theorem lw_switch (cy : Nat → ClassId) (a : Nat → Nat) (b : Nat → Nat) (r : Nat) (nx : Nat) (sn : Nat) (ln : Nat) (sk : Nat → Nat → Nat) (S : Nat → CK) (ik : Nat → Int32) (bf : Nat → Nat) (kd : Nat) (hg : Nat) (nu : Nat) (dg : Nat) (ng : Bool) (tk : Bool) (n : Nat) (lit : Int32) (h : Nat → Int32) (t : Nat → Int32) (s : Nat → Int32) (g : Nat → Int32) (kn : Nat) (lo : Int32) (lf : Int32) (nm : Nat → Int32) (ob : Nat) (ou : Nat → Int64) (aM : Nat → Nat) (thM : Int32) (smM : Nat) (lnM : Nat) (ptM : Nat) (sgM : Nat) (fiM : Int32) (seM : Int32) (nM : Nat) (oM : Nat → Int32) (hM : Nat → Int32) (tM : Nat → Int32) (sM : Nat → Int32) (gM : Nat → Int32) (knM : Nat) (loM : Int32) (lfM : Int32) (nmM : Nat → Int32) (svM : Nat → Int32) (slM : Nat → Int32) (ikM : Nat → Int32) (bfM : Nat → Nat) (coM : Nat → Int32) (goM : Nat → Int32) (foM : Nat → Int32) (X : kX) (hR : xR X = room_1) (C : kC X 9 RL cL_law wsL_law cy) (Z : kZ (xA X) (xS X) (xS X).heap) (hst : (xL X).stackTraces = false) (sb i L ce sl : Nat) (xs : Nat → Int32) (hX : va_X sb L xs (xS X) (xS X).heap) (hbl : sb < (xS X).heap.size) (hbA : ¬ (xA X) sb) (hL : L ≤ 2048) (hi : i + 4 ≤ L) (hce : ce + 1 ≤ 620303 ∧ sl + 6 ≤ 7235195) (s0 : State) (d0 : Drawn) (hs : xS X = s0.setDrawn d0) (hd0 : s0.drawn.sameBut d0 lw_cs) (E : ∀ d, s0.drawn.sameBut d lw_cs → lwE (kXs X (s0.setDrawn d)) cy a b r sk ob aM sb i ce sl) (hgR : gR nx sn ln ik bf ((n, lit, h, t, s, g, kn, lo, lf, nm) : CK) S smM lnM ((nM, oM, hM, tM, sM, gM, knM, loM, lfM, nmM) : SK) svM slM ikM bfM)  : kG X 9 ce sl (([(ob, .inl (cy 4, 1, .inr (.inl ou)))] ++ ((wXo b cy (a 0) r nx sn ln (svOf sk) (kpOf sk) ik bf ++ wRd r kd hg nu dg ng tk) ++ (wSky a cy n lit h t s g kn lo lf nm ++ wOth sk cy S))) ++ (wM aM cy thM smM lnM ptM sgM fiM seM (mSt nM oM hM tM sM gM knM loM lfM nmM) svM slM ikM bfM coM goM foM)) 39 [(4, .int (nI i)), (3, .ref ob), (2, .ref (aM 0)), (1, .ref (b 0)), (0, .ref sb)] [.int (xs i &&& 31)] := by
  have E1 : lwE X cy a b r sk ob aM sb i ce sl := by
    have := E d0 hd0
    rw [kXs_self hs] at this; exact this
  obtain ⟨x0, x1⟩ := and31 (xs i)
  by_cases c : 23 < (xs i &&& 31).toInt
  · refine k_tabOut (q := 1415) C dL_law_39 (Or.inr c) (by decide) ?_
    refine k_wide (ce2 := ce + 1) (sl2 := sl + 6) (Nat.le_succ _) (by omega) ?_
    exact E1 nx sn ln S ik bf kd hg nu dg ng tk ((n, lit, h, t, s, g, kn, lo, lf, nm) : CK) ou thM smM lnM ptM sgM fiM seM ((nM, oM, hM, tM, sM, gM, knM, loM, lfM, nmM) : SK) svM slM ikM bfM coM goM foM hgR
  · rcases (show (xs i &&& 31).toInt = 0 ∨ (xs i &&& 31).toInt = 1 ∨ (xs i &&& 31).toInt = 2 ∨ (xs i &&& 31).toInt = 3 ∨ (xs i &&& 31).toInt = 4 ∨ (xs i &&& 31).toInt = 5 ∨ (xs i &&& 31).toInt = 6 ∨ (xs i &&& 31).toInt = 7 ∨ (xs i &&& 31).toInt = 8 ∨ (xs i &&& 31).toInt = 9 ∨ (xs i &&& 31).toInt = 10 ∨ (xs i &&& 31).toInt = 11 ∨ (xs i &&& 31).toInt = 12 ∨ (xs i &&& 31).toInt = 13 ∨ (xs i &&& 31).toInt = 14 ∨ (xs i &&& 31).toInt = 15 ∨ (xs i &&& 31).toInt = 16 ∨ (xs i &&& 31).toInt = 17 ∨ (xs i &&& 31).toInt = 18 ∨ (xs i &&& 31).toInt = 19 ∨ (xs i &&& 31).toInt = 20 ∨ (xs i &&& 31).toInt = 21 ∨ (xs i &&& 31).toInt = 22 ∨ (xs i &&& 31).toInt = 23 by omega) with e | e | e | e | e | e | e | e | e | e | e | e | e | e | e | e | e | e | e | e | e | e | e | e
    · refine k_tabIn (q := 148) (off := 109) C dL_law_39 (by omega) (by omega) (by rw [e]; rfl) (by decide) ?_
      exact ld_layer cy a b r nx sn ln sk S ik bf kd hg nu dg ng tk n lit h t s g kn lo lf nm ob ou aM thM smM lnM ptM sgM fiM seM nM oM hM tM sM gM knM loM lfM nmM svM slM ikM bfM coM goM foM X hR C Z hst sb i L ce sl xs hX hbl hbA hL hi hce E1 hgR
    · refine k_tabIn (q := 216) (off := 177) C dL_law_39 (by omega) (by omega) (by rw [e]; rfl) (by decide) ?_
      exact ld_clear cy a b r nx sn ln sk S ik bf kd hg nu dg ng tk n lit h t s g kn lo lf nm ob ou aM thM smM lnM ptM sgM fiM seM nM oM hM tM sM gM knM loM lfM nmM svM slM ikM bfM coM goM foM X hR C Z hst sb i L ce sl xs hX hbl hbA hL hi hce E1 hgR
    · refine k_tabIn (q := 272) (off := 233) C dL_law_39 (by omega) (by omega) (by rw [e]; rfl) (by decide) ?_
      exact ld_clearThin cy a b r nx sn ln sk S ik bf kd hg nu dg ng tk n lit h t s g kn lo lf nm ob ou aM thM smM lnM ptM sgM fiM seM nM oM hM tM sM gM knM loM lfM nmM svM slM ikM bfM coM goM foM X hR C Z hst sb i L ce sl xs hX hbl hbA hL hi hce E1 hgR
    · refine k_tabIn (q := 328) (off := 289) C dL_law_39 (by omega) (by omega) (by rw [e]; rfl) (by decide) ?_
      exact ld_aim cy a b r nx sn ln sk S ik bf kd hg nu dg ng tk n lit h t s g kn lo lf nm ob ou aM thM smM lnM ptM sgM fiM seM nM oM hM tM sM gM knM loM lfM nmM svM slM ikM bfM coM goM foM X hR C Z hst sb i L ce sl xs hX hbl hbA hL hi hce E1 hgR
    · refine k_tabIn (q := 396) (off := 357) C dL_law_39 (by omega) (by omega) (by rw [e]; rfl) (by decide) ?_
      exact ld_turn cy a b r nx sn ln sk S ik bf kd hg nu dg ng tk n lit h t s g kn lo lf nm ob ou aM thM smM lnM ptM sgM fiM seM nM oM hM tM sM gM knM loM lfM nmM svM slM ikM bfM coM goM foM X hR C Z hst sb i L ce sl xs hX hbl hbA hL hi hce E1 hgR
    · refine k_tabIn (q := 452) (off := 413) C dL_law_39 (by omega) (by omega) (by rw [e]; rfl) (by decide) ?_
      exact ld_set cy a b r nx sn ln sk S ik bf kd hg nu dg ng tk n lit h t s g kn lo lf nm ob ou aM thM smM lnM ptM sgM fiM seM nM oM hM tM sM gM knM loM lfM nmM svM slM ikM bfM coM goM foM X hR C Z hst sb i L ce sl xs hX hbl hbA hL hi hce E1 hgR
    · refine k_tabIn (q := 520) (off := 481) C dL_law_39 (by omega) (by omega) (by rw [e]; rfl) (by decide) ?_
      exact ld_scan cy a b r nx sn ln sk S ik bf kd hg nu dg ng tk n lit h t s g kn lo lf nm ob ou aM thM smM lnM ptM sgM fiM seM nM oM hM tM sM gM knM loM lfM nmM svM slM ikM bfM coM goM foM X hR C Z hst sb i L ce sl xs hX hbl hbA hL hi hce E1 hgR
    · refine k_tabIn (q := 588) (off := 549) C dL_law_39 (by omega) (by omega) (by rw [e]; rfl) (by decide) ?_
      exact ld_log cy a b r nx sn ln sk S ik bf kd hg nu dg ng tk n lit h t s g kn lo lf nm ob ou aM thM smM lnM ptM sgM fiM seM nM oM hM tM sM gM knM loM lfM nmM svM slM ikM bfM coM goM foM X hR C Z hst sb i L ce sl xs hX hbl hbA hL hi hce E1 hgR
    · refine k_tabIn (q := 601) (off := 562) C dL_law_39 (by omega) (by omega) (by rw [e]; rfl) (by decide) ?_
      exact ld_append cy a b r nx sn ln sk S ik bf kd hg nu dg ng tk n lit h t s g kn lo lf nm ob ou aM thM smM lnM ptM sgM fiM seM nM oM hM tM sM gM knM loM lfM nmM svM slM ikM bfM coM goM foM X hR C Z hst sb i L ce sl xs hX hbl hbA hL hi hce E1 hgR
    · refine k_tabIn (q := 657) (off := 618) C dL_law_39 (by omega) (by omega) (by rw [e]; rfl) (by decide) ?_
      exact ld_clearBuffer cy a b r nx sn ln sk S ik bf kd hg nu dg ng tk n lit h t s g kn lo lf nm ob ou aM thM smM lnM ptM sgM fiM seM nM oM hM tM sM gM knM loM lfM nmM svM slM ikM bfM coM goM foM X hR C Z hst sb i L ce sl xs hX hbl hbA hL hi hce E1 hgR
    · refine k_tabIn (q := 670) (off := 631) C dL_law_39 (by omega) (by omega) (by rw [e]; rfl) (by decide) ?_
      exact ld_firstError cy a b r nx sn ln sk S ik bf kd hg nu dg ng tk n lit h t s g kn lo lf nm ob ou aM thM smM lnM ptM sgM fiM seM nM oM hM tM sM gM knM loM lfM nmM svM slM ikM bfM coM goM foM X hR C Z hst sb i L ce sl xs hX hbl hbA hL hi hce E1 hgR
    · refine k_tabIn (q := 683) (off := 644) C dL_law_39 (by omega) (by omega) (by rw [e]; rfl) (by decide) ?_
      exact ld_execute cy a b r nx sn ln sk S ik bf kd hg nu dg ng tk n lit h t s g kn lo lf nm ob ou aM thM smM lnM ptM sgM fiM seM nM oM hM tM sM gM knM loM lfM nmM svM slM ikM bfM coM goM foM X hR C Z hst sb i L ce sl xs hX hbl hbA hL hi hce E1 hgR
    · refine k_tabIn (q := 727) (off := 688) C dL_law_39 (by omega) (by omega) (by rw [e]; rfl) (by decide) ?_
      exact ld_undo cy a b r nx sn ln sk S ik bf kd hg nu dg ng tk n lit h t s g kn lo lf nm ob ou aM thM smM lnM ptM sgM fiM seM nM oM hM tM sM gM knM loM lfM nmM svM slM ikM bfM coM goM foM X hR C Z hst sb i L ce sl xs hX hbl hbA hL hi hce E1 hgR
    · refine k_tabIn (q := 771) (off := 732) C dL_law_39 (by omega) (by omega) (by rw [e]; rfl) (by decide) ?_
      exact ld_keep cy a b r nx sn ln sk S ik bf kd hg nu dg ng tk n lit h t s g kn lo lf nm ob ou aM thM smM lnM ptM sgM fiM seM nM oM hM tM sM gM knM loM lfM nmM svM slM ikM bfM coM goM foM X hR C Z hst sb i L ce sl xs hX hbl hbA hL hi hce E1 hgR
    · refine k_tabIn (q := 827) (off := 788) C dL_law_39 (by omega) (by omega) (by rw [e]; rfl) (by decide) ?_
      exact ld_goBack cy a b r nx sn ln sk S ik bf kd hg nu dg ng tk n lit h t s g kn lo lf nm ob ou aM thM smM lnM ptM sgM fiM seM nM oM hM tM sM gM knM loM lfM nmM svM slM ikM bfM coM goM foM X hR C Z hst sb i L ce sl xs hX hbl hbA hL hi hce E1 hgR
    · refine k_tabIn (q := 883) (off := 844) C dL_law_39 (by omega) (by omega) (by rw [e]; rfl) (by decide) ?_
      exact ld_layerOf cy a b r nx sn ln sk S ik bf kd hg nu dg ng tk n lit h t s g kn lo lf nm ob ou aM thM smM lnM ptM sgM fiM seM nM oM hM tM sM gM knM loM lfM nmM svM slM ikM bfM coM goM foM X hR C Z hst sb i L ce sl xs hX hbl hbA hL hi hce E1 hgR
    · refine k_tabIn (q := 951) (off := 912) C dL_law_39 (by omega) (by omega) (by rw [e]; rfl) (by decide) ?_
      exact ld_spot cy a b r nx sn ln sk S ik bf kd hg nu dg ng tk n lit h t s g kn lo lf nm ob ou aM thM smM lnM ptM sgM fiM seM nM oM hM tM sM gM knM loM lfM nmM svM slM ikM bfM coM goM foM X hR C Z hst sb i L ce sl xs hX hbl hbA hL hi hce E1 hgR
    · refine k_tabIn (q := 1031) (off := 992) C dL_law_39 (by omega) (by omega) (by rw [e]; rfl) (by decide) ?_
      exact ld_reading cy a b r nx sn ln sk S ik bf kd hg nu dg ng tk n lit h t s g kn lo lf nm ob ou aM thM smM lnM ptM sgM fiM seM nM oM hM tM sM gM knM loM lfM nmM svM slM ikM bfM coM goM foM X hR C Z hst sb i L ce sl xs hX hbl hbA hL hi hce E1 hgR
    · refine k_tabIn (q := 1087) (off := 1048) C dL_law_39 (by omega) (by omega) (by rw [e]; rfl) (by decide) ?_
      exact ld_night cy a b r nx sn ln sk S ik bf kd hg nu dg ng tk n lit h t s g kn lo lf nm ob ou aM thM smM lnM ptM sgM fiM seM nM oM hM tM sM gM knM loM lfM nmM svM slM ikM bfM coM goM foM X hR C Z hst sb i L ce sl xs hX hbl hbA hL hi hce E1 hgR
    · refine k_tabIn (q := 1155) (off := 1116) C dL_law_39 (by omega) (by omega) (by rw [e]; rfl) (by decide) ?_
      exact ld_count cy a b r nx sn ln sk S ik bf kd hg nu dg ng tk n lit h t s g kn lo lf nm ob ou aM thM smM lnM ptM sgM fiM seM nM oM hM tM sM gM knM loM lfM nmM svM slM ikM bfM coM goM foM X hR C Z hst sb i L ce sl xs hX hbl hbA hL hi hce E1 hgR
    · refine k_tabIn (q := 1211) (off := 1172) C dL_law_39 (by omega) (by omega) (by rw [e]; rfl) (by decide) ?_
      exact ld_nearest cy a b r nx sn ln sk S ik bf kd hg nu dg ng tk n lit h t s g kn lo lf nm ob ou aM thM smM lnM ptM sgM fiM seM nM oM hM tM sM gM knM loM lfM nmM svM slM ikM bfM coM goM foM X hR C Z hst sb i L ce sl xs hX hbl hbA hL hi hce E1 hgR
    · refine k_tabIn (q := 1291) (off := 1252) C dL_law_39 (by omega) (by omega) (by rw [e]; rfl) (by decide) ?_
      exact ld_ifScanned cy a b r nx sn ln sk S ik bf kd hg nu dg ng tk n lit h t s g kn lo lf nm ob ou aM thM smM lnM ptM sgM fiM seM nM oM hM tM sM gM knM loM lfM nmM svM slM ikM bfM coM goM foM X hR C Z hst sb i L ce sl xs hX hbl hbA hL hi hce E1 hgR
    · refine k_tabIn (q := 1359) (off := 1320) C dL_law_39 (by omega) (by omega) (by rw [e]; rfl) (by decide) ?_
      exact ld_clearEnough cy a b r nx sn ln sk S ik bf kd hg nu dg ng tk n lit h t s g kn lo lf nm ob ou aM thM smM lnM ptM sgM fiM seM nM oM hM tM sM gM knM loM lfM nmM svM slM ikM bfM coM goM foM X hR C Z hst sb i L ce sl xs hX hbl hbA hL hi hce E1 hgR
    · refine k_tabIn (q := 1372) (off := 1333) C dL_law_39 (by omega) (by omega) (by rw [e]; rfl) (by decide) ?_
      exact lw_meanError cy a b r nx sn ln sk S ik bf kd hg nu dg ng tk n lit h t s g kn lo lf nm ob ou aM thM smM lnM ptM sgM fiM seM nM oM hM tM sM gM knM loM lfM nmM svM slM ikM bfM coM goM foM X hR C Z hst sb i L ce sl xs hX hbl hbA hL hi hce s0 d0 hs hd0 E hgR
