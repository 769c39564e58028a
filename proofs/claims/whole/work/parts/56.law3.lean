set_option maxHeartbeats 4000000 in
set_option maxRecDepth 100000 in
theorem lw_log (cy : Nat → ClassId) (a : Nat → Nat) (b : Nat → Nat) (r : Nat) (nx : Nat) (sn : Nat) (ln : Nat) (sk : Nat → Nat → Nat) (S : Nat → CK) (ik : Nat → Int32) (bf : Nat → Nat) (kd : Nat) (hg : Nat) (nu : Nat) (dg : Nat) (ng : Bool) (tk : Bool) (n : Nat) (lit : Int32) (h : Nat → Int32) (t : Nat → Int32) (s : Nat → Int32) (g : Nat → Int32) (kn : Nat) (lo : Int32) (lf : Int32) (nm : Nat → Int32) (ob : Nat) (ou : Nat → Int64) (aM : Nat → Nat) (thM : Int32) (smM : Nat) (lnM : Nat) (ptM : Nat) (sgM : Nat) (fiM : Int32) (seM : Int32) (nM : Nat) (oM : Nat → Int32) (hM : Nat → Int32) (tM : Nat → Int32) (sM : Nat → Int32) (gM : Nat → Int32) (knM : Nat) (loM : Int32) (lfM : Int32) (nmM : Nat → Int32) (svM : Nat → Int32) (slM : Nat → Int32) (ikM : Nat → Int32) (bfM : Nat → Nat) (coM : Nat → Int32) (goM : Nat → Int32) (foM : Nat → Int32) (X : kX) (hR : xR X = room_1) (C : kC X 9 RL cL_law wsL_law cy) (Z : kZ (xA X) (xS X) (xS X).heap) (hst : (xL X).stackTraces = false) (sb i L ce sl : Nat) (xs : Nat → Int32) (hX : va_X sb L xs (xS X) (xS X).heap) (hbl : sb < (xS X).heap.size) (hbA : ¬ (xA X) sb) (hL : L ≤ 2048) (hi : i + 4 ≤ L) (hce : ce + 1 ≤ 620303 ∧ sl + 6 ≤ 7235195) (E : lwE X cy a b r sk ob aM sb i ce sl) (hgR : gR nx sn ln ik bf ((n, lit, h, t, s, g, kn, lo, lf, nm) : CK) S smM lnM ((nM, oM, hM, tM, sM, gM, knM, loM, lfM, nmM) : SK) svM slM ikM bfM)  : kG X 9 ce sl (([(ob, .inl (cy 4, 1, .inr (.inl ou)))] ++ ((wXo b cy (a 0) r nx sn ln (svOf sk) (kpOf sk) ik bf ++ wRd r kd hg nu dg ng tk) ++ (wSky a cy n lit h t s g kn lo lf nm ++ wOth sk cy S))) ++ (wM aM cy thM smM lnM ptM sgM fiM seM (mSt nM oM hM tM sM gM knM loM lfM nmM) svM slM ikM bfM coM goM foM)) 588 [(4, .int (nI i)), (3, .ref ob), (2, .ref (aM 0)), (1, .ref (b 0)), (0, .ref sb)] [] := by
  obtain ⟨hr, hsn, hri, hke, hln, hl60, hbf, hb126⟩ := id hgR
  have hnx := hri.2.1
  have hsm := hri.1
  have hn := hr.1.1
  have en : n = nM := hr.2.1
  have el : lit = mLit oM := hr.2.2.1
  have hH := hr.2.2.2.1
  have hT := hr.2.2.2.2.1
  have hS := hr.2.2.2.2.2.1
  have hG := hr.2.2.2.2.2.2.1
  have ekn : kn = knM := hr.2.2.2.2.2.2.2.1
  have ho := hr.1.2.1
  have hs0 := hr.1.2.2.1
  have hs1 := hr.1.2.2.2.1
  have hk8 := hr.1.2.2.2.2.1
  have hn6 : n ≤ 6 := by rw [en]; exact hn
  have hkn8 : kn ≤ 8 := by rw [ekn]; exact hk8
  have hsn6 : sn ≤ 6 := by omega
  refine k_aload_n (q := 589) C 3 dL_law_588 rfl rfl ?_
  refine k_callVI (n := 0) (q := 592) (pre := ([(ob, .inl (cy 4, 1, .inr (.inl ou)))] : va_W)) (post := (wM aM cy thM smM lnM ptM sgM fiM seM (mSt nM oM hM tM sM gM knM loM lfM nmM) svM slM ikM bfM coM goM foM)) (w2 := (([(ob, .inl (cy 4, 1, .inr (.inl ou)))] ++ ((wXo b cy (a 0) r ((nx + 1) % 6) (min (sn + 1) 6) ln (svOf sk) (kpOf sk) ik bf ++ wRd r kd hg nu dg ng tk) ++ (wSky a cy n lit h t s g (min (kn + 1) 8) (lo + 1) (lf + bI ((sLg lit h t s g n).2.2.2 = true)) (sWrL nm (sLg lit h t s g n)) ++ wOth sk cy (updS S nx (cLike (n, lit, h, t, s, g, kn, lo, lf, nm) (S nx)))))) ++ (wM aM cy thM smM lnM ptM sgM fiM seM (mSt nM oM hM tM sM gM knM loM lfM nmM) svM slM ikM bfM coM goM foM))) (As := []) (rest := []) C (c_X3_log cy a b r nx sn ln sk S ik bf kd hg nu dg ng tk n lit h t s g kn lo lf nm hnx hsn6 hn6 hkn8) gL_law_X3_log rfl rfl rfl (by decide +kernel) (k_room hR (by decide)) (k_le hR (by omega)) (ci := 3) rfl 0 rfl rfl rfl (Nat.le_of_ble_eq_true rfl) (rfl) (rfl) dL_law_589 rfl ?_
  refine k_aload_n (q := 593) C 2 dL_law_592 rfl rfl ?_
  refine k_callVIx (n := 0) (q := 596) (pre := ([(ob, .inl (cy 4, 1, .inr (.inl ou)))] ++ ((wXo b cy (a 0) r ((nx + 1) % 6) (min (sn + 1) 6) ln (svOf sk) (kpOf sk) ik bf ++ wRd r kd hg nu dg ng tk) ++ (wSky a cy n lit h t s g (min (kn + 1) 8) (lo + 1) (lf + bI ((sLg lit h t s g n).2.2.2 = true)) (sWrL nm (sLg lit h t s g n)) ++ wOth sk cy (updS S nx (cLike (n, lit, h, t, s, g, kn, lo, lf, nm) (S nx))))))) (post := ([] : va_W)) (w2 := (fun u => (([(ob, .inl (cy 4, 1, .inr (.inl ou)))] ++ ((wXo b cy (a 0) r ((nx + 1) % 6) (min (sn + 1) 6) ln (svOf sk) (kpOf sk) ik bf ++ wRd r kd hg nu dg ng tk) ++ (wSky a cy n lit h t s g (min (kn + 1) 8) (lo + 1) (lf + bI ((sLg lit h t s g n).2.2.2 = true)) (sWrL nm (sLg lit h t s g n)) ++ wOth sk cy (updS S nx (cLike (n, lit, h, t, s, g, kn, lo, lf, nm) (S nx)))))) ++ (wM aM cy 0 (min (smM + 1) 6) lnM ptM sgM fiM seM (mSt nM oM hM tM sM gM (min (knM + 1) 8) (loM + 1) (lfM + bI ((mLg hM nM (sMeet gM (sM 0) (sM 1)) (mC (sClose (mLit oM) hM tM sM gM) (mD hM sM gM) nM)).2.2.2 = true)) (sWrL nmM (mLg hM nM (sMeet gM (sM 0) (sM 1)) (mC (sClose (mLit oM) hM tM sM gM) (mD hM sM gM) nM)))) (mSave svM (mSt nM oM hM tM sM gM knM loM lfM nmM) smM) slM ikM bfM (u.1) (u.2.1) (u.2.2))))) (As := []) (rest := [.int (nI (min (kn + 1) 8))]) C (c_X4_log cy aM thM smM lnM ptM sgM fiM seM nM oM hM tM sM gM knM loM lfM nmM svM slM ikM bfM coM goM foM hn ho hs0 hs1 hk8 hsm) gL_law_X4_log rfl rfl rfl (by decide +kernel) (k_room hR (by decide)) (k_le hR (by omega)) (ci := 4) rfl 0 rfl rfl rfl (Nat.le_of_ble_eq_true rfl) (k_pre) (fun u => k_pre.symm) dL_law_593 rfl ?_
  rintro ⟨co_593, go_593, fo_593⟩ h_593
  try dsimp only at h_593
  refine k_st (st2 := (.int (nI (min (kn + 1) 8)) :: _)) (congrArg (fun z => Value.int z :: _) (show nI (min (knM + 1) 8) = nI (min (kn + 1) 8) from (by rw [ekn]))) ?_
  refine k_icmp_eq (tgt := 1415) (q := 599) C dL_law_596 (by decide) rfl ?_ ?_
  · intro c_596
    refine k_fr (fr2 := [(4, .int (nI i)), (3, .ref ob), (2, .ref (aM 0)), (1, .ref (b 0)), (0, .ref sb)]) ⟨[0, 1, 2, 3, 4], rfl⟩ ?_
    refine k_wide (ce2 := ce + 1) (sl2 := sl + 6) (Nat.le_succ _) (by omega) ?_
    exact E ((nx + 1) % 6) (min (sn + 1) 6) ln (updS S nx (cLike (n, lit, h, t, s, g, kn, lo, lf, nm) (S nx))) ik bf kd hg nu dg ng tk ((n, lit, h, t, s, g, min (kn + 1) 8, lo + 1, lf + bI ((sLg lit h t s g n).2.2.2 = true), sWrL nm (sLg lit h t s g n)) : CK) ou 0 (min (smM + 1) 6) lnM ptM sgM fiM seM ((nM, oM, hM, tM, sM, gM, min (knM + 1) 8, loM + 1, lfM + bI ((mLg hM nM (sMeet gM (sM 0) (sM 1)) (mC (sClose (mLit oM) hM tM sM gM) (mD hM sM gM) nM)).2.2.2 = true), sWrL nmM (mLg hM nM (sMeet gM (sM 0) (sM 1)) (mC (sClose (mLit oM) hM tM sM gM) (mD hM sM gM) nM))) : SK) (mSave svM (mSt nM oM hM tM sM gM knM loM lfM nmM) smM) slM ikM bfM co_593 go_593 fo_593 (⟨r_log hr, by omega, ring_save hri hr, kept_save hke hnx, hln, hl60, hbf, hb126⟩)
  · exact fun c_596 => absurd rfl c_596
set_option maxHeartbeats 4000000 in
set_option maxRecDepth 100000 in
theorem lw_clearBuffer (cy : Nat → ClassId) (a : Nat → Nat) (b : Nat → Nat) (r : Nat) (nx : Nat) (sn : Nat) (ln : Nat) (sk : Nat → Nat → Nat) (S : Nat → CK) (ik : Nat → Int32) (bf : Nat → Nat) (kd : Nat) (hg : Nat) (nu : Nat) (dg : Nat) (ng : Bool) (tk : Bool) (n : Nat) (lit : Int32) (h : Nat → Int32) (t : Nat → Int32) (s : Nat → Int32) (g : Nat → Int32) (kn : Nat) (lo : Int32) (lf : Int32) (nm : Nat → Int32) (ob : Nat) (ou : Nat → Int64) (aM : Nat → Nat) (thM : Int32) (smM : Nat) (lnM : Nat) (ptM : Nat) (sgM : Nat) (fiM : Int32) (seM : Int32) (nM : Nat) (oM : Nat → Int32) (hM : Nat → Int32) (tM : Nat → Int32) (sM : Nat → Int32) (gM : Nat → Int32) (knM : Nat) (loM : Int32) (lfM : Int32) (nmM : Nat → Int32) (svM : Nat → Int32) (slM : Nat → Int32) (ikM : Nat → Int32) (bfM : Nat → Nat) (coM : Nat → Int32) (goM : Nat → Int32) (foM : Nat → Int32) (X : kX) (hR : xR X = room_1) (C : kC X 9 RL cL_law wsL_law cy) (Z : kZ (xA X) (xS X) (xS X).heap) (hst : (xL X).stackTraces = false) (sb i L ce sl : Nat) (xs : Nat → Int32) (hX : va_X sb L xs (xS X) (xS X).heap) (hbl : sb < (xS X).heap.size) (hbA : ¬ (xA X) sb) (hL : L ≤ 2048) (hi : i + 4 ≤ L) (hce : ce + 1 ≤ 620303 ∧ sl + 6 ≤ 7235195) (E : lwE X cy a b r sk ob aM sb i ce sl) (hgR : gR nx sn ln ik bf ((n, lit, h, t, s, g, kn, lo, lf, nm) : CK) S smM lnM ((nM, oM, hM, tM, sM, gM, knM, loM, lfM, nmM) : SK) svM slM ikM bfM)  : kG X 9 ce sl (([(ob, .inl (cy 4, 1, .inr (.inl ou)))] ++ ((wXo b cy (a 0) r nx sn ln (svOf sk) (kpOf sk) ik bf ++ wRd r kd hg nu dg ng tk) ++ (wSky a cy n lit h t s g kn lo lf nm ++ wOth sk cy S))) ++ (wM aM cy thM smM lnM ptM sgM fiM seM (mSt nM oM hM tM sM gM knM loM lfM nmM) svM slM ikM bfM coM goM foM)) 657 [(4, .int (nI i)), (3, .ref ob), (2, .ref (aM 0)), (1, .ref (b 0)), (0, .ref sb)] [] := by
  obtain ⟨hr, hsn, hri, hke, hln, hl60, hbf, hb126⟩ := id hgR
  have hnx := hri.2.1
  have hsm := hri.1
  have hn := hr.1.1
  have en : n = nM := hr.2.1
  have el : lit = mLit oM := hr.2.2.1
  have hH := hr.2.2.2.1
  have hT := hr.2.2.2.2.1
  have hS := hr.2.2.2.2.2.1
  have hG := hr.2.2.2.2.2.2.1
  have ekn : kn = knM := hr.2.2.2.2.2.2.2.1
  have ho := hr.1.2.1
  have hs0 := hr.1.2.2.1
  have hs1 := hr.1.2.2.2.1
  have hk8 := hr.1.2.2.2.2.1
  have hn6 : n ≤ 6 := by rw [en]; exact hn
  have hkn8 : kn ≤ 8 := by rw [ekn]; exact hk8
  have hsn6 : sn ≤ 6 := by omega
  refine k_aload_n (q := 658) C 3 dL_law_657 rfl rfl ?_
  refine k_callVI (n := 0) (q := 661) (pre := ([(ob, .inl (cy 4, 1, .inr (.inl ou)))] : va_W)) (post := (wM aM cy thM smM lnM ptM sgM fiM seM (mSt nM oM hM tM sM gM knM loM lfM nmM) svM slM ikM bfM coM goM foM)) (w2 := (([(ob, .inl (cy 4, 1, .inr (.inl ou)))] ++ ((wXo b cy (a 0) r nx sn 0 (svOf sk) (kpOf sk) ik bf ++ wRd r kd hg nu dg ng tk) ++ (wSky a cy n lit h t s g kn lo lf nm ++ wOth sk cy S))) ++ (wM aM cy thM smM lnM ptM sgM fiM seM (mSt nM oM hM tM sM gM knM loM lfM nmM) svM slM ikM bfM coM goM foM))) (As := []) (rest := []) C (c_X3_clearBuffer cy a b r nx sn ln (svOf sk) (kpOf sk) ik bf kd hg nu dg ng tk n lit h t s g kn lo lf nm (wOth sk cy S)) gL_law_X3_clearBuffer rfl rfl rfl (by decide +kernel) (k_room hR (by decide)) (k_le hR (by omega)) (ci := 3) rfl 0 rfl rfl rfl (Nat.le_of_ble_eq_true rfl) (rfl) (rfl) dL_law_658 rfl ?_
  refine k_aload_n (q := 662) C 2 dL_law_661 rfl rfl ?_
  refine k_callVI (n := 0) (q := 665) (pre := ([(ob, .inl (cy 4, 1, .inr (.inl ou)))] ++ ((wXo b cy (a 0) r nx sn 0 (svOf sk) (kpOf sk) ik bf ++ wRd r kd hg nu dg ng tk) ++ (wSky a cy n lit h t s g kn lo lf nm ++ wOth sk cy S)))) (post := ([] : va_W)) (w2 := (([(ob, .inl (cy 4, 1, .inr (.inl ou)))] ++ ((wXo b cy (a 0) r nx sn 0 (svOf sk) (kpOf sk) ik bf ++ wRd r kd hg nu dg ng tk) ++ (wSky a cy n lit h t s g kn lo lf nm ++ wOth sk cy S))) ++ (wM aM cy 0 smM 0 ptM sgM fiM seM (mSt nM oM hM tM sM gM knM loM lfM nmM) svM slM ikM bfM coM goM foM))) (As := []) (rest := [.int (nI ln)]) C (c_X4_clearBuffer cy aM thM smM lnM ptM sgM fiM seM nM oM hM tM sM gM knM loM lfM nmM svM slM ikM bfM coM goM foM) gL_law_X4_clearBuffer rfl rfl rfl (by decide +kernel) (k_room hR (by decide)) (k_le hR (by omega)) (ci := 4) rfl 0 rfl rfl rfl (Nat.le_of_ble_eq_true rfl) (k_pre) (k_pre.symm) dL_law_662 rfl ?_
  refine k_st (st2 := (.int (nI ln) :: _)) (congrArg (fun z => Value.int z :: _) (show nI lnM = nI ln from (by rw [hln]))) ?_
  refine k_icmp_eq (tgt := 1415) (q := 668) C dL_law_665 (by decide) rfl ?_ ?_
  · intro c_665
    refine k_fr (fr2 := [(4, .int (nI i)), (3, .ref ob), (2, .ref (aM 0)), (1, .ref (b 0)), (0, .ref sb)]) ⟨[0, 1, 2, 3, 4], rfl⟩ ?_
    refine k_wide (ce2 := ce + 1) (sl2 := sl + 6) (Nat.le_succ _) (by omega) ?_
    exact E nx sn 0 S ik bf kd hg nu dg ng tk ((n, lit, h, t, s, g, kn, lo, lf, nm) : CK) ou 0 smM 0 ptM sgM fiM seM ((nM, oM, hM, tM, sM, gM, knM, loM, lfM, nmM) : SK) svM slM ikM bfM coM goM foM (⟨hr, hsn, hri, hke, rfl, Nat.zero_le _, hbf, hb126⟩)
  · exact fun c_665 => absurd rfl c_665
set_option maxHeartbeats 4000000 in
set_option maxRecDepth 100000 in
theorem lw_firstError (cy : Nat → ClassId) (a : Nat → Nat) (b : Nat → Nat) (r : Nat) (nx : Nat) (sn : Nat) (ln : Nat) (sk : Nat → Nat → Nat) (S : Nat → CK) (ik : Nat → Int32) (bf : Nat → Nat) (kd : Nat) (hg : Nat) (nu : Nat) (dg : Nat) (ng : Bool) (tk : Bool) (n : Nat) (lit : Int32) (h : Nat → Int32) (t : Nat → Int32) (s : Nat → Int32) (g : Nat → Int32) (kn : Nat) (lo : Int32) (lf : Int32) (nm : Nat → Int32) (ob : Nat) (ou : Nat → Int64) (aM : Nat → Nat) (thM : Int32) (smM : Nat) (ptM : Nat) (sgM : Nat) (fiM : Int32) (seM : Int32) (nM : Nat) (oM : Nat → Int32) (hM : Nat → Int32) (tM : Nat → Int32) (sM : Nat → Int32) (gM : Nat → Int32) (knM : Nat) (loM : Int32) (lfM : Int32) (nmM : Nat → Int32) (svM : Nat → Int32) (slM : Nat → Int32) (ikM : Nat → Int32) (coM : Nat → Int32) (goM : Nat → Int32) (foM : Nat → Int32) (X : kX) (hR : xR X = room_1) (C : kC X 9 RL cL_law wsL_law cy) (Z : kZ (xA X) (xS X) (xS X).heap) (hst : (xL X).stackTraces = false) (sb i L ce sl : Nat) (xs : Nat → Int32) (hX : va_X sb L xs (xS X) (xS X).heap) (hbl : sb < (xS X).heap.size) (hbA : ¬ (xA X) sb) (hL : L ≤ 2048) (hi : i + 4 ≤ L) (hce : ce + 1 ≤ 620303 ∧ sl + 6 ≤ 7235195) (E : lwE X cy a b r sk ob aM sb i ce sl) (hgR : gR nx sn ln ik bf ((n, lit, h, t, s, g, kn, lo, lf, nm) : CK) S smM ln ((nM, oM, hM, tM, sM, gM, knM, loM, lfM, nmM) : SK) svM slM ikM bf)  : kG X 9 ce sl (([(ob, .inl (cy 4, 1, .inr (.inl ou)))] ++ ((wXo b cy (a 0) r nx sn ln (svOf sk) (kpOf sk) ik bf ++ wRd r kd hg nu dg ng tk) ++ (wSky a cy n lit h t s g kn lo lf nm ++ wOth sk cy S))) ++ (wM aM cy thM smM ln ptM sgM fiM seM (mSt nM oM hM tM sM gM knM loM lfM nmM) svM slM ikM bf coM goM foM)) 670 [(4, .int (nI i)), (3, .ref ob), (2, .ref (aM 0)), (1, .ref (b 0)), (0, .ref sb)] [] := by
  obtain ⟨hr, hsn, hri, hke, hln, hl60, hbf, hb126⟩ := id hgR
  have hnx := hri.2.1
  have hsm := hri.1
  have hn := hr.1.1
  have en : n = nM := hr.2.1
  have el : lit = mLit oM := hr.2.2.1
  have hH := hr.2.2.2.1
  have hT := hr.2.2.2.2.1
  have hS := hr.2.2.2.2.2.1
  have hG := hr.2.2.2.2.2.2.1
  have ekn : kn = knM := hr.2.2.2.2.2.2.2.1
  have ho := hr.1.2.1
  have hs0 := hr.1.2.2.1
  have hs1 := hr.1.2.2.2.1
  have hk8 := hr.1.2.2.2.2.1
  have hn6 : n ≤ 6 := by rw [en]; exact hn
  have hkn8 : kn ≤ 8 := by rw [ekn]; exact hk8
  have hsn6 : sn ≤ 6 := by omega
  refine k_aload_n (q := 671) C 3 dL_law_670 rfl rfl ?_
  refine k_callVI (n := 0) (q := 674) (pre := ([(ob, .inl (cy 4, 1, .inr (.inl ou)))] : va_W)) (post := (wM aM cy thM smM ln ptM sgM fiM seM (mSt nM oM hM tM sM gM knM loM lfM nmM) svM slM ikM bf coM goM foM)) (w2 := (([(ob, .inl (cy 4, 1, .inr (.inl ou)))] ++ ((wXo b cy (a 0) r nx sn ln (svOf sk) (kpOf sk) ik bf ++ wRd r (xRead bf ln (ln + 1) 0 ((0, 0, 0, 0, false, false) : RT)).2.1 (xRead bf ln (ln + 1) 0 ((0, 0, 0, 0, false, false) : RT)).2.2.1 (xRead bf ln (ln + 1) 0 ((0, 0, 0, 0, false, false) : RT)).2.2.2.1 (xRead bf ln (ln + 1) 0 ((0, 0, 0, 0, false, false) : RT)).2.2.2.2.1 (xRead bf ln (ln + 1) 0 ((0, 0, 0, 0, false, false) : RT)).2.2.2.2.2.1 (xRead bf ln (ln + 1) 0 ((0, 0, 0, 0, false, false) : RT)).2.2.2.2.2.2) ++ (wSky a cy n lit h t s g kn lo lf nm ++ wOth sk cy S))) ++ (wM aM cy thM smM ln ptM sgM fiM seM (mSt nM oM hM tM sM gM knM loM lfM nmM) svM slM ikM bf coM goM foM))) (As := []) (rest := []) C (c_X3_firstError cy a b r nx sn ln (svOf sk) (kpOf sk) ik bf kd hg nu dg ng tk n lit h t s g kn lo lf nm (wOth sk cy S) hb126 hl60) gL_law_X3_firstError rfl rfl rfl (by decide +kernel) (k_room hR (by decide)) (k_le hR (by omega)) (ci := 3) rfl 0 rfl rfl rfl (Nat.le_of_ble_eq_true rfl) (rfl) (rfl) dL_law_671 rfl ?_
  refine k_aload_n (q := 675) C 2 dL_law_674 rfl rfl ?_
  refine k_callVIx (n := 0) (q := 678) (pre := ([(ob, .inl (cy 4, 1, .inr (.inl ou)))] ++ ((wXo b cy (a 0) r nx sn ln (svOf sk) (kpOf sk) ik bf ++ wRd r (xRead bf ln (ln + 1) 0 ((0, 0, 0, 0, false, false) : RT)).2.1 (xRead bf ln (ln + 1) 0 ((0, 0, 0, 0, false, false) : RT)).2.2.1 (xRead bf ln (ln + 1) 0 ((0, 0, 0, 0, false, false) : RT)).2.2.2.1 (xRead bf ln (ln + 1) 0 ((0, 0, 0, 0, false, false) : RT)).2.2.2.2.1 (xRead bf ln (ln + 1) 0 ((0, 0, 0, 0, false, false) : RT)).2.2.2.2.2.1 (xRead bf ln (ln + 1) 0 ((0, 0, 0, 0, false, false) : RT)).2.2.2.2.2.2) ++ (wSky a cy n lit h t s g kn lo lf nm ++ wOth sk cy S)))) (post := ([] : va_W)) (w2 := (fun u => (([(ob, .inl (cy 4, 1, .inr (.inl ou)))] ++ ((wXo b cy (a 0) r nx sn ln (svOf sk) (kpOf sk) ik bf ++ wRd r (xRead bf ln (ln + 1) 0 ((0, 0, 0, 0, false, false) : RT)).2.1 (xRead bf ln (ln + 1) 0 ((0, 0, 0, 0, false, false) : RT)).2.2.1 (xRead bf ln (ln + 1) 0 ((0, 0, 0, 0, false, false) : RT)).2.2.2.1 (xRead bf ln (ln + 1) 0 ((0, 0, 0, 0, false, false) : RT)).2.2.2.2.1 (xRead bf ln (ln + 1) 0 ((0, 0, 0, 0, false, false) : RT)).2.2.2.2.2.1 (xRead bf ln (ln + 1) 0 ((0, 0, 0, 0, false, false) : RT)).2.2.2.2.2.2) ++ (wSky a cy n lit h t s g kn lo lf nm ++ wOth sk cy S))) ++ (wM aM cy 0 smM ln (u.1) (u.2.1) (u.2.2.1) (u.2.2.2) (mSt nM oM hM tM sM gM knM loM lfM nmM) svM slM ikM bf coM goM foM)))) (As := []) (rest := [.int (nI (xRead bf ln (ln + 1) 0 ((0, 0, 0, 0, false, false) : RT)).1)]) C (c_X4_firstError cy aM thM smM ln ptM sgM fiM seM nM oM hM tM sM gM knM loM lfM nmM svM slM ikM bf coM goM foM hb126 hl60) gL_law_X4_firstError rfl rfl rfl (by decide +kernel) (k_room hR (by decide)) (k_le hR (by omega)) (ci := 4) rfl 0 rfl rfl rfl (Nat.le_of_ble_eq_true rfl) (k_pre) (fun u => k_pre.symm) dL_law_675 rfl ?_
  rintro ⟨pt_675, sg_675, fi_675, se_675⟩ h_675
  try dsimp only at h_675
  refine k_st (st2 := (.int (nI (xRead bf ln (ln + 1) 0 ((0, 0, 0, 0, false, false) : RT)).1) :: _)) (congrArg (fun z => Value.int z :: _) (show nI (mFI (mFE bf ln (ln + 1) 0) ln) = nI (xRead bf ln (ln + 1) 0 ((0, 0, 0, 0, false, false) : RT)).1 from (congrArg nI (first_x (bf := bf) (ln := ln)).symm))) ?_
  refine k_icmp_eq (tgt := 1415) (q := 681) C dL_law_678 (by decide) rfl ?_ ?_
  · intro c_678
    refine k_fr (fr2 := [(4, .int (nI i)), (3, .ref ob), (2, .ref (aM 0)), (1, .ref (b 0)), (0, .ref sb)]) ⟨[0, 1, 2, 3, 4], rfl⟩ ?_
    refine k_wide (ce2 := ce + 1) (sl2 := sl + 6) (Nat.le_succ _) (by omega) ?_
    exact E nx sn ln S ik bf (xRead bf ln (ln + 1) 0 ((0, 0, 0, 0, false, false) : RT)).2.1 (xRead bf ln (ln + 1) 0 ((0, 0, 0, 0, false, false) : RT)).2.2.1 (xRead bf ln (ln + 1) 0 ((0, 0, 0, 0, false, false) : RT)).2.2.2.1 (xRead bf ln (ln + 1) 0 ((0, 0, 0, 0, false, false) : RT)).2.2.2.2.1 (xRead bf ln (ln + 1) 0 ((0, 0, 0, 0, false, false) : RT)).2.2.2.2.2.1 (xRead bf ln (ln + 1) 0 ((0, 0, 0, 0, false, false) : RT)).2.2.2.2.2.2 ((n, lit, h, t, s, g, kn, lo, lf, nm) : CK) ou 0 smM ln pt_675 sg_675 fi_675 se_675 ((nM, oM, hM, tM, sM, gM, knM, loM, lfM, nmM) : SK) svM slM ikM bf coM goM foM (hgR)
  · exact fun c_678 => absurd rfl c_678
set_option maxHeartbeats 4000000 in
set_option maxRecDepth 100000 in
theorem lw_clearEnough (cy : Nat → ClassId) (a : Nat → Nat) (b : Nat → Nat) (r : Nat) (nx : Nat) (sn : Nat) (ln : Nat) (sk : Nat → Nat → Nat) (S : Nat → CK) (ik : Nat → Int32) (bf : Nat → Nat) (kd : Nat) (hg : Nat) (nu : Nat) (dg : Nat) (ng : Bool) (tk : Bool) (n : Nat) (lit : Int32) (h : Nat → Int32) (t : Nat → Int32) (s : Nat → Int32) (g : Nat → Int32) (kn : Nat) (lo : Int32) (lf : Int32) (nm : Nat → Int32) (ob : Nat) (ou : Nat → Int64) (aM : Nat → Nat) (thM : Int32) (smM : Nat) (lnM : Nat) (ptM : Nat) (sgM : Nat) (fiM : Int32) (seM : Int32) (nM : Nat) (oM : Nat → Int32) (hM : Nat → Int32) (tM : Nat → Int32) (sM : Nat → Int32) (gM : Nat → Int32) (knM : Nat) (loM : Int32) (lfM : Int32) (nmM : Nat → Int32) (svM : Nat → Int32) (slM : Nat → Int32) (ikM : Nat → Int32) (bfM : Nat → Nat) (coM : Nat → Int32) (goM : Nat → Int32) (foM : Nat → Int32) (X : kX) (hR : xR X = room_1) (C : kC X 9 RL cL_law wsL_law cy) (Z : kZ (xA X) (xS X) (xS X).heap) (hst : (xL X).stackTraces = false) (sb i L ce sl : Nat) (xs : Nat → Int32) (hX : va_X sb L xs (xS X) (xS X).heap) (hbl : sb < (xS X).heap.size) (hbA : ¬ (xA X) sb) (hL : L ≤ 2048) (hi : i + 4 ≤ L) (hce : ce + 1 ≤ 620303 ∧ sl + 6 ≤ 7235195) (E : lwE X cy a b r sk ob aM sb i ce sl) (hgR : gR nx sn ln ik bf ((n, lit, h, t, s, g, kn, lo, lf, nm) : CK) S smM lnM ((nM, oM, hM, tM, sM, gM, knM, loM, lfM, nmM) : SK) svM slM ikM bfM)  : kG X 9 ce sl (([(ob, .inl (cy 4, 1, .inr (.inl ou)))] ++ ((wXo b cy (a 0) r nx sn ln (svOf sk) (kpOf sk) ik bf ++ wRd r kd hg nu dg ng tk) ++ (wSky a cy n lit h t s g kn lo lf nm ++ wOth sk cy S))) ++ (wM aM cy thM smM lnM ptM sgM fiM seM (mSt nM oM hM tM sM gM knM loM lfM nmM) svM slM ikM bfM coM goM foM)) 1359 [(4, .int (nI i)), (3, .ref ob), (2, .ref (aM 0)), (1, .ref (b 0)), (0, .ref sb)] [] := by
  obtain ⟨hr, hsn, hri, hke, hln, hl60, hbf, hb126⟩ := id hgR
  have hnx := hri.2.1
  have hsm := hri.1
  have hn := hr.1.1
  have en : n = nM := hr.2.1
  have el : lit = mLit oM := hr.2.2.1
  have hH := hr.2.2.2.1
  have hT := hr.2.2.2.2.1
  have hS := hr.2.2.2.2.2.1
  have hG := hr.2.2.2.2.2.2.1
  have ekn : kn = knM := hr.2.2.2.2.2.2.2.1
  have ho := hr.1.2.1
  have hs0 := hr.1.2.2.1
  have hs1 := hr.1.2.2.2.1
  have hk8 := hr.1.2.2.2.2.1
  have hn6 : n ≤ 6 := by rw [en]; exact hn
  have hkn8 : kn ≤ 8 := by rw [ekn]; exact hk8
  have hsn6 : sn ≤ 6 := by omega
  have hz : ∀ z, mSpots oM hM tM gM z nM = sBits (nI (sMask h t g z n)) * sBits lit := fun z => by
    rw [en, el, cg_Mask hH hT hG (Nat.le_refl _)]; exact (mSpots_s ho nM hn).symm
  have hq5 : nI (mHz (fun k => mSpots oM hM tM gM (nI k) nM) (mSpots oM hM tM gM 0 nM) 1000) = nI (mHz (fun k => sBits (nI (sMask h t g (nI k) n)) * sBits lit) (sBits (nI (sMask h t g 0 n)) * sBits lit) 1000) := by
    rw [hz 0, show (fun k => mSpots oM hM tM gM (nI k) nM) = (fun k => sBits (nI (sMask h t g (nI k) n)) * sBits lit) from funext fun k => hz (nI k)]
  refine k_aload_n (q := 1360) C 3 dL_law_1359 rfl rfl ?_
  refine k_callVI (n := 0) (q := 1363) (pre := ([(ob, .inl (cy 4, 1, .inr (.inl ou)))] : va_W)) (post := (wM aM cy thM smM lnM ptM sgM fiM seM (mSt nM oM hM tM sM gM knM loM lfM nmM) svM slM ikM bfM coM goM foM)) (w2 := (([(ob, .inl (cy 4, 1, .inr (.inl ou)))] ++ ((wXo b cy (a 0) r nx sn ln (svOf sk) (kpOf sk) ik bf ++ wRd r kd hg nu dg ng tk) ++ (wSky a cy n lit h t s g kn lo lf nm ++ wOth sk cy S))) ++ (wM aM cy thM smM lnM ptM sgM fiM seM (mSt nM oM hM tM sM gM knM loM lfM nmM) svM slM ikM bfM coM goM foM))) (As := []) (rest := []) C (c_X3_clearEnough cy a b r nx sn ln (svOf sk) (kpOf sk) ik bf kd hg nu dg ng tk n lit h t s g kn lo lf nm (wOth sk cy S) hn6) gL_law_X3_clearEnough rfl rfl rfl (by decide +kernel) (k_room hR (by decide)) (k_le hR (by omega)) (ci := 3) rfl 0 rfl rfl rfl (Nat.le_of_ble_eq_true rfl) (rfl) (rfl) dL_law_1360 rfl ?_
  refine k_aload_n (q := 1364) C 2 dL_law_1363 rfl rfl ?_
  refine k_callVIx (n := 0) (q := 1367) (pre := ([(ob, .inl (cy 4, 1, .inr (.inl ou)))] ++ ((wXo b cy (a 0) r nx sn ln (svOf sk) (kpOf sk) ik bf ++ wRd r kd hg nu dg ng tk) ++ (wSky a cy n lit h t s g kn lo lf nm ++ wOth sk cy S)))) (post := ([] : va_W)) (w2 := (fun u => (([(ob, .inl (cy 4, 1, .inr (.inl ou)))] ++ ((wXo b cy (a 0) r nx sn ln (svOf sk) (kpOf sk) ik bf ++ wRd r kd hg nu dg ng tk) ++ (wSky a cy n lit h t s g kn lo lf nm ++ wOth sk cy S))) ++ (wM aM cy 0 smM lnM ptM sgM fiM seM (mSt nM oM hM tM sM gM knM loM lfM nmM) svM slM ikM bfM (u.1) (u.2) foM)))) (As := []) (rest := [.int (nI (mHz (fun k => sBits (nI (sMask h t g (nI k) n)) * sBits lit) (sBits (nI (sMask h t g 0 n)) * sBits lit) 1000))]) C (c_X4_clearEnough cy aM thM smM lnM ptM sgM fiM seM nM oM hM tM sM gM knM loM lfM nmM svM slM ikM bfM coM goM foM hn) gL_law_X4_clearEnough rfl rfl rfl (by decide +kernel) (k_room hR (by decide)) (k_le hR (by omega)) (ci := 4) rfl 0 rfl rfl rfl (Nat.le_of_ble_eq_true rfl) (k_pre) (fun u => k_pre.symm) dL_law_1364 rfl ?_
  rintro ⟨co_1364, go_1364⟩ h_1364
  try dsimp only at h_1364
  refine k_st (st2 := (.int (nI (mHz (fun k => sBits (nI (sMask h t g (nI k) n)) * sBits lit) (sBits (nI (sMask h t g 0 n)) * sBits lit) 1000)) :: _)) (congrArg (fun z => Value.int z :: _) (show nI (mHz (fun k => mSpots oM hM tM gM (nI k) nM) (mSpots oM hM tM gM 0 nM) 1000) = nI (mHz (fun k => sBits (nI (sMask h t g (nI k) n)) * sBits lit) (sBits (nI (sMask h t g 0 n)) * sBits lit) 1000) from hq5)) ?_
  refine k_icmp_eq (tgt := 1415) (q := 1370) C dL_law_1367 (by decide) rfl ?_ ?_
  · intro c_1367
    refine k_fr (fr2 := [(4, .int (nI i)), (3, .ref ob), (2, .ref (aM 0)), (1, .ref (b 0)), (0, .ref sb)]) ⟨[0, 1, 2, 3, 4], rfl⟩ ?_
    refine k_wide (ce2 := ce + 1) (sl2 := sl + 6) (Nat.le_succ _) (by omega) ?_
    exact E nx sn ln S ik bf kd hg nu dg ng tk ((n, lit, h, t, s, g, kn, lo, lf, nm) : CK) ou 0 smM lnM ptM sgM fiM seM ((nM, oM, hM, tM, sM, gM, knM, loM, lfM, nmM) : SK) svM slM ikM bfM co_1364 go_1364 foM (hgR)
  · exact fun c_1367 => absurd rfl c_1367
