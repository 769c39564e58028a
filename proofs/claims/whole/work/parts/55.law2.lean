theorem z01 {z : Int32} (h : 0 ≤ z ∧ z ≤ 1) : z = 0 ∨ z = 1 := by
  have b := i32_bnd (u := 0) (v := 1) (by decide +kernel) (by decide +kernel) h
  rcases (show z.toInt = 0 ∨ z.toInt = 1 by omega) with e | e
  · exact Or.inl (Int32.toInt_inj.mp (by rw [e]; decide +kernel))
  · exact Or.inr (Int32.toInt_inj.mp (by rw [e]; decide +kernel))
set_option maxHeartbeats 4000000 in
set_option maxRecDepth 100000 in
theorem lw_clearThin (cy : Nat → ClassId) (a : Nat → Nat) (b : Nat → Nat) (r : Nat) (nx : Nat) (sn : Nat) (ln : Nat) (sk : Nat → Nat → Nat) (S : Nat → CK) (ik : Nat → Int32) (bf : Nat → Nat) (kd : Nat) (hg : Nat) (nu : Nat) (dg : Nat) (ng : Bool) (tk : Bool) (n : Nat) (lit : Int32) (h : Nat → Int32) (t : Nat → Int32) (s : Nat → Int32) (g : Nat → Int32) (kn : Nat) (lo : Int32) (lf : Int32) (nm : Nat → Int32) (ob : Nat) (ou : Nat → Int64) (aM : Nat → Nat) (thM : Int32) (smM : Nat) (lnM : Nat) (ptM : Nat) (sgM : Nat) (fiM : Int32) (seM : Int32) (nM : Nat) (oM : Nat → Int32) (hM : Nat → Int32) (tM : Nat → Int32) (sM : Nat → Int32) (gM : Nat → Int32) (knM : Nat) (loM : Int32) (lfM : Int32) (nmM : Nat → Int32) (svM : Nat → Int32) (slM : Nat → Int32) (ikM : Nat → Int32) (bfM : Nat → Nat) (coM : Nat → Int32) (goM : Nat → Int32) (foM : Nat → Int32) (X : kX) (hR : xR X = room_1) (C : kC X 9 RL cL_law wsL_law cy) (Z : kZ (xA X) (xS X) (xS X).heap) (hst : (xL X).stackTraces = false) (sb i L ce sl : Nat) (xs : Nat → Int32) (hX : va_X sb L xs (xS X) (xS X).heap) (hbl : sb < (xS X).heap.size) (hbA : ¬ (xA X) sb) (hL : L ≤ 2048) (hi : i + 4 ≤ L) (hce : ce + 1 ≤ 620303 ∧ sl + 6 ≤ 7235195) (E : lwE X cy a b r sk ob aM sb i ce sl) (hgR : gR nx sn ln ik bf ((n, lit, h, t, s, g, kn, lo, lf, nm) : CK) S smM lnM ((nM, oM, hM, tM, sM, gM, knM, loM, lfM, nmM) : SK) svM slM ikM bfM) (hx : 1 ≤ xs (i + 1) ∧ xs (i + 1) ≤ 100) : kG X 9 ce sl (([(ob, .inl (cy 4, 1, .inr (.inl ou)))] ++ ((wXo b cy (a 0) r nx sn ln (svOf sk) (kpOf sk) ik bf ++ wRd r kd hg nu dg ng tk) ++ (wSky a cy n lit h t s g kn lo lf nm ++ wOth sk cy S))) ++ (wM aM cy thM smM lnM ptM sgM fiM seM (mSt nM oM hM tM sM gM knM loM lfM nmM) svM slM ikM bfM coM goM foM)) 272 [(4, .int (nI i)), (3, .ref ob), (2, .ref (aM 0)), (1, .ref (b 0)), (0, .ref sb)] [] := by
  obtain ⟨hr, hsn, hri, hke, hln, hl60, hbf, hb126⟩ := id hgR
  have hnx := hri.2.1
  have hsm := hri.1
  have hn := hr.1.1
  have en : n = nM := hr.2.1
  have el : lit = mLit oM := hr.2.2.1
  have hH := hr.2.2.2.1
  have hT := hr.2.2.2.2.1
  have hS := hr.2.2.2.2.2.1
  have hG := hr.2.2.2.2.2.2.1
  have ekn : kn = knM := hr.2.2.2.2.2.2.2.1
  have ho := hr.1.2.1
  have hs0 := hr.1.2.2.1
  have hs1 := hr.1.2.2.2.1
  have hk8 := hr.1.2.2.2.2.1
  have hn6 : n ≤ 6 := by rw [en]; exact hn
  have hkn8 : kn ≤ 8 := by rw [ekn]; exact hk8
  have hsn6 : sn ≤ 6 := by omega
  have hq5 : nI (nM - sKeep tM (xs (i + 1)) nM) = nI (n - sKeep t (xs (i + 1)) n) := by rw [en, cg_Keep hT]
  refine k_aload_n (q := 273) C 3 dL_law_272 rfl rfl ?_
  refine k_aload_n (q := 274) C 4 dL_law_273 rfl rfl ?_
  refine k_iload (q := 276) C 0 dL_law_274 rfl rfl ?_
  refine k_iconst (q := 277) (v := 1) C dL_law_276 (by decide) rfl ?_
  refine k_iadd (q := 278) C dL_law_277 rfl ?_
  refine k_st (st2 := (.int (nI (i + 1)) :: _)) (congrArg (fun z => Value.int z :: _) (show (nI i) + 1 = nI (i + 1) from nI_add i 1)) ?_
  refine k_sld (q := 279) C hX hbl hbA (vp_in_nI (n := i + 1) (by omega) (by omega)) dL_law_278 rfl ?_
  refine k_st (st2 := (.int (xs (i + 1)) :: _)) (congrArg (fun z => Value.int z :: _) (show xs (nI (i + 1)).toNatClampNeg = xs (i + 1) from congrArg xs (nI_clamp (n := i + 1) (by omega)))) ?_
  refine k_aload_n (q := 280) C 1 dL_law_279 rfl rfl ?_
  refine k_callSL (n := 3) (q := 283) (pre := ([] : va_W)) (post := (wM aM cy thM smM lnM ptM sgM fiM seM (mSt nM oM hM tM sM gM knM loM lfM nmM) svM slM ikM bfM coM goM foM)) (w2 := (([(ob, .inl (cy 4, 1, .inr (.inl (vp_updL ou 0 (nI (n - sKeep t (xs (i + 1)) n)).toInt64))))] ++ ((wXo b cy (a 0) r ((nx + 1) % 6) (min (sn + 1) 6) ln (svOf sk) (kpOf sk) ik bf ++ wRd r kd hg nu dg ng tk) ++ (wSky a cy (sKeep t (xs (i + 1)) n) lit (sPack t (xs (i + 1)) h n) (sPack t (xs (i + 1)) t n) s g kn lo lf nm ++ wOth sk cy (updS S nx (cLike (n, lit, h, t, s, g, kn, lo, lf, nm) (S nx)))))) ++ (wM aM cy thM smM lnM ptM sgM fiM seM (mSt nM oM hM tM sM gM knM loM lfM nmM) svM slM ikM bfM coM goM foM))) (As := [.ref (b 0), .int (xs (i + 1)), .ref ob]) (rest := []) C Z hst (c_L_clearThin cy a b r nx sn ln sk S ik bf kd hg nu dg ng tk n lit h t s g kn lo lf nm ob ou (xs (i + 1)) hnx hsn6 hn6 hx) gL_law_L_clearThin rfl rfl rfl (by decide +kernel) (k_room hR (by decide)) (k_le hR (by omega)) rfl rfl (Nat.le_of_ble_eq_true rfl) (rfl) (rfl) dL_law_280 rfl ?_
  refine k_istore (q := 285) (fr2 := [(5, .int 0), (4, .int (nI i)), (3, .ref ob), (2, .ref (aM 0)), (1, .ref (b 0)), (0, .ref sb)]) C dL_law_283 (by decide) rfl rfl ?_
  refine k_aload_n (q := 286) C 3 dL_law_285 rfl rfl ?_
  refine k_aload_n (q := 287) C 5 dL_law_286 rfl rfl ?_
  refine k_iload (q := 289) C 1 dL_law_287 rfl rfl ?_
  refine k_iconst (q := 290) (v := 1) C dL_law_289 (by decide) rfl ?_
  refine k_iadd (q := 291) C dL_law_290 rfl ?_
  refine k_st (st2 := (.int (nI (i + 1)) :: _)) (congrArg (fun z => Value.int z :: _) (show (nI i) + 1 = nI (i + 1) from nI_add i 1)) ?_
  refine k_sld (q := 292) C hX hbl hbA (vp_in_nI (n := i + 1) (by omega) (by omega)) dL_law_291 rfl ?_
  refine k_st (st2 := (.int (xs (i + 1)) :: _)) (congrArg (fun z => Value.int z :: _) (show xs (nI (i + 1)).toNatClampNeg = xs (i + 1) from congrArg xs (nI_clamp (n := i + 1) (by omega)))) ?_
  refine k_callVIx (n := 1) (q := 295) (pre := ([(ob, .inl (cy 4, 1, .inr (.inl (vp_updL ou 0 (nI (n - sKeep t (xs (i + 1)) n)).toInt64))))] ++ ((wXo b cy (a 0) r ((nx + 1) % 6) (min (sn + 1) 6) ln (svOf sk) (kpOf sk) ik bf ++ wRd r kd hg nu dg ng tk) ++ (wSky a cy (sKeep t (xs (i + 1)) n) lit (sPack t (xs (i + 1)) h n) (sPack t (xs (i + 1)) t n) s g kn lo lf nm ++ wOth sk cy (updS S nx (cLike (n, lit, h, t, s, g, kn, lo, lf, nm) (S nx))))))) (post := ([] : va_W)) (w2 := (fun u => (([(ob, .inl (cy 4, 1, .inr (.inl (vp_updL ou 0 (nI (n - sKeep t (xs (i + 1)) n)).toInt64))))] ++ ((wXo b cy (a 0) r ((nx + 1) % 6) (min (sn + 1) 6) ln (svOf sk) (kpOf sk) ik bf ++ wRd r kd hg nu dg ng tk) ++ (wSky a cy (sKeep t (xs (i + 1)) n) lit (sPack t (xs (i + 1)) h n) (sPack t (xs (i + 1)) t n) s g kn lo lf nm ++ wOth sk cy (updS S nx (cLike (n, lit, h, t, s, g, kn, lo, lf, nm) (S nx)))))) ++ (wM aM cy 0 (min (smM + 1) 6) lnM ptM sgM fiM seM (mSt (sKeep tM (xs (i + 1)) nM) oM (u.1) (u.2) sM gM knM loM lfM nmM) (mSave svM (mSt nM oM hM tM sM gM knM loM lfM nmM) smM) slM ikM bfM coM goM foM)))) (As := [.int (xs (i + 1))]) (rest := []) C (c_X4_clearThin cy aM thM smM lnM ptM sgM fiM seM nM oM hM tM sM gM knM loM lfM nmM svM slM ikM bfM coM goM foM (xs (i + 1)) hn hx hsm) gL_law_X4_clearThin rfl rfl rfl (by decide +kernel) (k_room hR (by decide)) (k_le hR (by omega)) (ci := 4) rfl 0 rfl rfl rfl (Nat.le_of_ble_eq_true rfl) (k_pre) (fun u => k_pre.symm) dL_law_292 rfl ?_
  rintro ⟨hh_292, t_292⟩ h_292
  try dsimp only at h_292
  refine k_st (st2 := (.int (nI (n - sKeep t (xs (i + 1)) n)) :: _)) (congrArg (fun z => Value.int z :: _) (show nI (nM - sKeep tM (xs (i + 1)) nM) = nI (n - sKeep t (xs (i + 1)) n) from hq5)) ?_
  refine k_istore (q := 297) (fr2 := [(6, .int (nI (n - sKeep t (xs (i + 1)) n))), (5, .int 0), (4, .int (nI i)), (3, .ref ob), (2, .ref (aM 0)), (1, .ref (b 0)), (0, .ref sb)]) C dL_law_295 (by decide) rfl rfl ?_
  refine k_aload_n (q := 298) C 4 dL_law_297 rfl rfl ?_
  refine k_callVI (n := 0) (q := 301) (pre := ([(ob, .inl (cy 4, 1, .inr (.inl (vp_updL ou 0 (nI (n - sKeep t (xs (i + 1)) n)).toInt64))))] ++ ((wXo b cy (a 0) r ((nx + 1) % 6) (min (sn + 1) 6) ln (svOf sk) (kpOf sk) ik bf ++ wRd r kd hg nu dg ng tk) ++ (wSky a cy (sKeep t (xs (i + 1)) n) lit (sPack t (xs (i + 1)) h n) (sPack t (xs (i + 1)) t n) s g kn lo lf nm ++ wOth sk cy (updS S nx (cLike (n, lit, h, t, s, g, kn, lo, lf, nm) (S nx))))))) (post := ([] : va_W)) (w2 := (([(ob, .inl (cy 4, 1, .inr (.inl (vp_updL ou 0 (nI (n - sKeep t (xs (i + 1)) n)).toInt64))))] ++ ((wXo b cy (a 0) r ((nx + 1) % 6) (min (sn + 1) 6) ln (svOf sk) (kpOf sk) ik bf ++ wRd r kd hg nu dg ng tk) ++ (wSky a cy (sKeep t (xs (i + 1)) n) lit (sPack t (xs (i + 1)) h n) (sPack t (xs (i + 1)) t n) s g kn lo lf nm ++ wOth sk cy (updS S nx (cLike (n, lit, h, t, s, g, kn, lo, lf, nm) (S nx)))))) ++ (wM aM cy 0 (min (smM + 1) 6) lnM ptM sgM fiM seM (mSt (sKeep tM (xs (i + 1)) nM) oM hh_292 t_292 sM gM knM loM lfM nmM) (mSave svM (mSt nM oM hM tM sM gM knM loM lfM nmM) smM) slM ikM bfM coM goM foM))) (As := []) (rest := []) C (c_X4_thrown cy aM 0 (min (smM + 1) 6) lnM ptM sgM fiM seM (sKeep tM (xs (i + 1)) nM) oM hh_292 t_292 sM gM knM loM lfM nmM (mSave svM (mSt nM oM hM tM sM gM knM loM lfM nmM) smM) slM ikM bfM coM goM foM) gL_law_X4_thrown rfl rfl rfl (by decide +kernel) (k_room hR (by decide)) (k_le hR (by omega)) (ci := 4) rfl 0 rfl rfl rfl (Nat.le_of_ble_eq_true rfl) (k_pre) (k_pre.symm) dL_law_298 rfl ?_
  refine k_iload (q := 303) C 1 dL_law_301 rfl rfl ?_
  refine k_icmp_eq (tgt := 308) (q := 306) C dL_law_303 (by decide) rfl ?_ ?_
  · intro c_303
    refine k_iload (q := 310) C 1 dL_law_308 rfl rfl ?_
    refine k_if_ne (tgt := 325) (q := 313) C dL_law_310 (by decide) rfl ?_ ?_
    · exact fun c_310 => absurd c_310 (by decide)
    · intro c_310
      refine k_aload_n (q := 314) C 3 dL_law_313 rfl rfl ?_
      refine k_iconst (q := 315) (v := 0) C dL_law_314 (by decide) rfl ?_
      refine k_lald (q := 316) C 0 rfl (vp_in_nI (n := 0) (by decide) (by decide)) dL_law_315 rfl ?_
      refine k_st (st2 := (.long ((nI (n - sKeep t (xs (i + 1)) n)).toInt64) :: _)) (congrArg (fun z => Value.long z :: _) (show (vp_updL ou 0 (nI (n - sKeep t (xs (i + 1)) n)).toInt64) ((0 : Int32).toNatClampNeg) = (nI (n - sKeep t (xs (i + 1)) n)).toInt64 from if_pos rfl)) ?_
      refine k_iload (q := 318) C 0 dL_law_316 rfl rfl ?_
      refine k_i2l (q := 319) C dL_law_318 rfl ?_
      refine k_lcmp (q := 320) C dL_law_319 rfl ?_
      refine k_st (st2 := (.int 0 :: _)) (congrArg (fun z => Value.int z :: _) (show lg_cmp ((nI (n - sKeep t (xs (i + 1)) n)).toInt64) ((nI (n - sKeep t (xs (i + 1)) n)).toInt64) = 0 from lcmp_0 _)) ?_
      refine k_if_eq (tgt := 325) (q := 323) C dL_law_320 (by decide) rfl ?_ ?_
      · intro c_320
        refine k_goto (q := 1415) C dL_law_325 (by decide) ?_
        refine k_fr (fr2 := [(4, .int (nI i)), (3, .ref ob), (2, .ref (aM 0)), (1, .ref (b 0)), (0, .ref sb)]) ⟨[2, 3, 4, 5, 6], rfl⟩ ?_
        exact E ((nx + 1) % 6) (min (sn + 1) 6) ln (updS S nx (cLike (n, lit, h, t, s, g, kn, lo, lf, nm) (S nx))) ik bf kd hg nu dg ng tk ((sKeep t (xs (i + 1)) n, lit, sPack t (xs (i + 1)) h n, sPack t (xs (i + 1)) t n, s, g, kn, lo, lf, nm) : CK) (vp_updL ou 0 (nI (n - sKeep t (xs (i + 1)) n)).toInt64) 0 (min (smM + 1) 6) lnM ptM sgM fiM seM ((sKeep tM (xs (i + 1)) nM, oM, hh_292, t_292, sM, gM, knM, loM, lfM, nmM) : SK) (mSave svM (mSt nM oM hM tM sM gM knM loM lfM nmM) smM) slM ikM bfM coM goM foM (⟨r_thin hr h_292, by omega, ring_save hri hr, kept_save hke hnx, hln, hl60, hbf, hb126⟩)
      · exact fun c_320 => absurd c_320 (by decide)
  · exact fun c_303 => absurd c_303 (by decide)
set_option maxHeartbeats 4000000 in
set_option maxRecDepth 100000 in
theorem lw_turn (cy : Nat → ClassId) (a : Nat → Nat) (b : Nat → Nat) (r : Nat) (nx : Nat) (sn : Nat) (ln : Nat) (sk : Nat → Nat → Nat) (S : Nat → CK) (ik : Nat → Int32) (bf : Nat → Nat) (kd : Nat) (hg : Nat) (nu : Nat) (dg : Nat) (ng : Bool) (tk : Bool) (n : Nat) (lit : Int32) (h : Nat → Int32) (t : Nat → Int32) (s : Nat → Int32) (g : Nat → Int32) (kn : Nat) (lo : Int32) (lf : Int32) (nm : Nat → Int32) (ob : Nat) (ou : Nat → Int64) (aM : Nat → Nat) (thM : Int32) (smM : Nat) (lnM : Nat) (ptM : Nat) (sgM : Nat) (fiM : Int32) (seM : Int32) (nM : Nat) (oM : Nat → Int32) (hM : Nat → Int32) (tM : Nat → Int32) (sM : Nat → Int32) (gM : Nat → Int32) (knM : Nat) (loM : Int32) (lfM : Int32) (nmM : Nat → Int32) (svM : Nat → Int32) (slM : Nat → Int32) (ikM : Nat → Int32) (bfM : Nat → Nat) (coM : Nat → Int32) (goM : Nat → Int32) (foM : Nat → Int32) (j : Nat) (X : kX) (hR : xR X = room_1) (C : kC X 9 RL cL_law wsL_law cy) (Z : kZ (xA X) (xS X) (xS X).heap) (hst : (xL X).stackTraces = false) (sb i L ce sl : Nat) (xs : Nat → Int32) (hX : va_X sb L xs (xS X) (xS X).heap) (hbl : sb < (xS X).heap.size) (hbA : ¬ (xA X) sb) (hL : L ≤ 2048) (hi : i + 4 ≤ L) (hce : ce + 1 ≤ 620303 ∧ sl + 6 ≤ 7235195) (E : lwE X cy a b r sk ob aM sb i ce sl) (hgR : gR nx sn ln ik bf ((n, lit, h, t, s, g, kn, lo, lf, nm) : CK) S smM lnM ((nM, oM, hM, tM, sM, gM, knM, loM, lfM, nmM) : SK) svM slM ikM bfM) (hj : j < 2) (hx1 : xs (i + 1) = nI j) : kG X 9 ce sl (([(ob, .inl (cy 4, 1, .inr (.inl ou)))] ++ ((wXo b cy (a 0) r nx sn ln (svOf sk) (kpOf sk) ik bf ++ wRd r kd hg nu dg ng tk) ++ (wSky a cy n lit h t s g kn lo lf nm ++ wOth sk cy S))) ++ (wM aM cy thM smM lnM ptM sgM fiM seM (mSt nM oM hM tM sM gM knM loM lfM nmM) svM slM ikM bfM coM goM foM)) 396 [(4, .int (nI i)), (3, .ref ob), (2, .ref (aM 0)), (1, .ref (b 0)), (0, .ref sb)] [] := by
  obtain ⟨hr, hsn, hri, hke, hln, hl60, hbf, hb126⟩ := id hgR
  have hnx := hri.2.1
  have hsm := hri.1
  have hn := hr.1.1
  have en : n = nM := hr.2.1
  have el : lit = mLit oM := hr.2.2.1
  have hH := hr.2.2.2.1
  have hT := hr.2.2.2.2.1
  have hS := hr.2.2.2.2.2.1
  have hG := hr.2.2.2.2.2.2.1
  have ekn : kn = knM := hr.2.2.2.2.2.2.2.1
  have ho := hr.1.2.1
  have hs0 := hr.1.2.2.1
  have hs1 := hr.1.2.2.2.1
  have hk8 := hr.1.2.2.2.2.1
  have hn6 : n ≤ 6 := by rw [en]; exact hn
  have hkn8 : kn ≤ 8 := by rw [ekn]; exact hk8
  have hsn6 : sn ≤ 6 := by omega
  refine k_aload_n (q := 397) C 3 dL_law_396 rfl rfl ?_
  refine k_aload_n (q := 398) C 4 dL_law_397 rfl rfl ?_
  refine k_iload (q := 400) C 0 dL_law_398 rfl rfl ?_
  refine k_iconst (q := 401) (v := 1) C dL_law_400 (by decide) rfl ?_
  refine k_iadd (q := 402) C dL_law_401 rfl ?_
  refine k_st (st2 := (.int (nI (i + 1)) :: _)) (congrArg (fun z => Value.int z :: _) (show (nI i) + 1 = nI (i + 1) from nI_add i 1)) ?_
  refine k_sld (q := 403) C hX hbl hbA (vp_in_nI (n := i + 1) (by omega) (by omega)) dL_law_402 rfl ?_
  refine k_st (st2 := (.int (xs (i + 1)) :: _)) (congrArg (fun z => Value.int z :: _) (show xs (nI (i + 1)).toNatClampNeg = xs (i + 1) from congrArg xs (nI_clamp (n := i + 1) (by omega)))) ?_
  refine k_st (st2 := (.int (nI j) :: _)) (congrArg (fun z => Value.int z :: _) (show xs (i + 1) = nI j from hx1)) ?_
  refine k_aload_n (q := 404) C 1 dL_law_403 rfl rfl ?_
  refine k_callSL (n := 3) (q := 407) (pre := ([] : va_W)) (post := (wM aM cy thM smM lnM ptM sgM fiM seM (mSt nM oM hM tM sM gM knM loM lfM nmM) svM slM ikM bfM coM goM foM)) (w2 := (([(ob, .inl (cy 4, 1, .inr (.inl (vp_updL ou 0 (bI (((lit ^^^ (1 <<< (nI j &&& 31))) >>> (nI j &&& 31)) &&& 1 = 1)).toInt64))))] ++ ((wXo b cy (a 0) r ((nx + 1) % 6) (min (sn + 1) 6) ln (svOf sk) (kpOf sk) ik bf ++ wRd r kd hg nu dg ng tk) ++ (wSky a cy n (lit ^^^ (1 <<< (nI j &&& 31))) h t s g kn lo lf nm ++ wOth sk cy (updS S nx (cLike (n, lit, h, t, s, g, kn, lo, lf, nm) (S nx)))))) ++ (wM aM cy thM smM lnM ptM sgM fiM seM (mSt nM oM hM tM sM gM knM loM lfM nmM) svM slM ikM bfM coM goM foM))) (As := [.ref (b 0), .int (nI j), .ref ob]) (rest := []) C Z hst (c_L_turn cy a b r nx sn ln sk S ik bf kd hg nu dg ng tk n lit h t s g kn lo lf nm ob ou j hnx hsn6 hj) gL_law_L_turn rfl rfl rfl (by decide +kernel) (k_room hR (by decide)) (k_le hR (by omega)) rfl rfl (Nat.le_of_ble_eq_true rfl) (rfl) (rfl) dL_law_404 rfl ?_
  refine k_istore (q := 409) (fr2 := [(5, .int 0), (4, .int (nI i)), (3, .ref ob), (2, .ref (aM 0)), (1, .ref (b 0)), (0, .ref sb)]) C dL_law_407 (by decide) rfl rfl ?_
  refine k_aload_n (q := 410) C 3 dL_law_409 rfl rfl ?_
  refine k_aload_n (q := 411) C 5 dL_law_410 rfl rfl ?_
  refine k_iload (q := 413) C 1 dL_law_411 rfl rfl ?_
  refine k_iconst (q := 414) (v := 1) C dL_law_413 (by decide) rfl ?_
  refine k_iadd (q := 415) C dL_law_414 rfl ?_
  refine k_st (st2 := (.int (nI (i + 1)) :: _)) (congrArg (fun z => Value.int z :: _) (show (nI i) + 1 = nI (i + 1) from nI_add i 1)) ?_
  refine k_sld (q := 416) C hX hbl hbA (vp_in_nI (n := i + 1) (by omega) (by omega)) dL_law_415 rfl ?_
  refine k_st (st2 := (.int (xs (i + 1)) :: _)) (congrArg (fun z => Value.int z :: _) (show xs (nI (i + 1)).toNatClampNeg = xs (i + 1) from congrArg xs (nI_clamp (n := i + 1) (by omega)))) ?_
  refine k_st (st2 := (.int (nI j) :: _)) (congrArg (fun z => Value.int z :: _) (show xs (i + 1) = nI j from hx1)) ?_
  refine k_callVI (n := 1) (q := 419) (pre := ([(ob, .inl (cy 4, 1, .inr (.inl (vp_updL ou 0 (bI (((lit ^^^ (1 <<< (nI j &&& 31))) >>> (nI j &&& 31)) &&& 1 = 1)).toInt64))))] ++ ((wXo b cy (a 0) r ((nx + 1) % 6) (min (sn + 1) 6) ln (svOf sk) (kpOf sk) ik bf ++ wRd r kd hg nu dg ng tk) ++ (wSky a cy n (lit ^^^ (1 <<< (nI j &&& 31))) h t s g kn lo lf nm ++ wOth sk cy (updS S nx (cLike (n, lit, h, t, s, g, kn, lo, lf, nm) (S nx))))))) (post := ([] : va_W)) (w2 := (([(ob, .inl (cy 4, 1, .inr (.inl (vp_updL ou 0 (bI (((lit ^^^ (1 <<< (nI j &&& 31))) >>> (nI j &&& 31)) &&& 1 = 1)).toInt64))))] ++ ((wXo b cy (a 0) r ((nx + 1) % 6) (min (sn + 1) 6) ln (svOf sk) (kpOf sk) ik bf ++ wRd r kd hg nu dg ng tk) ++ (wSky a cy n (lit ^^^ (1 <<< (nI j &&& 31))) h t s g kn lo lf nm ++ wOth sk cy (updS S nx (cLike (n, lit, h, t, s, g, kn, lo, lf, nm) (S nx)))))) ++ (wM aM cy 0 (min (smM + 1) 6) lnM ptM sgM fiM seM (mSt nM (upd oM j (1 - oM j)) hM tM sM gM knM loM lfM nmM) (mSave svM (mSt nM oM hM tM sM gM knM loM lfM nmM) smM) slM ikM bfM coM goM foM))) (As := [.int (nI j)]) (rest := []) C (c_X4_turn cy aM thM smM lnM ptM sgM fiM seM nM oM hM tM sM gM knM loM lfM nmM svM slM ikM bfM coM goM foM j hj hsm) gL_law_X4_turn rfl rfl rfl (by decide +kernel) (k_room hR (by decide)) (k_le hR (by omega)) (ci := 4) rfl 0 rfl rfl rfl (Nat.le_of_ble_eq_true rfl) (k_pre) (k_pre.symm) dL_law_416 rfl ?_
  refine k_st (st2 := (.int (bI (((lit ^^^ (1 <<< (nI j &&& 31))) >>> (nI j &&& 31)) &&& 1 = 1)) :: _)) (congrArg (fun z => Value.int z :: _) (show 1 - oM j = bI (((lit ^^^ (1 <<< (nI j &&& 31))) >>> (nI j &&& 31)) &&& 1 = 1) from (by rw [el]; exact (mLit_v ho hj).symm))) ?_
  refine k_istore (q := 421) (fr2 := [(6, .int (bI (((lit ^^^ (1 <<< (nI j &&& 31))) >>> (nI j &&& 31)) &&& 1 = 1))), (5, .int 0), (4, .int (nI i)), (3, .ref ob), (2, .ref (aM 0)), (1, .ref (b 0)), (0, .ref sb)]) C dL_law_419 (by decide) rfl rfl ?_
  refine k_aload_n (q := 422) C 4 dL_law_421 rfl rfl ?_
  refine k_callVI (n := 0) (q := 425) (pre := ([(ob, .inl (cy 4, 1, .inr (.inl (vp_updL ou 0 (bI (((lit ^^^ (1 <<< (nI j &&& 31))) >>> (nI j &&& 31)) &&& 1 = 1)).toInt64))))] ++ ((wXo b cy (a 0) r ((nx + 1) % 6) (min (sn + 1) 6) ln (svOf sk) (kpOf sk) ik bf ++ wRd r kd hg nu dg ng tk) ++ (wSky a cy n (lit ^^^ (1 <<< (nI j &&& 31))) h t s g kn lo lf nm ++ wOth sk cy (updS S nx (cLike (n, lit, h, t, s, g, kn, lo, lf, nm) (S nx))))))) (post := ([] : va_W)) (w2 := (([(ob, .inl (cy 4, 1, .inr (.inl (vp_updL ou 0 (bI (((lit ^^^ (1 <<< (nI j &&& 31))) >>> (nI j &&& 31)) &&& 1 = 1)).toInt64))))] ++ ((wXo b cy (a 0) r ((nx + 1) % 6) (min (sn + 1) 6) ln (svOf sk) (kpOf sk) ik bf ++ wRd r kd hg nu dg ng tk) ++ (wSky a cy n (lit ^^^ (1 <<< (nI j &&& 31))) h t s g kn lo lf nm ++ wOth sk cy (updS S nx (cLike (n, lit, h, t, s, g, kn, lo, lf, nm) (S nx)))))) ++ (wM aM cy 0 (min (smM + 1) 6) lnM ptM sgM fiM seM (mSt nM (upd oM j (1 - oM j)) hM tM sM gM knM loM lfM nmM) (mSave svM (mSt nM oM hM tM sM gM knM loM lfM nmM) smM) slM ikM bfM coM goM foM))) (As := []) (rest := []) C (c_X4_thrown cy aM 0 (min (smM + 1) 6) lnM ptM sgM fiM seM nM (upd oM j (1 - oM j)) hM tM sM gM knM loM lfM nmM (mSave svM (mSt nM oM hM tM sM gM knM loM lfM nmM) smM) slM ikM bfM coM goM foM) gL_law_X4_thrown rfl rfl rfl (by decide +kernel) (k_room hR (by decide)) (k_le hR (by omega)) (ci := 4) rfl 0 rfl rfl rfl (Nat.le_of_ble_eq_true rfl) (k_pre) (k_pre.symm) dL_law_422 rfl ?_
  refine k_iload (q := 427) C 1 dL_law_425 rfl rfl ?_
  refine k_icmp_eq (tgt := 432) (q := 430) C dL_law_427 (by decide) rfl ?_ ?_
  · intro c_427
    refine k_iload (q := 434) C 1 dL_law_432 rfl rfl ?_
    refine k_if_ne (tgt := 449) (q := 437) C dL_law_434 (by decide) rfl ?_ ?_
    · exact fun c_434 => absurd c_434 (by decide)
    · intro c_434
      refine k_aload_n (q := 438) C 3 dL_law_437 rfl rfl ?_
      refine k_iconst (q := 439) (v := 0) C dL_law_438 (by decide) rfl ?_
      refine k_lald (q := 440) C 0 rfl (vp_in_nI (n := 0) (by decide) (by decide)) dL_law_439 rfl ?_
      refine k_st (st2 := (.long ((bI (((lit ^^^ (1 <<< (nI j &&& 31))) >>> (nI j &&& 31)) &&& 1 = 1)).toInt64) :: _)) (congrArg (fun z => Value.long z :: _) (show (vp_updL ou 0 (bI (((lit ^^^ (1 <<< (nI j &&& 31))) >>> (nI j &&& 31)) &&& 1 = 1)).toInt64) ((0 : Int32).toNatClampNeg) = (bI (((lit ^^^ (1 <<< (nI j &&& 31))) >>> (nI j &&& 31)) &&& 1 = 1)).toInt64 from if_pos rfl)) ?_
      refine k_iload (q := 442) C 0 dL_law_440 rfl rfl ?_
      refine k_i2l (q := 443) C dL_law_442 rfl ?_
      refine k_lcmp (q := 444) C dL_law_443 rfl ?_
      refine k_st (st2 := (.int 0 :: _)) (congrArg (fun z => Value.int z :: _) (show lg_cmp ((bI (((lit ^^^ (1 <<< (nI j &&& 31))) >>> (nI j &&& 31)) &&& 1 = 1)).toInt64) ((bI (((lit ^^^ (1 <<< (nI j &&& 31))) >>> (nI j &&& 31)) &&& 1 = 1)).toInt64) = 0 from lcmp_0 _)) ?_
      refine k_if_eq (tgt := 449) (q := 447) C dL_law_444 (by decide) rfl ?_ ?_
      · intro c_444
        refine k_goto (q := 1415) C dL_law_449 (by decide) ?_
        refine k_fr (fr2 := [(4, .int (nI i)), (3, .ref ob), (2, .ref (aM 0)), (1, .ref (b 0)), (0, .ref sb)]) ⟨[2, 3, 4, 5, 6], rfl⟩ ?_
        exact E ((nx + 1) % 6) (min (sn + 1) 6) ln (updS S nx (cLike (n, lit, h, t, s, g, kn, lo, lf, nm) (S nx))) ik bf kd hg nu dg ng tk ((n, lit ^^^ (1 <<< (nI j &&& 31)), h, t, s, g, kn, lo, lf, nm) : CK) (vp_updL ou 0 (bI (((lit ^^^ (1 <<< (nI j &&& 31))) >>> (nI j &&& 31)) &&& 1 = 1)).toInt64) 0 (min (smM + 1) 6) lnM ptM sgM fiM seM ((nM, upd oM j (1 - oM j), hM, tM, sM, gM, knM, loM, lfM, nmM) : SK) (mSave svM (mSt nM oM hM tM sM gM knM loM lfM nmM) smM) slM ikM bfM coM goM foM (⟨r_turn hr hj, by omega, ring_save hri hr, kept_save hke hnx, hln, hl60, hbf, hb126⟩)
      · exact fun c_444 => absurd c_444 (by decide)
  · exact fun c_427 => absurd c_427 (by decide)
set_option maxHeartbeats 4000000 in
set_option maxRecDepth 100000 in
theorem lw_set (cy : Nat → ClassId) (a : Nat → Nat) (b : Nat → Nat) (r : Nat) (nx : Nat) (sn : Nat) (ln : Nat) (sk : Nat → Nat → Nat) (S : Nat → CK) (ik : Nat → Int32) (bf : Nat → Nat) (kd : Nat) (hg : Nat) (nu : Nat) (dg : Nat) (ng : Bool) (tk : Bool) (n : Nat) (lit : Int32) (h : Nat → Int32) (t : Nat → Int32) (s : Nat → Int32) (g : Nat → Int32) (kn : Nat) (lo : Int32) (lf : Int32) (nm : Nat → Int32) (ob : Nat) (ou : Nat → Int64) (aM : Nat → Nat) (thM : Int32) (smM : Nat) (lnM : Nat) (ptM : Nat) (sgM : Nat) (fiM : Int32) (seM : Int32) (nM : Nat) (oM : Nat → Int32) (hM : Nat → Int32) (tM : Nat → Int32) (sM : Nat → Int32) (gM : Nat → Int32) (knM : Nat) (loM : Int32) (lfM : Int32) (nmM : Nat → Int32) (svM : Nat → Int32) (slM : Nat → Int32) (ikM : Nat → Int32) (bfM : Nat → Nat) (coM : Nat → Int32) (goM : Nat → Int32) (foM : Nat → Int32) (j : Nat) (X : kX) (hR : xR X = room_1) (C : kC X 9 RL cL_law wsL_law cy) (Z : kZ (xA X) (xS X) (xS X).heap) (hst : (xL X).stackTraces = false) (sb i L ce sl : Nat) (xs : Nat → Int32) (hX : va_X sb L xs (xS X) (xS X).heap) (hbl : sb < (xS X).heap.size) (hbA : ¬ (xA X) sb) (hL : L ≤ 2048) (hi : i + 4 ≤ L) (hce : ce + 1 ≤ 620303 ∧ sl + 6 ≤ 7235195) (E : lwE X cy a b r sk ob aM sb i ce sl) (hgR : gR nx sn ln ik bf ((n, lit, h, t, s, g, kn, lo, lf, nm) : CK) S smM lnM ((nM, oM, hM, tM, sM, gM, knM, loM, lfM, nmM) : SK) svM slM ikM bfM) (hj : j < 4) (hx1 : xs (i + 1) = nI j) (hy : mLeast j ≤ xs (i + 2) ∧ xs (i + 2) ≤ mMost j) : kG X 9 ce sl (([(ob, .inl (cy 4, 1, .inr (.inl ou)))] ++ ((wXo b cy (a 0) r nx sn ln (svOf sk) (kpOf sk) ik bf ++ wRd r kd hg nu dg ng tk) ++ (wSky a cy n lit h t s g kn lo lf nm ++ wOth sk cy S))) ++ (wM aM cy thM smM lnM ptM sgM fiM seM (mSt nM oM hM tM sM gM knM loM lfM nmM) svM slM ikM bfM coM goM foM)) 452 [(4, .int (nI i)), (3, .ref ob), (2, .ref (aM 0)), (1, .ref (b 0)), (0, .ref sb)] [] := by
  obtain ⟨hr, hsn, hri, hke, hln, hl60, hbf, hb126⟩ := id hgR
  have hnx := hri.2.1
  have hsm := hri.1
  have hn := hr.1.1
  have en : n = nM := hr.2.1
  have el : lit = mLit oM := hr.2.2.1
  have hH := hr.2.2.2.1
  have hT := hr.2.2.2.2.1
  have hS := hr.2.2.2.2.2.1
  have hG := hr.2.2.2.2.2.2.1
  have ekn : kn = knM := hr.2.2.2.2.2.2.2.1
  have ho := hr.1.2.1
  have hs0 := hr.1.2.2.1
  have hs1 := hr.1.2.2.2.1
  have hk8 := hr.1.2.2.2.2.1
  have hn6 : n ≤ 6 := by rw [en]; exact hn
  have hkn8 : kn ≤ 8 := by rw [ekn]; exact hk8
  have hsn6 : sn ≤ 6 := by omega
  refine k_aload_n (q := 453) C 3 dL_law_452 rfl rfl ?_
  refine k_aload_n (q := 454) C 4 dL_law_453 rfl rfl ?_
  refine k_iload (q := 456) C 0 dL_law_454 rfl rfl ?_
  refine k_iconst (q := 457) (v := 1) C dL_law_456 (by decide) rfl ?_
  refine k_iadd (q := 458) C dL_law_457 rfl ?_
  refine k_st (st2 := (.int (nI (i + 1)) :: _)) (congrArg (fun z => Value.int z :: _) (show (nI i) + 1 = nI (i + 1) from nI_add i 1)) ?_
  refine k_sld (q := 459) C hX hbl hbA (vp_in_nI (n := i + 1) (by omega) (by omega)) dL_law_458 rfl ?_
  refine k_st (st2 := (.int (xs (i + 1)) :: _)) (congrArg (fun z => Value.int z :: _) (show xs (nI (i + 1)).toNatClampNeg = xs (i + 1) from congrArg xs (nI_clamp (n := i + 1) (by omega)))) ?_
  refine k_st (st2 := (.int (nI j) :: _)) (congrArg (fun z => Value.int z :: _) (show xs (i + 1) = nI j from hx1)) ?_
  refine k_aload_n (q := 460) C 4 dL_law_459 rfl rfl ?_
  refine k_iload (q := 462) C 0 dL_law_460 rfl rfl ?_
  refine k_iconst (q := 463) (v := 2) C dL_law_462 (by decide) rfl ?_
  refine k_iadd (q := 464) C dL_law_463 rfl ?_
  refine k_st (st2 := (.int (nI (i + 2)) :: _)) (congrArg (fun z => Value.int z :: _) (show (nI i) + 2 = nI (i + 2) from nI_add i 2)) ?_
  refine k_sld (q := 465) C hX hbl hbA (vp_in_nI (n := i + 2) (by omega) (by omega)) dL_law_464 rfl ?_
  refine k_st (st2 := (.int (xs (i + 2)) :: _)) (congrArg (fun z => Value.int z :: _) (show xs (nI (i + 2)).toNatClampNeg = xs (i + 2) from congrArg xs (nI_clamp (n := i + 2) (by omega)))) ?_
  refine k_aload_n (q := 466) C 1 dL_law_465 rfl rfl ?_
  refine k_callSL (n := 4) (q := 469) (pre := ([] : va_W)) (post := (wM aM cy thM smM lnM ptM sgM fiM seM (mSt nM oM hM tM sM gM knM loM lfM nmM) svM slM ikM bfM coM goM foM)) (w2 := (([(ob, .inl (cy 4, 1, .inr (.inl (vp_updL ou 0 (g j).toInt64))))] ++ ((wXo b cy (a 0) r ((nx + 1) % 6) (min (sn + 1) 6) ln (svOf sk) (kpOf sk) ik bf ++ wRd r kd hg nu dg ng tk) ++ (wSky a cy n lit h t s (upd g j (xs (i + 2))) kn lo lf nm ++ wOth sk cy (updS S nx (cLike (n, lit, h, t, s, g, kn, lo, lf, nm) (S nx)))))) ++ (wM aM cy thM smM lnM ptM sgM fiM seM (mSt nM oM hM tM sM gM knM loM lfM nmM) svM slM ikM bfM coM goM foM))) (As := [.ref (b 0), .int (nI j), .int (xs (i + 2)), .ref ob]) (rest := []) C Z hst (c_L_set cy a b r nx sn ln sk S ik bf kd hg nu dg ng tk n lit h t s g kn lo lf nm ob ou j (xs (i + 2)) hnx hsn6 hj hy) gL_law_L_set rfl rfl rfl (by decide +kernel) (k_room hR (by decide)) (k_le hR (by omega)) rfl rfl (Nat.le_of_ble_eq_true rfl) (rfl) (rfl) dL_law_466 rfl ?_
  refine k_istore (q := 471) (fr2 := [(5, .int 0), (4, .int (nI i)), (3, .ref ob), (2, .ref (aM 0)), (1, .ref (b 0)), (0, .ref sb)]) C dL_law_469 (by decide) rfl rfl ?_
  refine k_aload_n (q := 472) C 3 dL_law_471 rfl rfl ?_
  refine k_aload_n (q := 473) C 5 dL_law_472 rfl rfl ?_
  refine k_iload (q := 475) C 1 dL_law_473 rfl rfl ?_
  refine k_iconst (q := 476) (v := 1) C dL_law_475 (by decide) rfl ?_
  refine k_iadd (q := 477) C dL_law_476 rfl ?_
  refine k_st (st2 := (.int (nI (i + 1)) :: _)) (congrArg (fun z => Value.int z :: _) (show (nI i) + 1 = nI (i + 1) from nI_add i 1)) ?_
  refine k_sld (q := 478) C hX hbl hbA (vp_in_nI (n := i + 1) (by omega) (by omega)) dL_law_477 rfl ?_
  refine k_st (st2 := (.int (xs (i + 1)) :: _)) (congrArg (fun z => Value.int z :: _) (show xs (nI (i + 1)).toNatClampNeg = xs (i + 1) from congrArg xs (nI_clamp (n := i + 1) (by omega)))) ?_
  refine k_st (st2 := (.int (nI j) :: _)) (congrArg (fun z => Value.int z :: _) (show xs (i + 1) = nI j from hx1)) ?_
  refine k_aload_n (q := 479) C 5 dL_law_478 rfl rfl ?_
  refine k_iload (q := 481) C 1 dL_law_479 rfl rfl ?_
  refine k_iconst (q := 482) (v := 2) C dL_law_481 (by decide) rfl ?_
  refine k_iadd (q := 483) C dL_law_482 rfl ?_
  refine k_st (st2 := (.int (nI (i + 2)) :: _)) (congrArg (fun z => Value.int z :: _) (show (nI i) + 2 = nI (i + 2) from nI_add i 2)) ?_
  refine k_sld (q := 484) C hX hbl hbA (vp_in_nI (n := i + 2) (by omega) (by omega)) dL_law_483 rfl ?_
  refine k_st (st2 := (.int (xs (i + 2)) :: _)) (congrArg (fun z => Value.int z :: _) (show xs (nI (i + 2)).toNatClampNeg = xs (i + 2) from congrArg xs (nI_clamp (n := i + 2) (by omega)))) ?_
  refine k_callVI (n := 2) (q := 487) (pre := ([(ob, .inl (cy 4, 1, .inr (.inl (vp_updL ou 0 (g j).toInt64))))] ++ ((wXo b cy (a 0) r ((nx + 1) % 6) (min (sn + 1) 6) ln (svOf sk) (kpOf sk) ik bf ++ wRd r kd hg nu dg ng tk) ++ (wSky a cy n lit h t s (upd g j (xs (i + 2))) kn lo lf nm ++ wOth sk cy (updS S nx (cLike (n, lit, h, t, s, g, kn, lo, lf, nm) (S nx))))))) (post := ([] : va_W)) (w2 := (([(ob, .inl (cy 4, 1, .inr (.inl (vp_updL ou 0 (g j).toInt64))))] ++ ((wXo b cy (a 0) r ((nx + 1) % 6) (min (sn + 1) 6) ln (svOf sk) (kpOf sk) ik bf ++ wRd r kd hg nu dg ng tk) ++ (wSky a cy n lit h t s (upd g j (xs (i + 2))) kn lo lf nm ++ wOth sk cy (updS S nx (cLike (n, lit, h, t, s, g, kn, lo, lf, nm) (S nx)))))) ++ (wM aM cy 0 (min (smM + 1) 6) lnM ptM sgM fiM seM (mSt nM oM hM tM sM (upd gM j (xs (i + 2))) knM loM lfM nmM) (mSave svM (mSt nM oM hM tM sM gM knM loM lfM nmM) smM) slM ikM bfM coM goM foM))) (As := [.int (nI j), .int (xs (i + 2))]) (rest := []) C (c_X4_set cy aM thM smM lnM ptM sgM fiM seM nM oM hM tM sM gM knM loM lfM nmM svM slM ikM bfM coM goM foM j (xs (i + 2)) hj hy hsm) gL_law_X4_set rfl rfl rfl (by decide +kernel) (k_room hR (by decide)) (k_le hR (by omega)) (ci := 4) rfl 0 rfl rfl rfl (Nat.le_of_ble_eq_true rfl) (k_pre) (k_pre.symm) dL_law_484 rfl ?_
  refine k_st (st2 := (.int (g j) :: _)) (congrArg (fun z => Value.int z :: _) (show gM j = g j from (hG j hj).symm)) ?_
  refine k_istore (q := 489) (fr2 := [(6, .int (g j)), (5, .int 0), (4, .int (nI i)), (3, .ref ob), (2, .ref (aM 0)), (1, .ref (b 0)), (0, .ref sb)]) C dL_law_487 (by decide) rfl rfl ?_
  refine k_aload_n (q := 490) C 4 dL_law_489 rfl rfl ?_
  refine k_callVI (n := 0) (q := 493) (pre := ([(ob, .inl (cy 4, 1, .inr (.inl (vp_updL ou 0 (g j).toInt64))))] ++ ((wXo b cy (a 0) r ((nx + 1) % 6) (min (sn + 1) 6) ln (svOf sk) (kpOf sk) ik bf ++ wRd r kd hg nu dg ng tk) ++ (wSky a cy n lit h t s (upd g j (xs (i + 2))) kn lo lf nm ++ wOth sk cy (updS S nx (cLike (n, lit, h, t, s, g, kn, lo, lf, nm) (S nx))))))) (post := ([] : va_W)) (w2 := (([(ob, .inl (cy 4, 1, .inr (.inl (vp_updL ou 0 (g j).toInt64))))] ++ ((wXo b cy (a 0) r ((nx + 1) % 6) (min (sn + 1) 6) ln (svOf sk) (kpOf sk) ik bf ++ wRd r kd hg nu dg ng tk) ++ (wSky a cy n lit h t s (upd g j (xs (i + 2))) kn lo lf nm ++ wOth sk cy (updS S nx (cLike (n, lit, h, t, s, g, kn, lo, lf, nm) (S nx)))))) ++ (wM aM cy 0 (min (smM + 1) 6) lnM ptM sgM fiM seM (mSt nM oM hM tM sM (upd gM j (xs (i + 2))) knM loM lfM nmM) (mSave svM (mSt nM oM hM tM sM gM knM loM lfM nmM) smM) slM ikM bfM coM goM foM))) (As := []) (rest := []) C (c_X4_thrown cy aM 0 (min (smM + 1) 6) lnM ptM sgM fiM seM nM oM hM tM sM (upd gM j (xs (i + 2))) knM loM lfM nmM (mSave svM (mSt nM oM hM tM sM gM knM loM lfM nmM) smM) slM ikM bfM coM goM foM) gL_law_X4_thrown rfl rfl rfl (by decide +kernel) (k_room hR (by decide)) (k_le hR (by omega)) (ci := 4) rfl 0 rfl rfl rfl (Nat.le_of_ble_eq_true rfl) (k_pre) (k_pre.symm) dL_law_490 rfl ?_
  refine k_iload (q := 495) C 1 dL_law_493 rfl rfl ?_
  refine k_icmp_eq (tgt := 500) (q := 498) C dL_law_495 (by decide) rfl ?_ ?_
  · intro c_495
    refine k_iload (q := 502) C 1 dL_law_500 rfl rfl ?_
    refine k_if_ne (tgt := 517) (q := 505) C dL_law_502 (by decide) rfl ?_ ?_
    · exact fun c_502 => absurd c_502 (by decide)
    · intro c_502
      refine k_aload_n (q := 506) C 3 dL_law_505 rfl rfl ?_
      refine k_iconst (q := 507) (v := 0) C dL_law_506 (by decide) rfl ?_
      refine k_lald (q := 508) C 0 rfl (vp_in_nI (n := 0) (by decide) (by decide)) dL_law_507 rfl ?_
      refine k_st (st2 := (.long ((g j).toInt64) :: _)) (congrArg (fun z => Value.long z :: _) (show (vp_updL ou 0 (g j).toInt64) ((0 : Int32).toNatClampNeg) = (g j).toInt64 from if_pos rfl)) ?_
      refine k_iload (q := 510) C 0 dL_law_508 rfl rfl ?_
      refine k_i2l (q := 511) C dL_law_510 rfl ?_
      refine k_lcmp (q := 512) C dL_law_511 rfl ?_
      refine k_st (st2 := (.int 0 :: _)) (congrArg (fun z => Value.int z :: _) (show lg_cmp ((g j).toInt64) ((g j).toInt64) = 0 from lcmp_0 _)) ?_
      refine k_if_eq (tgt := 517) (q := 515) C dL_law_512 (by decide) rfl ?_ ?_
      · intro c_512
        refine k_goto (q := 1415) C dL_law_517 (by decide) ?_
        refine k_fr (fr2 := [(4, .int (nI i)), (3, .ref ob), (2, .ref (aM 0)), (1, .ref (b 0)), (0, .ref sb)]) ⟨[2, 3, 4, 5, 6], rfl⟩ ?_
        exact E ((nx + 1) % 6) (min (sn + 1) 6) ln (updS S nx (cLike (n, lit, h, t, s, g, kn, lo, lf, nm) (S nx))) ik bf kd hg nu dg ng tk ((n, lit, h, t, s, upd g j (xs (i + 2)), kn, lo, lf, nm) : CK) (vp_updL ou 0 (g j).toInt64) 0 (min (smM + 1) 6) lnM ptM sgM fiM seM ((nM, oM, hM, tM, sM, upd gM j (xs (i + 2)), knM, loM, lfM, nmM) : SK) (mSave svM (mSt nM oM hM tM sM gM knM loM lfM nmM) smM) slM ikM bfM coM goM foM (⟨r_set hr hj hy, by omega, ring_save hri hr, kept_save hke hnx, hln, hl60, hbf, hb126⟩)
      · exact fun c_512 => absurd c_512 (by decide)
  · exact fun c_495 => absurd c_495 (by decide)
set_option maxHeartbeats 4000000 in
set_option maxRecDepth 100000 in
theorem lw_append (cy : Nat → ClassId) (a : Nat → Nat) (b : Nat → Nat) (r : Nat) (nx : Nat) (sn : Nat) (ln : Nat) (sk : Nat → Nat → Nat) (S : Nat → CK) (ik : Nat → Int32) (bf : Nat → Nat) (kd : Nat) (hg : Nat) (nu : Nat) (dg : Nat) (ng : Bool) (tk : Bool) (n : Nat) (lit : Int32) (h : Nat → Int32) (t : Nat → Int32) (s : Nat → Int32) (g : Nat → Int32) (kn : Nat) (lo : Int32) (lf : Int32) (nm : Nat → Int32) (ob : Nat) (ou : Nat → Int64) (aM : Nat → Nat) (thM : Int32) (smM : Nat) (lnM : Nat) (ptM : Nat) (sgM : Nat) (fiM : Int32) (seM : Int32) (nM : Nat) (oM : Nat → Int32) (hM : Nat → Int32) (tM : Nat → Int32) (sM : Nat → Int32) (gM : Nat → Int32) (knM : Nat) (loM : Int32) (lfM : Int32) (nmM : Nat → Int32) (svM : Nat → Int32) (slM : Nat → Int32) (ikM : Nat → Int32) (bfM : Nat → Nat) (coM : Nat → Int32) (goM : Nat → Int32) (foM : Nat → Int32) (c : Nat) (X : kX) (hR : xR X = room_1) (C : kC X 9 RL cL_law wsL_law cy) (Z : kZ (xA X) (xS X) (xS X).heap) (hst : (xL X).stackTraces = false) (sb i L ce sl : Nat) (xs : Nat → Int32) (hX : va_X sb L xs (xS X) (xS X).heap) (hbl : sb < (xS X).heap.size) (hbA : ¬ (xA X) sb) (hL : L ≤ 2048) (hi : i + 4 ≤ L) (hce : ce + 1 ≤ 620303 ∧ sl + 6 ≤ 7235195) (E : lwE X cy a b r sk ob aM sb i ce sl) (hgR : gR nx sn ln ik bf ((n, lit, h, t, s, g, kn, lo, lf, nm) : CK) S smM lnM ((nM, oM, hM, tM, sM, gM, knM, loM, lfM, nmM) : SK) svM slM ikM bfM) (hc : 33 ≤ c ∧ c ≤ 126) (hx1 : xs (i + 1) = nI c) (hl : ln < 60) : kG X 9 ce sl (([(ob, .inl (cy 4, 1, .inr (.inl ou)))] ++ ((wXo b cy (a 0) r nx sn ln (svOf sk) (kpOf sk) ik bf ++ wRd r kd hg nu dg ng tk) ++ (wSky a cy n lit h t s g kn lo lf nm ++ wOth sk cy S))) ++ (wM aM cy thM smM lnM ptM sgM fiM seM (mSt nM oM hM tM sM gM knM loM lfM nmM) svM slM ikM bfM coM goM foM)) 601 [(4, .int (nI i)), (3, .ref ob), (2, .ref (aM 0)), (1, .ref (b 0)), (0, .ref sb)] [] := by
  obtain ⟨hr, hsn, hri, hke, hln, hl60, hbf, hb126⟩ := id hgR
  have hnx := hri.2.1
  have hsm := hri.1
  have hn := hr.1.1
  have en : n = nM := hr.2.1
  have el : lit = mLit oM := hr.2.2.1
  have hH := hr.2.2.2.1
  have hT := hr.2.2.2.2.1
  have hS := hr.2.2.2.2.2.1
  have hG := hr.2.2.2.2.2.2.1
  have ekn : kn = knM := hr.2.2.2.2.2.2.2.1
  have ho := hr.1.2.1
  have hs0 := hr.1.2.2.1
  have hs1 := hr.1.2.2.2.1
  have hk8 := hr.1.2.2.2.2.1
  have hn6 : n ≤ 6 := by rw [en]; exact hn
  have hkn8 : kn ≤ 8 := by rw [ekn]; exact hk8
  have hsn6 : sn ≤ 6 := by omega
  refine k_aload_n (q := 602) C 3 dL_law_601 rfl rfl ?_
  refine k_aload_n (q := 603) C 4 dL_law_602 rfl rfl ?_
  refine k_iload (q := 605) C 0 dL_law_603 rfl rfl ?_
  refine k_iconst (q := 606) (v := 1) C dL_law_605 (by decide) rfl ?_
  refine k_iadd (q := 607) C dL_law_606 rfl ?_
  refine k_st (st2 := (.int (nI (i + 1)) :: _)) (congrArg (fun z => Value.int z :: _) (show (nI i) + 1 = nI (i + 1) from nI_add i 1)) ?_
  refine k_sld (q := 608) C hX hbl hbA (vp_in_nI (n := i + 1) (by omega) (by omega)) dL_law_607 rfl ?_
  refine k_st (st2 := (.int (xs (i + 1)) :: _)) (congrArg (fun z => Value.int z :: _) (show xs (nI (i + 1)).toNatClampNeg = xs (i + 1) from congrArg xs (nI_clamp (n := i + 1) (by omega)))) ?_
  refine k_st (st2 := (.int (nI c) :: _)) (congrArg (fun z => Value.int z :: _) (show xs (i + 1) = nI c from hx1)) ?_
  refine k_aload_n (q := 609) C 1 dL_law_608 rfl rfl ?_
  refine k_callSL (n := 3) (q := 612) (pre := ([] : va_W)) (post := (wM aM cy thM smM lnM ptM sgM fiM seM (mSt nM oM hM tM sM gM knM loM lfM nmM) svM slM ikM bfM coM goM foM)) (w2 := (([(ob, .inl (cy 4, 1, .inr (.inl (vp_updL ou 0 (nI (ln + 1)).toInt64))))] ++ ((wXo b cy (a 0) r nx sn (ln + 1) (svOf sk) (kpOf sk) ik (updN bf ln c) ++ wRd r kd hg nu dg ng tk) ++ (wSky a cy n lit h t s g kn lo lf nm ++ wOth sk cy S))) ++ (wM aM cy thM smM lnM ptM sgM fiM seM (mSt nM oM hM tM sM gM knM loM lfM nmM) svM slM ikM bfM coM goM foM))) (As := [.ref (b 0), .int (nI c), .ref ob]) (rest := []) C Z hst (c_L_append cy a b r nx sn ln sk S ik bf kd hg nu dg ng tk n lit h t s g kn lo lf nm ob ou c hc hl) gL_law_L_append rfl rfl rfl (by decide +kernel) (k_room hR (by decide)) (k_le hR (by omega)) rfl rfl (Nat.le_of_ble_eq_true rfl) (rfl) (rfl) dL_law_609 rfl ?_
  refine k_istore (q := 614) (fr2 := [(5, .int 0), (4, .int (nI i)), (3, .ref ob), (2, .ref (aM 0)), (1, .ref (b 0)), (0, .ref sb)]) C dL_law_612 (by decide) rfl rfl ?_
  refine k_aload_n (q := 615) C 3 dL_law_614 rfl rfl ?_
  refine k_aload_n (q := 616) C 5 dL_law_615 rfl rfl ?_
  refine k_iload (q := 618) C 1 dL_law_616 rfl rfl ?_
  refine k_iconst (q := 619) (v := 1) C dL_law_618 (by decide) rfl ?_
  refine k_iadd (q := 620) C dL_law_619 rfl ?_
  refine k_st (st2 := (.int (nI (i + 1)) :: _)) (congrArg (fun z => Value.int z :: _) (show (nI i) + 1 = nI (i + 1) from nI_add i 1)) ?_
  refine k_sld (q := 621) C hX hbl hbA (vp_in_nI (n := i + 1) (by omega) (by omega)) dL_law_620 rfl ?_
  refine k_st (st2 := (.int (xs (i + 1)) :: _)) (congrArg (fun z => Value.int z :: _) (show xs (nI (i + 1)).toNatClampNeg = xs (i + 1) from congrArg xs (nI_clamp (n := i + 1) (by omega)))) ?_
  refine k_st (st2 := (.int (nI c) :: _)) (congrArg (fun z => Value.int z :: _) (show xs (i + 1) = nI c from hx1)) ?_
  refine k_callVI (n := 1) (q := 624) (pre := ([(ob, .inl (cy 4, 1, .inr (.inl (vp_updL ou 0 (nI (ln + 1)).toInt64))))] ++ ((wXo b cy (a 0) r nx sn (ln + 1) (svOf sk) (kpOf sk) ik (updN bf ln c) ++ wRd r kd hg nu dg ng tk) ++ (wSky a cy n lit h t s g kn lo lf nm ++ wOth sk cy S)))) (post := ([] : va_W)) (w2 := (([(ob, .inl (cy 4, 1, .inr (.inl (vp_updL ou 0 (nI (ln + 1)).toInt64))))] ++ ((wXo b cy (a 0) r nx sn (ln + 1) (svOf sk) (kpOf sk) ik (updN bf ln c) ++ wRd r kd hg nu dg ng tk) ++ (wSky a cy n lit h t s g kn lo lf nm ++ wOth sk cy S))) ++ (wM aM cy 0 smM (lnM + 1) ptM sgM fiM seM (mSt nM oM hM tM sM gM knM loM lfM nmM) svM slM ikM (updN bfM lnM c) coM goM foM))) (As := [.int (nI c)]) (rest := []) C (c_X4_append cy aM thM smM lnM ptM sgM fiM seM nM oM hM tM sM gM knM loM lfM nmM svM slM ikM bfM coM goM foM c hc (by omega)) gL_law_X4_append rfl rfl rfl (by decide +kernel) (k_room hR (by decide)) (k_le hR (by omega)) (ci := 4) rfl 0 rfl rfl rfl (Nat.le_of_ble_eq_true rfl) (k_pre) (k_pre.symm) dL_law_621 rfl ?_
  refine k_st (st2 := (.int (nI (ln + 1)) :: _)) (congrArg (fun z => Value.int z :: _) (show nI (lnM + 1) = nI (ln + 1) from (by rw [hln]))) ?_
  refine k_istore (q := 626) (fr2 := [(6, .int (nI (ln + 1))), (5, .int 0), (4, .int (nI i)), (3, .ref ob), (2, .ref (aM 0)), (1, .ref (b 0)), (0, .ref sb)]) C dL_law_624 (by decide) rfl rfl ?_
  refine k_aload_n (q := 627) C 4 dL_law_626 rfl rfl ?_
  refine k_callVI (n := 0) (q := 630) (pre := ([(ob, .inl (cy 4, 1, .inr (.inl (vp_updL ou 0 (nI (ln + 1)).toInt64))))] ++ ((wXo b cy (a 0) r nx sn (ln + 1) (svOf sk) (kpOf sk) ik (updN bf ln c) ++ wRd r kd hg nu dg ng tk) ++ (wSky a cy n lit h t s g kn lo lf nm ++ wOth sk cy S)))) (post := ([] : va_W)) (w2 := (([(ob, .inl (cy 4, 1, .inr (.inl (vp_updL ou 0 (nI (ln + 1)).toInt64))))] ++ ((wXo b cy (a 0) r nx sn (ln + 1) (svOf sk) (kpOf sk) ik (updN bf ln c) ++ wRd r kd hg nu dg ng tk) ++ (wSky a cy n lit h t s g kn lo lf nm ++ wOth sk cy S))) ++ (wM aM cy 0 smM (lnM + 1) ptM sgM fiM seM (mSt nM oM hM tM sM gM knM loM lfM nmM) svM slM ikM (updN bfM lnM c) coM goM foM))) (As := []) (rest := []) C (c_X4_thrown cy aM 0 smM (lnM + 1) ptM sgM fiM seM nM oM hM tM sM gM knM loM lfM nmM svM slM ikM (updN bfM lnM c) coM goM foM) gL_law_X4_thrown rfl rfl rfl (by decide +kernel) (k_room hR (by decide)) (k_le hR (by omega)) (ci := 4) rfl 0 rfl rfl rfl (Nat.le_of_ble_eq_true rfl) (k_pre) (k_pre.symm) dL_law_627 rfl ?_
  refine k_iload (q := 632) C 1 dL_law_630 rfl rfl ?_
  refine k_icmp_eq (tgt := 637) (q := 635) C dL_law_632 (by decide) rfl ?_ ?_
  · intro c_632
    refine k_iload (q := 639) C 1 dL_law_637 rfl rfl ?_
    refine k_if_ne (tgt := 654) (q := 642) C dL_law_639 (by decide) rfl ?_ ?_
    · exact fun c_639 => absurd c_639 (by decide)
    · intro c_639
      refine k_aload_n (q := 643) C 3 dL_law_642 rfl rfl ?_
      refine k_iconst (q := 644) (v := 0) C dL_law_643 (by decide) rfl ?_
      refine k_lald (q := 645) C 0 rfl (vp_in_nI (n := 0) (by decide) (by decide)) dL_law_644 rfl ?_
      refine k_st (st2 := (.long ((nI (ln + 1)).toInt64) :: _)) (congrArg (fun z => Value.long z :: _) (show (vp_updL ou 0 (nI (ln + 1)).toInt64) ((0 : Int32).toNatClampNeg) = (nI (ln + 1)).toInt64 from if_pos rfl)) ?_
      refine k_iload (q := 647) C 0 dL_law_645 rfl rfl ?_
      refine k_i2l (q := 648) C dL_law_647 rfl ?_
      refine k_lcmp (q := 649) C dL_law_648 rfl ?_
      refine k_st (st2 := (.int 0 :: _)) (congrArg (fun z => Value.int z :: _) (show lg_cmp ((nI (ln + 1)).toInt64) ((nI (ln + 1)).toInt64) = 0 from lcmp_0 _)) ?_
      refine k_if_eq (tgt := 654) (q := 652) C dL_law_649 (by decide) rfl ?_ ?_
      · intro c_649
        refine k_goto (q := 1415) C dL_law_654 (by decide) ?_
        refine k_fr (fr2 := [(4, .int (nI i)), (3, .ref ob), (2, .ref (aM 0)), (1, .ref (b 0)), (0, .ref sb)]) ⟨[2, 3, 4, 5, 6], rfl⟩ ?_
        exact E nx sn (ln + 1) S ik (updN bf ln c) kd hg nu dg ng tk ((n, lit, h, t, s, g, kn, lo, lf, nm) : CK) (vp_updL ou 0 (nI (ln + 1)).toInt64) 0 smM (lnM + 1) ptM sgM fiM seM ((nM, oM, hM, tM, sM, gM, knM, loM, lfM, nmM) : SK) svM slM ikM (updN bfM lnM c) coM goM foM (⟨hr, hsn, hri, hke, by omega, by omega, by rw [hln, hbf], fun k => by unfold updN; split; (omega); (exact hb126 k)⟩)
      · exact fun c_649 => absurd c_649 (by decide)
  · exact fun c_632 => absurd c_632 (by decide)
set_option maxHeartbeats 4000000 in
set_option maxRecDepth 100000 in
theorem lw_append_e2 (cy : Nat → ClassId) (a : Nat → Nat) (b : Nat → Nat) (r : Nat) (nx : Nat) (sn : Nat) (ln : Nat) (sk : Nat → Nat → Nat) (S : Nat → CK) (ik : Nat → Int32) (bf : Nat → Nat) (kd : Nat) (hg : Nat) (nu : Nat) (dg : Nat) (ng : Bool) (tk : Bool) (n : Nat) (lit : Int32) (h : Nat → Int32) (t : Nat → Int32) (s : Nat → Int32) (g : Nat → Int32) (kn : Nat) (lo : Int32) (lf : Int32) (nm : Nat → Int32) (ob : Nat) (ou : Nat → Int64) (aM : Nat → Nat) (thM : Int32) (smM : Nat) (lnM : Nat) (ptM : Nat) (sgM : Nat) (fiM : Int32) (seM : Int32) (nM : Nat) (oM : Nat → Int32) (hM : Nat → Int32) (tM : Nat → Int32) (sM : Nat → Int32) (gM : Nat → Int32) (knM : Nat) (loM : Int32) (lfM : Int32) (nmM : Nat → Int32) (svM : Nat → Int32) (slM : Nat → Int32) (ikM : Nat → Int32) (bfM : Nat → Nat) (coM : Nat → Int32) (goM : Nat → Int32) (foM : Nat → Int32) (c : Nat) (X : kX) (hR : xR X = room_1) (C : kC X 9 RL cL_law wsL_law cy) (Z : kZ (xA X) (xS X) (xS X).heap) (hst : (xL X).stackTraces = false) (sb i L ce sl : Nat) (xs : Nat → Int32) (hX : va_X sb L xs (xS X) (xS X).heap) (hbl : sb < (xS X).heap.size) (hbA : ¬ (xA X) sb) (hL : L ≤ 2048) (hi : i + 4 ≤ L) (hce : ce + 1 ≤ 620303 ∧ sl + 6 ≤ 7235195) (E : lwE X cy a b r sk ob aM sb i ce sl) (hgR : gR nx sn ln ik bf ((n, lit, h, t, s, g, kn, lo, lf, nm) : CK) S smM lnM ((nM, oM, hM, tM, sM, gM, knM, loM, lfM, nmM) : SK) svM slM ikM bfM) (hc : 33 ≤ c ∧ c ≤ 126) (hx1 : xs (i + 1) = nI c) (hl : ln = 60) : kG X 9 ce sl (([(ob, .inl (cy 4, 1, .inr (.inl ou)))] ++ ((wXo b cy (a 0) r nx sn ln (svOf sk) (kpOf sk) ik bf ++ wRd r kd hg nu dg ng tk) ++ (wSky a cy n lit h t s g kn lo lf nm ++ wOth sk cy S))) ++ (wM aM cy thM smM lnM ptM sgM fiM seM (mSt nM oM hM tM sM gM knM loM lfM nmM) svM slM ikM bfM coM goM foM)) 601 [(4, .int (nI i)), (3, .ref ob), (2, .ref (aM 0)), (1, .ref (b 0)), (0, .ref sb)] [] := by
  obtain ⟨hr, hsn, hri, hke, hln, hl60, hbf, hb126⟩ := id hgR
  have hnx := hri.2.1
  have hsm := hri.1
  have hn := hr.1.1
  have en : n = nM := hr.2.1
  have el : lit = mLit oM := hr.2.2.1
  have hH := hr.2.2.2.1
  have hT := hr.2.2.2.2.1
  have hS := hr.2.2.2.2.2.1
  have hG := hr.2.2.2.2.2.2.1
  have ekn : kn = knM := hr.2.2.2.2.2.2.2.1
  have ho := hr.1.2.1
  have hs0 := hr.1.2.2.1
  have hs1 := hr.1.2.2.2.1
  have hk8 := hr.1.2.2.2.2.1
  have hn6 : n ≤ 6 := by rw [en]; exact hn
  have hkn8 : kn ≤ 8 := by rw [ekn]; exact hk8
  have hsn6 : sn ≤ 6 := by omega
  refine k_aload_n (q := 602) C 3 dL_law_601 rfl rfl ?_
  refine k_aload_n (q := 603) C 4 dL_law_602 rfl rfl ?_
  refine k_iload (q := 605) C 0 dL_law_603 rfl rfl ?_
  refine k_iconst (q := 606) (v := 1) C dL_law_605 (by decide) rfl ?_
  refine k_iadd (q := 607) C dL_law_606 rfl ?_
  refine k_st (st2 := (.int (nI (i + 1)) :: _)) (congrArg (fun z => Value.int z :: _) (show (nI i) + 1 = nI (i + 1) from nI_add i 1)) ?_
  refine k_sld (q := 608) C hX hbl hbA (vp_in_nI (n := i + 1) (by omega) (by omega)) dL_law_607 rfl ?_
  refine k_st (st2 := (.int (xs (i + 1)) :: _)) (congrArg (fun z => Value.int z :: _) (show xs (nI (i + 1)).toNatClampNeg = xs (i + 1) from congrArg xs (nI_clamp (n := i + 1) (by omega)))) ?_
  refine k_st (st2 := (.int (nI c) :: _)) (congrArg (fun z => Value.int z :: _) (show xs (i + 1) = nI c from hx1)) ?_
  refine k_aload_n (q := 609) C 1 dL_law_608 rfl rfl ?_
  refine k_callSL (n := 3) (q := 612) (pre := ([] : va_W)) (post := (wM aM cy thM smM lnM ptM sgM fiM seM (mSt nM oM hM tM sM gM knM loM lfM nmM) svM slM ikM bfM coM goM foM)) (w2 := (([(ob, .inl (cy 4, 1, .inr (.inl ou)))] ++ ((wXo b cy (a 0) r nx sn ln (svOf sk) (kpOf sk) ik bf ++ wRd r kd hg nu dg ng tk) ++ (wSky a cy n lit h t s g kn lo lf nm ++ wOth sk cy S))) ++ (wM aM cy thM smM lnM ptM sgM fiM seM (mSt nM oM hM tM sM gM knM loM lfM nmM) svM slM ikM bfM coM goM foM))) (As := [.ref (b 0), .int (nI c), .ref ob]) (rest := []) C Z hst (c_L_append_e2 cy a b r nx sn ln sk S ik bf kd hg nu dg ng tk n lit h t s g kn lo lf nm ob ou c hc hl) gL_law_L_append rfl rfl rfl (by decide +kernel) (k_room hR (by decide)) (k_le hR (by omega)) rfl rfl (Nat.le_of_ble_eq_true rfl) (rfl) (rfl) dL_law_609 rfl ?_
  refine k_istore (q := 614) (fr2 := [(5, .int 2), (4, .int (nI i)), (3, .ref ob), (2, .ref (aM 0)), (1, .ref (b 0)), (0, .ref sb)]) C dL_law_612 (by decide) rfl rfl ?_
  refine k_aload_n (q := 615) C 3 dL_law_614 rfl rfl ?_
  refine k_aload_n (q := 616) C 5 dL_law_615 rfl rfl ?_
  refine k_iload (q := 618) C 1 dL_law_616 rfl rfl ?_
  refine k_iconst (q := 619) (v := 1) C dL_law_618 (by decide) rfl ?_
  refine k_iadd (q := 620) C dL_law_619 rfl ?_
  refine k_st (st2 := (.int (nI (i + 1)) :: _)) (congrArg (fun z => Value.int z :: _) (show (nI i) + 1 = nI (i + 1) from nI_add i 1)) ?_
  refine k_sld (q := 621) C hX hbl hbA (vp_in_nI (n := i + 1) (by omega) (by omega)) dL_law_620 rfl ?_
  refine k_st (st2 := (.int (xs (i + 1)) :: _)) (congrArg (fun z => Value.int z :: _) (show xs (nI (i + 1)).toNatClampNeg = xs (i + 1) from congrArg xs (nI_clamp (n := i + 1) (by omega)))) ?_
  refine k_st (st2 := (.int (nI c) :: _)) (congrArg (fun z => Value.int z :: _) (show xs (i + 1) = nI c from hx1)) ?_
  refine k_callVI (n := 1) (q := 624) (pre := ([(ob, .inl (cy 4, 1, .inr (.inl ou)))] ++ ((wXo b cy (a 0) r nx sn ln (svOf sk) (kpOf sk) ik bf ++ wRd r kd hg nu dg ng tk) ++ (wSky a cy n lit h t s g kn lo lf nm ++ wOth sk cy S)))) (post := ([] : va_W)) (w2 := (([(ob, .inl (cy 4, 1, .inr (.inl ou)))] ++ ((wXo b cy (a 0) r nx sn ln (svOf sk) (kpOf sk) ik bf ++ wRd r kd hg nu dg ng tk) ++ (wSky a cy n lit h t s g kn lo lf nm ++ wOth sk cy S))) ++ (wM aM cy 2 smM lnM ptM sgM fiM seM (mSt nM oM hM tM sM gM knM loM lfM nmM) svM slM ikM bfM coM goM foM))) (As := [.int (nI c)]) (rest := []) C (c_X4_append_e2 cy aM thM smM lnM ptM sgM fiM seM nM oM hM tM sM gM knM loM lfM nmM svM slM ikM bfM coM goM foM c hc (by omega)) gL_law_X4_append rfl rfl rfl (by decide +kernel) (k_room hR (by decide)) (k_le hR (by omega)) (ci := 4) rfl 0 rfl rfl rfl (Nat.le_of_ble_eq_true rfl) (k_pre) (k_pre.symm) dL_law_621 rfl ?_
  refine k_istore (q := 626) (fr2 := [(6, .int 0), (5, .int 2), (4, .int (nI i)), (3, .ref ob), (2, .ref (aM 0)), (1, .ref (b 0)), (0, .ref sb)]) C dL_law_624 (by decide) rfl rfl ?_
  refine k_aload_n (q := 627) C 4 dL_law_626 rfl rfl ?_
  refine k_callVI (n := 0) (q := 630) (pre := ([(ob, .inl (cy 4, 1, .inr (.inl ou)))] ++ ((wXo b cy (a 0) r nx sn ln (svOf sk) (kpOf sk) ik bf ++ wRd r kd hg nu dg ng tk) ++ (wSky a cy n lit h t s g kn lo lf nm ++ wOth sk cy S)))) (post := ([] : va_W)) (w2 := (([(ob, .inl (cy 4, 1, .inr (.inl ou)))] ++ ((wXo b cy (a 0) r nx sn ln (svOf sk) (kpOf sk) ik bf ++ wRd r kd hg nu dg ng tk) ++ (wSky a cy n lit h t s g kn lo lf nm ++ wOth sk cy S))) ++ (wM aM cy 2 smM lnM ptM sgM fiM seM (mSt nM oM hM tM sM gM knM loM lfM nmM) svM slM ikM bfM coM goM foM))) (As := []) (rest := []) C (c_X4_thrown cy aM 2 smM lnM ptM sgM fiM seM nM oM hM tM sM gM knM loM lfM nmM svM slM ikM bfM coM goM foM) gL_law_X4_thrown rfl rfl rfl (by decide +kernel) (k_room hR (by decide)) (k_le hR (by omega)) (ci := 4) rfl 0 rfl rfl rfl (Nat.le_of_ble_eq_true rfl) (k_pre) (k_pre.symm) dL_law_627 rfl ?_
  refine k_iload (q := 632) C 1 dL_law_630 rfl rfl ?_
  refine k_icmp_eq (tgt := 637) (q := 635) C dL_law_632 (by decide) rfl ?_ ?_
  · intro c_632
    refine k_iload (q := 639) C 1 dL_law_637 rfl rfl ?_
    refine k_if_ne (tgt := 654) (q := 642) C dL_law_639 (by decide) rfl ?_ ?_
    · intro c_639
      refine k_goto (q := 1415) C dL_law_654 (by decide) ?_
      refine k_fr (fr2 := [(4, .int (nI i)), (3, .ref ob), (2, .ref (aM 0)), (1, .ref (b 0)), (0, .ref sb)]) ⟨[2, 3, 4, 5, 6], rfl⟩ ?_
      exact E nx sn ln S ik bf kd hg nu dg ng tk ((n, lit, h, t, s, g, kn, lo, lf, nm) : CK) ou 2 smM lnM ptM sgM fiM seM ((nM, oM, hM, tM, sM, gM, knM, loM, lfM, nmM) : SK) svM slM ikM bfM coM goM foM (hgR)
    · exact fun c_639 => absurd c_639 (by decide)
  · exact fun c_632 => absurd c_632 (by decide)
set_option maxHeartbeats 4000000 in
set_option maxRecDepth 100000 in
theorem lw_layerOf (cy : Nat → ClassId) (a : Nat → Nat) (b : Nat → Nat) (r : Nat) (nx : Nat) (sn : Nat) (ln : Nat) (sk : Nat → Nat → Nat) (S : Nat → CK) (ik : Nat → Int32) (bf : Nat → Nat) (kd : Nat) (hg : Nat) (nu : Nat) (dg : Nat) (ng : Bool) (tk : Bool) (n : Nat) (lit : Int32) (h : Nat → Int32) (t : Nat → Int32) (s : Nat → Int32) (g : Nat → Int32) (kn : Nat) (lo : Int32) (lf : Int32) (nm : Nat → Int32) (ob : Nat) (ou : Nat → Int64) (aM : Nat → Nat) (thM : Int32) (smM : Nat) (lnM : Nat) (ptM : Nat) (sgM : Nat) (fiM : Int32) (seM : Int32) (nM : Nat) (oM : Nat → Int32) (hM : Nat → Int32) (tM : Nat → Int32) (sM : Nat → Int32) (gM : Nat → Int32) (knM : Nat) (loM : Int32) (lfM : Int32) (nmM : Nat → Int32) (svM : Nat → Int32) (slM : Nat → Int32) (ikM : Nat → Int32) (bfM : Nat → Nat) (coM : Nat → Int32) (goM : Nat → Int32) (foM : Nat → Int32) (p : Nat) (w : Nat) (X : kX) (hR : xR X = room_1) (C : kC X 9 RL cL_law wsL_law cy) (Z : kZ (xA X) (xS X) (xS X).heap) (hst : (xL X).stackTraces = false) (sb i L ce sl : Nat) (xs : Nat → Int32) (hX : va_X sb L xs (xS X) (xS X).heap) (hbl : sb < (xS X).heap.size) (hbA : ¬ (xA X) sb) (hL : L ≤ 2048) (hi : i + 4 ≤ L) (hce : ce + 1 ≤ 620303 ∧ sl + 6 ≤ 7235195) (E : lwE X cy a b r sk ob aM sb i ce sl) (hgR : gR nx sn ln ik bf ((n, lit, h, t, s, g, kn, lo, lf, nm) : CK) S smM lnM ((nM, oM, hM, tM, sM, gM, knM, loM, lfM, nmM) : SK) svM slM ikM bfM) (hp : p < nM) (hx1 : xs (i + 1) = nI p) (hw : w ≤ 3) (hx2 : xs (i + 2) = nI w) : kG X 9 ce sl (([(ob, .inl (cy 4, 1, .inr (.inl ou)))] ++ ((wXo b cy (a 0) r nx sn ln (svOf sk) (kpOf sk) ik bf ++ wRd r kd hg nu dg ng tk) ++ (wSky a cy n lit h t s g kn lo lf nm ++ wOth sk cy S))) ++ (wM aM cy thM smM lnM ptM sgM fiM seM (mSt nM oM hM tM sM gM knM loM lfM nmM) svM slM ikM bfM coM goM foM)) 883 [(4, .int (nI i)), (3, .ref ob), (2, .ref (aM 0)), (1, .ref (b 0)), (0, .ref sb)] [] := by
  obtain ⟨hr, hsn, hri, hke, hln, hl60, hbf, hb126⟩ := id hgR
  have hnx := hri.2.1
  have hsm := hri.1
  have hn := hr.1.1
  have en : n = nM := hr.2.1
  have el : lit = mLit oM := hr.2.2.1
  have hH := hr.2.2.2.1
  have hT := hr.2.2.2.2.1
  have hS := hr.2.2.2.2.2.1
  have hG := hr.2.2.2.2.2.2.1
  have ekn : kn = knM := hr.2.2.2.2.2.2.2.1
  have ho := hr.1.2.1
  have hs0 := hr.1.2.2.1
  have hs1 := hr.1.2.2.2.1
  have hk8 := hr.1.2.2.2.2.1
  have hn6 : n ≤ 6 := by rw [en]; exact hn
  have hkn8 : kn ≤ 8 := by rw [ekn]; exact hk8
  have hsn6 : sn ≤ 6 := by omega
  refine k_aload_n (q := 884) C 3 dL_law_883 rfl rfl ?_
  refine k_aload_n (q := 885) C 4 dL_law_884 rfl rfl ?_
  refine k_iload (q := 887) C 0 dL_law_885 rfl rfl ?_
  refine k_iconst (q := 888) (v := 1) C dL_law_887 (by decide) rfl ?_
  refine k_iadd (q := 889) C dL_law_888 rfl ?_
  refine k_st (st2 := (.int (nI (i + 1)) :: _)) (congrArg (fun z => Value.int z :: _) (show (nI i) + 1 = nI (i + 1) from nI_add i 1)) ?_
  refine k_sld (q := 890) C hX hbl hbA (vp_in_nI (n := i + 1) (by omega) (by omega)) dL_law_889 rfl ?_
  refine k_st (st2 := (.int (xs (i + 1)) :: _)) (congrArg (fun z => Value.int z :: _) (show xs (nI (i + 1)).toNatClampNeg = xs (i + 1) from congrArg xs (nI_clamp (n := i + 1) (by omega)))) ?_
  refine k_st (st2 := (.int (nI p) :: _)) (congrArg (fun z => Value.int z :: _) (show xs (i + 1) = nI p from hx1)) ?_
  refine k_aload_n (q := 891) C 4 dL_law_890 rfl rfl ?_
  refine k_iload (q := 893) C 0 dL_law_891 rfl rfl ?_
  refine k_iconst (q := 894) (v := 2) C dL_law_893 (by decide) rfl ?_
  refine k_iadd (q := 895) C dL_law_894 rfl ?_
  refine k_st (st2 := (.int (nI (i + 2)) :: _)) (congrArg (fun z => Value.int z :: _) (show (nI i) + 2 = nI (i + 2) from nI_add i 2)) ?_
  refine k_sld (q := 896) C hX hbl hbA (vp_in_nI (n := i + 2) (by omega) (by omega)) dL_law_895 rfl ?_
  refine k_st (st2 := (.int (xs (i + 2)) :: _)) (congrArg (fun z => Value.int z :: _) (show xs (nI (i + 2)).toNatClampNeg = xs (i + 2) from congrArg xs (nI_clamp (n := i + 2) (by omega)))) ?_
  refine k_st (st2 := (.int (nI w) :: _)) (congrArg (fun z => Value.int z :: _) (show xs (i + 2) = nI w from hx2)) ?_
  refine k_aload_n (q := 897) C 1 dL_law_896 rfl rfl ?_
  refine k_callSL (n := 4) (q := 900) (pre := ([] : va_W)) (post := (wM aM cy thM smM lnM ptM sgM fiM seM (mSt nM oM hM tM sM gM knM loM lfM nmM) svM slM ikM bfM coM goM foM)) (w2 := (([(ob, .inl (cy 4, 1, .inr (.inl (vp_updL ou 0 (sLy lit h t s g p (nI w)).toInt64))))] ++ ((wXo b cy (a 0) r nx sn ln (svOf sk) (kpOf sk) ik bf ++ wRd r kd hg nu dg ng tk) ++ (wSky a cy n lit h t s g kn lo lf nm ++ wOth sk cy S))) ++ (wM aM cy thM smM lnM ptM sgM fiM seM (mSt nM oM hM tM sM gM knM loM lfM nmM) svM slM ikM bfM coM goM foM))) (As := [.ref (b 0), .int (nI p), .int (nI w), .ref ob]) (rest := []) C Z hst (c_L_layerOf cy a b r nx sn ln sk S ik bf kd hg nu dg ng tk n lit h t s g kn lo lf nm ob ou p w hn6 (by omega) hw) gL_law_L_layerOf rfl rfl rfl (by decide +kernel) (k_room hR (by decide)) (k_le hR (by omega)) rfl rfl (Nat.le_of_ble_eq_true rfl) (rfl) (rfl) dL_law_897 rfl ?_
  refine k_istore (q := 902) (fr2 := [(5, .int 0), (4, .int (nI i)), (3, .ref ob), (2, .ref (aM 0)), (1, .ref (b 0)), (0, .ref sb)]) C dL_law_900 (by decide) rfl rfl ?_
  refine k_aload_n (q := 903) C 3 dL_law_902 rfl rfl ?_
  refine k_aload_n (q := 904) C 5 dL_law_903 rfl rfl ?_
  refine k_iload (q := 906) C 1 dL_law_904 rfl rfl ?_
  refine k_iconst (q := 907) (v := 1) C dL_law_906 (by decide) rfl ?_
  refine k_iadd (q := 908) C dL_law_907 rfl ?_
  refine k_st (st2 := (.int (nI (i + 1)) :: _)) (congrArg (fun z => Value.int z :: _) (show (nI i) + 1 = nI (i + 1) from nI_add i 1)) ?_
  refine k_sld (q := 909) C hX hbl hbA (vp_in_nI (n := i + 1) (by omega) (by omega)) dL_law_908 rfl ?_
  refine k_st (st2 := (.int (xs (i + 1)) :: _)) (congrArg (fun z => Value.int z :: _) (show xs (nI (i + 1)).toNatClampNeg = xs (i + 1) from congrArg xs (nI_clamp (n := i + 1) (by omega)))) ?_
  refine k_st (st2 := (.int (nI p) :: _)) (congrArg (fun z => Value.int z :: _) (show xs (i + 1) = nI p from hx1)) ?_
  refine k_aload_n (q := 910) C 5 dL_law_909 rfl rfl ?_
  refine k_iload (q := 912) C 1 dL_law_910 rfl rfl ?_
  refine k_iconst (q := 913) (v := 2) C dL_law_912 (by decide) rfl ?_
  refine k_iadd (q := 914) C dL_law_913 rfl ?_
  refine k_st (st2 := (.int (nI (i + 2)) :: _)) (congrArg (fun z => Value.int z :: _) (show (nI i) + 2 = nI (i + 2) from nI_add i 2)) ?_
  refine k_sld (q := 915) C hX hbl hbA (vp_in_nI (n := i + 2) (by omega) (by omega)) dL_law_914 rfl ?_
  refine k_st (st2 := (.int (xs (i + 2)) :: _)) (congrArg (fun z => Value.int z :: _) (show xs (nI (i + 2)).toNatClampNeg = xs (i + 2) from congrArg xs (nI_clamp (n := i + 2) (by omega)))) ?_
  refine k_st (st2 := (.int (nI w) :: _)) (congrArg (fun z => Value.int z :: _) (show xs (i + 2) = nI w from hx2)) ?_
  refine k_callVIx (n := 2) (q := 918) (pre := ([(ob, .inl (cy 4, 1, .inr (.inl (vp_updL ou 0 (sLy lit h t s g p (nI w)).toInt64))))] ++ ((wXo b cy (a 0) r nx sn ln (svOf sk) (kpOf sk) ik bf ++ wRd r kd hg nu dg ng tk) ++ (wSky a cy n lit h t s g kn lo lf nm ++ wOth sk cy S)))) (post := ([] : va_W)) (w2 := (fun u => (([(ob, .inl (cy 4, 1, .inr (.inl (vp_updL ou 0 (sLy lit h t s g p (nI w)).toInt64))))] ++ ((wXo b cy (a 0) r nx sn ln (svOf sk) (kpOf sk) ik bf ++ wRd r kd hg nu dg ng tk) ++ (wSky a cy n lit h t s g kn lo lf nm ++ wOth sk cy S))) ++ (wM aM cy 0 smM lnM ptM sgM fiM seM (mSt nM oM hM tM sM gM knM loM lfM nmM) svM slM ikM bfM (u.1) (u.2) foM)))) (As := [.int (nI p), .int (nI w)]) (rest := []) C (c_X4_layerOf cy aM thM smM lnM ptM sgM fiM seM nM oM hM tM sM gM knM loM lfM nmM svM slM ikM bfM coM goM foM p (nI w) hn hp (w03 hw) ho) gL_law_X4_layerOf rfl rfl rfl (by decide +kernel) (k_room hR (by decide)) (k_le hR (by omega)) (ci := 4) rfl 0 rfl rfl rfl (Nat.le_of_ble_eq_true rfl) (k_pre) (fun u => k_pre.symm) dL_law_915 rfl ?_
  rintro ⟨co_915, go_915⟩ h_915
  try dsimp only at h_915
  refine k_st (st2 := (.int (sLy lit h t s g p (nI w)) :: _)) (congrArg (fun z => Value.int z :: _) (show sLy (mLit oM) hM tM sM gM p (nI w) = sLy lit h t s g p (nI w) from (by rw [el]; exact (cg_Ly hH hT hS hG hp).symm))) ?_
  refine k_istore (q := 920) (fr2 := [(6, .int (sLy lit h t s g p (nI w))), (5, .int 0), (4, .int (nI i)), (3, .ref ob), (2, .ref (aM 0)), (1, .ref (b 0)), (0, .ref sb)]) C dL_law_918 (by decide) rfl rfl ?_
  refine k_aload_n (q := 921) C 4 dL_law_920 rfl rfl ?_
  refine k_callVI (n := 0) (q := 924) (pre := ([(ob, .inl (cy 4, 1, .inr (.inl (vp_updL ou 0 (sLy lit h t s g p (nI w)).toInt64))))] ++ ((wXo b cy (a 0) r nx sn ln (svOf sk) (kpOf sk) ik bf ++ wRd r kd hg nu dg ng tk) ++ (wSky a cy n lit h t s g kn lo lf nm ++ wOth sk cy S)))) (post := ([] : va_W)) (w2 := (([(ob, .inl (cy 4, 1, .inr (.inl (vp_updL ou 0 (sLy lit h t s g p (nI w)).toInt64))))] ++ ((wXo b cy (a 0) r nx sn ln (svOf sk) (kpOf sk) ik bf ++ wRd r kd hg nu dg ng tk) ++ (wSky a cy n lit h t s g kn lo lf nm ++ wOth sk cy S))) ++ (wM aM cy 0 smM lnM ptM sgM fiM seM (mSt nM oM hM tM sM gM knM loM lfM nmM) svM slM ikM bfM co_915 go_915 foM))) (As := []) (rest := []) C (c_X4_thrown cy aM 0 smM lnM ptM sgM fiM seM nM oM hM tM sM gM knM loM lfM nmM svM slM ikM bfM co_915 go_915 foM) gL_law_X4_thrown rfl rfl rfl (by decide +kernel) (k_room hR (by decide)) (k_le hR (by omega)) (ci := 4) rfl 0 rfl rfl rfl (Nat.le_of_ble_eq_true rfl) (k_pre) (k_pre.symm) dL_law_921 rfl ?_
  refine k_iload (q := 926) C 1 dL_law_924 rfl rfl ?_
  refine k_icmp_eq (tgt := 931) (q := 929) C dL_law_926 (by decide) rfl ?_ ?_
  · intro c_926
    refine k_iload (q := 933) C 1 dL_law_931 rfl rfl ?_
    refine k_if_ne (tgt := 948) (q := 936) C dL_law_933 (by decide) rfl ?_ ?_
    · exact fun c_933 => absurd c_933 (by decide)
    · intro c_933
      refine k_aload_n (q := 937) C 3 dL_law_936 rfl rfl ?_
      refine k_iconst (q := 938) (v := 0) C dL_law_937 (by decide) rfl ?_
      refine k_lald (q := 939) C 0 rfl (vp_in_nI (n := 0) (by decide) (by decide)) dL_law_938 rfl ?_
      refine k_st (st2 := (.long ((sLy lit h t s g p (nI w)).toInt64) :: _)) (congrArg (fun z => Value.long z :: _) (show (vp_updL ou 0 (sLy lit h t s g p (nI w)).toInt64) ((0 : Int32).toNatClampNeg) = (sLy lit h t s g p (nI w)).toInt64 from if_pos rfl)) ?_
      refine k_iload (q := 941) C 0 dL_law_939 rfl rfl ?_
      refine k_i2l (q := 942) C dL_law_941 rfl ?_
      refine k_lcmp (q := 943) C dL_law_942 rfl ?_
      refine k_st (st2 := (.int 0 :: _)) (congrArg (fun z => Value.int z :: _) (show lg_cmp ((sLy lit h t s g p (nI w)).toInt64) ((sLy lit h t s g p (nI w)).toInt64) = 0 from lcmp_0 _)) ?_
      refine k_if_eq (tgt := 948) (q := 946) C dL_law_943 (by decide) rfl ?_ ?_
      · intro c_943
        refine k_goto (q := 1415) C dL_law_948 (by decide) ?_
        refine k_fr (fr2 := [(4, .int (nI i)), (3, .ref ob), (2, .ref (aM 0)), (1, .ref (b 0)), (0, .ref sb)]) ⟨[2, 3, 4, 5, 6], rfl⟩ ?_
        exact E nx sn ln S ik bf kd hg nu dg ng tk ((n, lit, h, t, s, g, kn, lo, lf, nm) : CK) (vp_updL ou 0 (sLy lit h t s g p (nI w)).toInt64) 0 smM lnM ptM sgM fiM seM ((nM, oM, hM, tM, sM, gM, knM, loM, lfM, nmM) : SK) svM slM ikM bfM co_915 go_915 foM (hgR)
      · exact fun c_943 => absurd c_943 (by decide)
  · exact fun c_926 => absurd c_926 (by decide)
set_option maxHeartbeats 4000000 in
set_option maxRecDepth 100000 in
theorem lw_spot (cy : Nat → ClassId) (a : Nat → Nat) (b : Nat → Nat) (r : Nat) (nx : Nat) (sn : Nat) (ln : Nat) (sk : Nat → Nat → Nat) (S : Nat → CK) (ik : Nat → Int32) (bf : Nat → Nat) (kd : Nat) (hg : Nat) (nu : Nat) (dg : Nat) (ng : Bool) (tk : Bool) (n : Nat) (lit : Int32) (h : Nat → Int32) (t : Nat → Int32) (s : Nat → Int32) (g : Nat → Int32) (kn : Nat) (lo : Int32) (lf : Int32) (nm : Nat → Int32) (ob : Nat) (ou : Nat → Int64) (aM : Nat → Nat) (thM : Int32) (smM : Nat) (lnM : Nat) (ptM : Nat) (sgM : Nat) (fiM : Int32) (seM : Int32) (nM : Nat) (oM : Nat → Int32) (hM : Nat → Int32) (tM : Nat → Int32) (sM : Nat → Int32) (gM : Nat → Int32) (knM : Nat) (loM : Int32) (lfM : Int32) (nmM : Nat → Int32) (svM : Nat → Int32) (slM : Nat → Int32) (ikM : Nat → Int32) (bfM : Nat → Nat) (coM : Nat → Int32) (goM : Nat → Int32) (foM : Nat → Int32) (j : Nat) (p : Nat) (X : kX) (hR : xR X = room_1) (C : kC X 9 RL cL_law wsL_law cy) (Z : kZ (xA X) (xS X) (xS X).heap) (hst : (xL X).stackTraces = false) (sb i L ce sl : Nat) (xs : Nat → Int32) (hX : va_X sb L xs (xS X) (xS X).heap) (hbl : sb < (xS X).heap.size) (hbA : ¬ (xA X) sb) (hL : L ≤ 2048) (hi : i + 4 ≤ L) (hce : ce + 1 ≤ 620303 ∧ sl + 6 ≤ 7235195) (E : lwE X cy a b r sk ob aM sb i ce sl) (hgR : gR nx sn ln ik bf ((n, lit, h, t, s, g, kn, lo, lf, nm) : CK) S smM lnM ((nM, oM, hM, tM, sM, gM, knM, loM, lfM, nmM) : SK) svM slM ikM bfM) (hj : j < 2) (hp : p < nM) (hx1 : xs (i + 1) = nI j) (hx2 : xs (i + 2) = nI p) (hz : 0 ≤ xs (i + 3) ∧ xs (i + 3) ≤ 4) : kG X 9 ce sl (([(ob, .inl (cy 4, 1, .inr (.inl ou)))] ++ ((wXo b cy (a 0) r nx sn ln (svOf sk) (kpOf sk) ik bf ++ wRd r kd hg nu dg ng tk) ++ (wSky a cy n lit h t s g kn lo lf nm ++ wOth sk cy S))) ++ (wM aM cy thM smM lnM ptM sgM fiM seM (mSt nM oM hM tM sM gM knM loM lfM nmM) svM slM ikM bfM coM goM foM)) 951 [(4, .int (nI i)), (3, .ref ob), (2, .ref (aM 0)), (1, .ref (b 0)), (0, .ref sb)] [] := by
  obtain ⟨hr, hsn, hri, hke, hln, hl60, hbf, hb126⟩ := id hgR
  have hnx := hri.2.1
  have hsm := hri.1
  have hn := hr.1.1
  have en : n = nM := hr.2.1
  have el : lit = mLit oM := hr.2.2.1
  have hH := hr.2.2.2.1
  have hT := hr.2.2.2.2.1
  have hS := hr.2.2.2.2.2.1
  have hG := hr.2.2.2.2.2.2.1
  have ekn : kn = knM := hr.2.2.2.2.2.2.2.1
  have ho := hr.1.2.1
  have hs0 := hr.1.2.2.1
  have hs1 := hr.1.2.2.2.1
  have hk8 := hr.1.2.2.2.2.1
  have hn6 : n ≤ 6 := by rw [en]; exact hn
  have hkn8 : kn ≤ 8 := by rw [ekn]; exact hk8
  have hsn6 : sn ≤ 6 := by omega
  refine k_aload_n (q := 952) C 3 dL_law_951 rfl rfl ?_
  refine k_aload_n (q := 953) C 4 dL_law_952 rfl rfl ?_
  refine k_iload (q := 955) C 0 dL_law_953 rfl rfl ?_
  refine k_iconst (q := 956) (v := 1) C dL_law_955 (by decide) rfl ?_
  refine k_iadd (q := 957) C dL_law_956 rfl ?_
  refine k_st (st2 := (.int (nI (i + 1)) :: _)) (congrArg (fun z => Value.int z :: _) (show (nI i) + 1 = nI (i + 1) from nI_add i 1)) ?_
  refine k_sld (q := 958) C hX hbl hbA (vp_in_nI (n := i + 1) (by omega) (by omega)) dL_law_957 rfl ?_
  refine k_st (st2 := (.int (xs (i + 1)) :: _)) (congrArg (fun z => Value.int z :: _) (show xs (nI (i + 1)).toNatClampNeg = xs (i + 1) from congrArg xs (nI_clamp (n := i + 1) (by omega)))) ?_
  refine k_st (st2 := (.int (nI j) :: _)) (congrArg (fun z => Value.int z :: _) (show xs (i + 1) = nI j from hx1)) ?_
  refine k_aload_n (q := 959) C 4 dL_law_958 rfl rfl ?_
  refine k_iload (q := 961) C 0 dL_law_959 rfl rfl ?_
  refine k_iconst (q := 962) (v := 2) C dL_law_961 (by decide) rfl ?_
  refine k_iadd (q := 963) C dL_law_962 rfl ?_
  refine k_st (st2 := (.int (nI (i + 2)) :: _)) (congrArg (fun z => Value.int z :: _) (show (nI i) + 2 = nI (i + 2) from nI_add i 2)) ?_
  refine k_sld (q := 964) C hX hbl hbA (vp_in_nI (n := i + 2) (by omega) (by omega)) dL_law_963 rfl ?_
  refine k_st (st2 := (.int (xs (i + 2)) :: _)) (congrArg (fun z => Value.int z :: _) (show xs (nI (i + 2)).toNatClampNeg = xs (i + 2) from congrArg xs (nI_clamp (n := i + 2) (by omega)))) ?_
  refine k_st (st2 := (.int (nI p) :: _)) (congrArg (fun z => Value.int z :: _) (show xs (i + 2) = nI p from hx2)) ?_
  refine k_aload_n (q := 965) C 4 dL_law_964 rfl rfl ?_
  refine k_iload (q := 967) C 0 dL_law_965 rfl rfl ?_
  refine k_iconst (q := 968) (v := 3) C dL_law_967 (by decide) rfl ?_
  refine k_iadd (q := 969) C dL_law_968 rfl ?_
  refine k_st (st2 := (.int (nI (i + 3)) :: _)) (congrArg (fun z => Value.int z :: _) (show (nI i) + 3 = nI (i + 3) from nI_add i 3)) ?_
  refine k_sld (q := 970) C hX hbl hbA (vp_in_nI (n := i + 3) (by omega) (by omega)) dL_law_969 rfl ?_
  refine k_st (st2 := (.int (xs (i + 3)) :: _)) (congrArg (fun z => Value.int z :: _) (show xs (nI (i + 3)).toNatClampNeg = xs (i + 3) from congrArg xs (nI_clamp (n := i + 3) (by omega)))) ?_
  refine k_aload_n (q := 971) C 1 dL_law_970 rfl rfl ?_
  refine k_callSL (n := 5) (q := 974) (pre := ([] : va_W)) (post := (wM aM cy thM smM lnM ptM sgM fiM seM (mSt nM oM hM tM sM gM knM loM lfM nmM) svM slM ikM bfM coM goM foM)) (w2 := (([(ob, .inl (cy 4, 1, .inr (.inl (vp_updL ou 0 (if (lit >>> (nI j &&& 31)) &&& 1 = 1 then sSpot h t s g j p (xs (i + 3)) else -99999).toInt64))))] ++ ((wXo b cy (a 0) r nx sn ln (svOf sk) (kpOf sk) ik bf ++ wRd r kd hg nu dg ng tk) ++ (wSky a cy n lit h t s g kn lo lf nm ++ wOth sk cy S))) ++ (wM aM cy thM smM lnM ptM sgM fiM seM (mSt nM oM hM tM sM gM knM loM lfM nmM) svM slM ikM bfM coM goM foM))) (As := [.ref (b 0), .int (nI j), .int (nI p), .int (xs (i + 3)), .ref ob]) (rest := []) C Z hst (c_L_spot cy a b r nx sn ln sk S ik bf kd hg nu dg ng tk n lit h t s g kn lo lf nm ob ou j p (xs (i + 3)) hn6 hj (by omega) hz) gL_law_L_spot rfl rfl rfl (by decide +kernel) (k_room hR (by decide)) (k_le hR (by omega)) rfl rfl (Nat.le_of_ble_eq_true rfl) (rfl) (rfl) dL_law_971 rfl ?_
  refine k_istore (q := 976) (fr2 := [(5, .int 0), (4, .int (nI i)), (3, .ref ob), (2, .ref (aM 0)), (1, .ref (b 0)), (0, .ref sb)]) C dL_law_974 (by decide) rfl rfl ?_
  refine k_aload_n (q := 977) C 3 dL_law_976 rfl rfl ?_
  refine k_aload_n (q := 978) C 5 dL_law_977 rfl rfl ?_
  refine k_iload (q := 980) C 1 dL_law_978 rfl rfl ?_
  refine k_iconst (q := 981) (v := 1) C dL_law_980 (by decide) rfl ?_
  refine k_iadd (q := 982) C dL_law_981 rfl ?_
  refine k_st (st2 := (.int (nI (i + 1)) :: _)) (congrArg (fun z => Value.int z :: _) (show (nI i) + 1 = nI (i + 1) from nI_add i 1)) ?_
  refine k_sld (q := 983) C hX hbl hbA (vp_in_nI (n := i + 1) (by omega) (by omega)) dL_law_982 rfl ?_
  refine k_st (st2 := (.int (xs (i + 1)) :: _)) (congrArg (fun z => Value.int z :: _) (show xs (nI (i + 1)).toNatClampNeg = xs (i + 1) from congrArg xs (nI_clamp (n := i + 1) (by omega)))) ?_
  refine k_st (st2 := (.int (nI j) :: _)) (congrArg (fun z => Value.int z :: _) (show xs (i + 1) = nI j from hx1)) ?_
  refine k_aload_n (q := 984) C 5 dL_law_983 rfl rfl ?_
  refine k_iload (q := 986) C 1 dL_law_984 rfl rfl ?_
  refine k_iconst (q := 987) (v := 2) C dL_law_986 (by decide) rfl ?_
  refine k_iadd (q := 988) C dL_law_987 rfl ?_
  refine k_st (st2 := (.int (nI (i + 2)) :: _)) (congrArg (fun z => Value.int z :: _) (show (nI i) + 2 = nI (i + 2) from nI_add i 2)) ?_
  refine k_sld (q := 989) C hX hbl hbA (vp_in_nI (n := i + 2) (by omega) (by omega)) dL_law_988 rfl ?_
  refine k_st (st2 := (.int (xs (i + 2)) :: _)) (congrArg (fun z => Value.int z :: _) (show xs (nI (i + 2)).toNatClampNeg = xs (i + 2) from congrArg xs (nI_clamp (n := i + 2) (by omega)))) ?_
  refine k_st (st2 := (.int (nI p) :: _)) (congrArg (fun z => Value.int z :: _) (show xs (i + 2) = nI p from hx2)) ?_
  refine k_aload_n (q := 990) C 5 dL_law_989 rfl rfl ?_
  refine k_iload (q := 992) C 1 dL_law_990 rfl rfl ?_
  refine k_iconst (q := 993) (v := 3) C dL_law_992 (by decide) rfl ?_
  refine k_iadd (q := 994) C dL_law_993 rfl ?_
  refine k_st (st2 := (.int (nI (i + 3)) :: _)) (congrArg (fun z => Value.int z :: _) (show (nI i) + 3 = nI (i + 3) from nI_add i 3)) ?_
  refine k_sld (q := 995) C hX hbl hbA (vp_in_nI (n := i + 3) (by omega) (by omega)) dL_law_994 rfl ?_
  refine k_st (st2 := (.int (xs (i + 3)) :: _)) (congrArg (fun z => Value.int z :: _) (show xs (nI (i + 3)).toNatClampNeg = xs (i + 3) from congrArg xs (nI_clamp (n := i + 3) (by omega)))) ?_
  refine k_callVIx (n := 3) (q := 998) (pre := ([(ob, .inl (cy 4, 1, .inr (.inl (vp_updL ou 0 (if (lit >>> (nI j &&& 31)) &&& 1 = 1 then sSpot h t s g j p (xs (i + 3)) else -99999).toInt64))))] ++ ((wXo b cy (a 0) r nx sn ln (svOf sk) (kpOf sk) ik bf ++ wRd r kd hg nu dg ng tk) ++ (wSky a cy n lit h t s g kn lo lf nm ++ wOth sk cy S)))) (post := ([] : va_W)) (w2 := (fun u => (([(ob, .inl (cy 4, 1, .inr (.inl (vp_updL ou 0 (if (lit >>> (nI j &&& 31)) &&& 1 = 1 then sSpot h t s g j p (xs (i + 3)) else -99999).toInt64))))] ++ ((wXo b cy (a 0) r nx sn ln (svOf sk) (kpOf sk) ik bf ++ wRd r kd hg nu dg ng tk) ++ (wSky a cy n lit h t s g kn lo lf nm ++ wOth sk cy S))) ++ (wM aM cy 0 smM lnM ptM sgM fiM seM (mSt nM oM hM tM sM gM knM loM lfM nmM) svM slM ikM bfM (u.1) (u.2) foM)))) (As := [.int (nI j), .int (nI p), .int (xs (i + 3))]) (rest := []) C (c_X4_spot cy aM thM smM lnM ptM sgM fiM seM nM oM hM tM sM gM knM loM lfM nmM svM slM ikM bfM coM goM foM j p (xs (i + 3)) hn hj hp hz ho) gL_law_X4_spot rfl rfl rfl (by decide +kernel) (k_room hR (by decide)) (k_le hR (by omega)) (ci := 4) rfl 0 rfl rfl rfl (Nat.le_of_ble_eq_true rfl) (k_pre) (fun u => k_pre.symm) dL_law_995 rfl ?_
  rintro ⟨co_995, go_995⟩ h_995
  try dsimp only at h_995
  refine k_st (st2 := (.int (if (lit >>> (nI j &&& 31)) &&& 1 = 1 then sSpot h t s g j p (xs (i + 3)) else -99999) :: _)) (congrArg (fun z => Value.int z :: _) (show mSp oM hM tM sM gM j p (xs (i + 3)) = if (lit >>> (nI j &&& 31)) &&& 1 = 1 then sSpot h t s g j p (xs (i + 3)) else -99999 from (by rw [el, cg_Spot hH hT hS hG hp hj]; exact (mSp_x ho hj).symm))) ?_
  refine k_istore (q := 1000) (fr2 := [(6, .int (if (lit >>> (nI j &&& 31)) &&& 1 = 1 then sSpot h t s g j p (xs (i + 3)) else -99999)), (5, .int 0), (4, .int (nI i)), (3, .ref ob), (2, .ref (aM 0)), (1, .ref (b 0)), (0, .ref sb)]) C dL_law_998 (by decide) rfl rfl ?_
  refine k_aload_n (q := 1001) C 4 dL_law_1000 rfl rfl ?_
  refine k_callVI (n := 0) (q := 1004) (pre := ([(ob, .inl (cy 4, 1, .inr (.inl (vp_updL ou 0 (if (lit >>> (nI j &&& 31)) &&& 1 = 1 then sSpot h t s g j p (xs (i + 3)) else -99999).toInt64))))] ++ ((wXo b cy (a 0) r nx sn ln (svOf sk) (kpOf sk) ik bf ++ wRd r kd hg nu dg ng tk) ++ (wSky a cy n lit h t s g kn lo lf nm ++ wOth sk cy S)))) (post := ([] : va_W)) (w2 := (([(ob, .inl (cy 4, 1, .inr (.inl (vp_updL ou 0 (if (lit >>> (nI j &&& 31)) &&& 1 = 1 then sSpot h t s g j p (xs (i + 3)) else -99999).toInt64))))] ++ ((wXo b cy (a 0) r nx sn ln (svOf sk) (kpOf sk) ik bf ++ wRd r kd hg nu dg ng tk) ++ (wSky a cy n lit h t s g kn lo lf nm ++ wOth sk cy S))) ++ (wM aM cy 0 smM lnM ptM sgM fiM seM (mSt nM oM hM tM sM gM knM loM lfM nmM) svM slM ikM bfM co_995 go_995 foM))) (As := []) (rest := []) C (c_X4_thrown cy aM 0 smM lnM ptM sgM fiM seM nM oM hM tM sM gM knM loM lfM nmM svM slM ikM bfM co_995 go_995 foM) gL_law_X4_thrown rfl rfl rfl (by decide +kernel) (k_room hR (by decide)) (k_le hR (by omega)) (ci := 4) rfl 0 rfl rfl rfl (Nat.le_of_ble_eq_true rfl) (k_pre) (k_pre.symm) dL_law_1001 rfl ?_
  refine k_iload (q := 1006) C 1 dL_law_1004 rfl rfl ?_
  refine k_icmp_eq (tgt := 1011) (q := 1009) C dL_law_1006 (by decide) rfl ?_ ?_
  · intro c_1006
    refine k_iload (q := 1013) C 1 dL_law_1011 rfl rfl ?_
    refine k_if_ne (tgt := 1028) (q := 1016) C dL_law_1013 (by decide) rfl ?_ ?_
    · exact fun c_1013 => absurd c_1013 (by decide)
    · intro c_1013
      refine k_aload_n (q := 1017) C 3 dL_law_1016 rfl rfl ?_
      refine k_iconst (q := 1018) (v := 0) C dL_law_1017 (by decide) rfl ?_
      refine k_lald (q := 1019) C 0 rfl (vp_in_nI (n := 0) (by decide) (by decide)) dL_law_1018 rfl ?_
      refine k_st (st2 := (.long ((if (lit >>> (nI j &&& 31)) &&& 1 = 1 then sSpot h t s g j p (xs (i + 3)) else -99999).toInt64) :: _)) (congrArg (fun z => Value.long z :: _) (show (vp_updL ou 0 (if (lit >>> (nI j &&& 31)) &&& 1 = 1 then sSpot h t s g j p (xs (i + 3)) else -99999).toInt64) ((0 : Int32).toNatClampNeg) = (if (lit >>> (nI j &&& 31)) &&& 1 = 1 then sSpot h t s g j p (xs (i + 3)) else -99999).toInt64 from if_pos rfl)) ?_
      refine k_iload (q := 1021) C 0 dL_law_1019 rfl rfl ?_
      refine k_i2l (q := 1022) C dL_law_1021 rfl ?_
      refine k_lcmp (q := 1023) C dL_law_1022 rfl ?_
      refine k_st (st2 := (.int 0 :: _)) (congrArg (fun z => Value.int z :: _) (show lg_cmp ((if (lit >>> (nI j &&& 31)) &&& 1 = 1 then sSpot h t s g j p (xs (i + 3)) else -99999).toInt64) ((if (lit >>> (nI j &&& 31)) &&& 1 = 1 then sSpot h t s g j p (xs (i + 3)) else -99999).toInt64) = 0 from lcmp_0 _)) ?_
      refine k_if_eq (tgt := 1028) (q := 1026) C dL_law_1023 (by decide) rfl ?_ ?_
      · intro c_1023
        refine k_goto (q := 1415) C dL_law_1028 (by decide) ?_
        refine k_fr (fr2 := [(4, .int (nI i)), (3, .ref ob), (2, .ref (aM 0)), (1, .ref (b 0)), (0, .ref sb)]) ⟨[2, 3, 4, 5, 6], rfl⟩ ?_
        exact E nx sn ln S ik bf kd hg nu dg ng tk ((n, lit, h, t, s, g, kn, lo, lf, nm) : CK) (vp_updL ou 0 (if (lit >>> (nI j &&& 31)) &&& 1 = 1 then sSpot h t s g j p (xs (i + 3)) else -99999).toInt64) 0 smM lnM ptM sgM fiM seM ((nM, oM, hM, tM, sM, gM, knM, loM, lfM, nmM) : SK) svM slM ikM bfM co_995 go_995 foM (hgR)
      · exact fun c_1023 => absurd c_1023 (by decide)
  · exact fun c_1006 => absurd c_1006 (by decide)
set_option maxHeartbeats 4000000 in
set_option maxRecDepth 100000 in
theorem lw_reading (cy : Nat → ClassId) (a : Nat → Nat) (b : Nat → Nat) (r : Nat) (nx : Nat) (sn : Nat) (ln : Nat) (sk : Nat → Nat → Nat) (S : Nat → CK) (ik : Nat → Int32) (bf : Nat → Nat) (kd : Nat) (hg : Nat) (nu : Nat) (dg : Nat) (ng : Bool) (tk : Bool) (n : Nat) (lit : Int32) (h : Nat → Int32) (t : Nat → Int32) (s : Nat → Int32) (g : Nat → Int32) (kn : Nat) (lo : Int32) (lf : Int32) (nm : Nat → Int32) (ob : Nat) (ou : Nat → Int64) (aM : Nat → Nat) (thM : Int32) (smM : Nat) (lnM : Nat) (ptM : Nat) (sgM : Nat) (fiM : Int32) (seM : Int32) (nM : Nat) (oM : Nat → Int32) (hM : Nat → Int32) (tM : Nat → Int32) (sM : Nat → Int32) (gM : Nat → Int32) (knM : Nat) (loM : Int32) (lfM : Int32) (nmM : Nat → Int32) (svM : Nat → Int32) (slM : Nat → Int32) (ikM : Nat → Int32) (bfM : Nat → Nat) (coM : Nat → Int32) (goM : Nat → Int32) (foM : Nat → Int32) (w : Nat) (X : kX) (hR : xR X = room_1) (C : kC X 9 RL cL_law wsL_law cy) (Z : kZ (xA X) (xS X) (xS X).heap) (hst : (xL X).stackTraces = false) (sb i L ce sl : Nat) (xs : Nat → Int32) (hX : va_X sb L xs (xS X) (xS X).heap) (hbl : sb < (xS X).heap.size) (hbA : ¬ (xA X) sb) (hL : L ≤ 2048) (hi : i + 4 ≤ L) (hce : ce + 1 ≤ 620303 ∧ sl + 6 ≤ 7235195) (E : lwE X cy a b r sk ob aM sb i ce sl) (hgR : gR nx sn ln ik bf ((n, lit, h, t, s, g, kn, lo, lf, nm) : CK) S smM lnM ((nM, oM, hM, tM, sM, gM, knM, loM, lfM, nmM) : SK) svM slM ikM bfM) (hw : w ≤ 3) (hx1 : xs (i + 1) = nI w) : kG X 9 ce sl (([(ob, .inl (cy 4, 1, .inr (.inl ou)))] ++ ((wXo b cy (a 0) r nx sn ln (svOf sk) (kpOf sk) ik bf ++ wRd r kd hg nu dg ng tk) ++ (wSky a cy n lit h t s g kn lo lf nm ++ wOth sk cy S))) ++ (wM aM cy thM smM lnM ptM sgM fiM seM (mSt nM oM hM tM sM gM knM loM lfM nmM) svM slM ikM bfM coM goM foM)) 1031 [(4, .int (nI i)), (3, .ref ob), (2, .ref (aM 0)), (1, .ref (b 0)), (0, .ref sb)] [] := by
  obtain ⟨hr, hsn, hri, hke, hln, hl60, hbf, hb126⟩ := id hgR
  have hnx := hri.2.1
  have hsm := hri.1
  have hn := hr.1.1
  have en : n = nM := hr.2.1
  have el : lit = mLit oM := hr.2.2.1
  have hH := hr.2.2.2.1
  have hT := hr.2.2.2.2.1
  have hS := hr.2.2.2.2.2.1
  have hG := hr.2.2.2.2.2.2.1
  have ekn : kn = knM := hr.2.2.2.2.2.2.2.1
  have ho := hr.1.2.1
  have hs0 := hr.1.2.2.1
  have hs1 := hr.1.2.2.2.1
  have hk8 := hr.1.2.2.2.2.1
  have hn6 : n ≤ 6 := by rw [en]; exact hn
  have hkn8 : kn ≤ 8 := by rw [ekn]; exact hk8
  have hsn6 : sn ≤ 6 := by omega
  refine k_aload_n (q := 1032) C 3 dL_law_1031 rfl rfl ?_
  refine k_aload_n (q := 1033) C 4 dL_law_1032 rfl rfl ?_
  refine k_iload (q := 1035) C 0 dL_law_1033 rfl rfl ?_
  refine k_iconst (q := 1036) (v := 1) C dL_law_1035 (by decide) rfl ?_
  refine k_iadd (q := 1037) C dL_law_1036 rfl ?_
  refine k_st (st2 := (.int (nI (i + 1)) :: _)) (congrArg (fun z => Value.int z :: _) (show (nI i) + 1 = nI (i + 1) from nI_add i 1)) ?_
  refine k_sld (q := 1038) C hX hbl hbA (vp_in_nI (n := i + 1) (by omega) (by omega)) dL_law_1037 rfl ?_
  refine k_st (st2 := (.int (xs (i + 1)) :: _)) (congrArg (fun z => Value.int z :: _) (show xs (nI (i + 1)).toNatClampNeg = xs (i + 1) from congrArg xs (nI_clamp (n := i + 1) (by omega)))) ?_
  refine k_st (st2 := (.int (nI w) :: _)) (congrArg (fun z => Value.int z :: _) (show xs (i + 1) = nI w from hx1)) ?_
  refine k_aload_n (q := 1039) C 1 dL_law_1038 rfl rfl ?_
  refine k_callSL (n := 3) (q := 1042) (pre := ([] : va_W)) (post := (wM aM cy thM smM lnM ptM sgM fiM seM (mSt nM oM hM tM sM gM knM loM lfM nmM) svM slM ikM bfM coM goM foM)) (w2 := (([(ob, .inl (cy 4, 1, .inr (.inl (vp_updL ou 0 (sRn lit h t s g n (nI w)).toInt64))))] ++ ((wXo b cy (a 0) r nx sn ln (svOf sk) (kpOf sk) ik bf ++ wRd r kd hg nu dg ng tk) ++ (wSky a cy n lit h t s g kn lo lf nm ++ wOth sk cy S))) ++ (wM aM cy thM smM lnM ptM sgM fiM seM (mSt nM oM hM tM sM gM knM loM lfM nmM) svM slM ikM bfM coM goM foM))) (As := [.ref (b 0), .int (nI w), .ref ob]) (rest := []) C Z hst (c_L_reading cy a b r nx sn ln sk S ik bf kd hg nu dg ng tk n lit h t s g kn lo lf nm ob ou (nI w) hn6 (w03 hw)) gL_law_L_reading rfl rfl rfl (by decide +kernel) (k_room hR (by decide)) (k_le hR (by omega)) rfl rfl (Nat.le_of_ble_eq_true rfl) (rfl) (rfl) dL_law_1039 rfl ?_
  refine k_istore (q := 1044) (fr2 := [(5, .int 0), (4, .int (nI i)), (3, .ref ob), (2, .ref (aM 0)), (1, .ref (b 0)), (0, .ref sb)]) C dL_law_1042 (by decide) rfl rfl ?_
  refine k_aload_n (q := 1045) C 3 dL_law_1044 rfl rfl ?_
  refine k_aload_n (q := 1046) C 5 dL_law_1045 rfl rfl ?_
  refine k_iload (q := 1048) C 1 dL_law_1046 rfl rfl ?_
  refine k_iconst (q := 1049) (v := 1) C dL_law_1048 (by decide) rfl ?_
  refine k_iadd (q := 1050) C dL_law_1049 rfl ?_
  refine k_st (st2 := (.int (nI (i + 1)) :: _)) (congrArg (fun z => Value.int z :: _) (show (nI i) + 1 = nI (i + 1) from nI_add i 1)) ?_
  refine k_sld (q := 1051) C hX hbl hbA (vp_in_nI (n := i + 1) (by omega) (by omega)) dL_law_1050 rfl ?_
  refine k_st (st2 := (.int (xs (i + 1)) :: _)) (congrArg (fun z => Value.int z :: _) (show xs (nI (i + 1)).toNatClampNeg = xs (i + 1) from congrArg xs (nI_clamp (n := i + 1) (by omega)))) ?_
  refine k_st (st2 := (.int (nI w) :: _)) (congrArg (fun z => Value.int z :: _) (show xs (i + 1) = nI w from hx1)) ?_
  refine k_callVIx (n := 1) (q := 1054) (pre := ([(ob, .inl (cy 4, 1, .inr (.inl (vp_updL ou 0 (sRn lit h t s g n (nI w)).toInt64))))] ++ ((wXo b cy (a 0) r nx sn ln (svOf sk) (kpOf sk) ik bf ++ wRd r kd hg nu dg ng tk) ++ (wSky a cy n lit h t s g kn lo lf nm ++ wOth sk cy S)))) (post := ([] : va_W)) (w2 := (fun u => (([(ob, .inl (cy 4, 1, .inr (.inl (vp_updL ou 0 (sRn lit h t s g n (nI w)).toInt64))))] ++ ((wXo b cy (a 0) r nx sn ln (svOf sk) (kpOf sk) ik bf ++ wRd r kd hg nu dg ng tk) ++ (wSky a cy n lit h t s g kn lo lf nm ++ wOth sk cy S))) ++ (wM aM cy 0 smM lnM ptM sgM fiM seM (mSt nM oM hM tM sM gM knM loM lfM nmM) svM slM ikM bfM (u.1) (u.2.1) (u.2.2))))) (As := [.int (nI w)]) (rest := []) C (c_X4_reading cy aM thM smM lnM ptM sgM fiM seM nM oM hM tM sM gM knM loM lfM nmM svM slM ikM bfM coM goM foM w hw hn ho hs0 hs1) gL_law_X4_reading rfl rfl rfl (by decide +kernel) (k_room hR (by decide)) (k_le hR (by omega)) (ci := 4) rfl 0 rfl rfl rfl (Nat.le_of_ble_eq_true rfl) (k_pre) (fun u => k_pre.symm) dL_law_1051 rfl ?_
  rintro ⟨co_1051, go_1051, fo_1051⟩ h_1051
  try dsimp only at h_1051
  refine k_st (st2 := (.int (sRn lit h t s g n (nI w)) :: _)) (congrArg (fun z => Value.int z :: _) (show mRn hM nM (sMeet gM (sM 0) (sM 1)) (mC (sClose (mLit oM) hM tM sM gM) (mD hM sM gM) nM) w = sRn lit h t s g n (nI w) from (by rw [el, en, cg_Rn hn hH hT hS hG]; exact (sRn_m hw hn hs0 hs1 hr.1.2.2.2.2.2.2.2.1 hr.1.2.2.2.2.2.2.2.2.2.2).symm))) ?_
  refine k_istore (q := 1056) (fr2 := [(6, .int (sRn lit h t s g n (nI w))), (5, .int 0), (4, .int (nI i)), (3, .ref ob), (2, .ref (aM 0)), (1, .ref (b 0)), (0, .ref sb)]) C dL_law_1054 (by decide) rfl rfl ?_
  refine k_aload_n (q := 1057) C 4 dL_law_1056 rfl rfl ?_
  refine k_callVI (n := 0) (q := 1060) (pre := ([(ob, .inl (cy 4, 1, .inr (.inl (vp_updL ou 0 (sRn lit h t s g n (nI w)).toInt64))))] ++ ((wXo b cy (a 0) r nx sn ln (svOf sk) (kpOf sk) ik bf ++ wRd r kd hg nu dg ng tk) ++ (wSky a cy n lit h t s g kn lo lf nm ++ wOth sk cy S)))) (post := ([] : va_W)) (w2 := (([(ob, .inl (cy 4, 1, .inr (.inl (vp_updL ou 0 (sRn lit h t s g n (nI w)).toInt64))))] ++ ((wXo b cy (a 0) r nx sn ln (svOf sk) (kpOf sk) ik bf ++ wRd r kd hg nu dg ng tk) ++ (wSky a cy n lit h t s g kn lo lf nm ++ wOth sk cy S))) ++ (wM aM cy 0 smM lnM ptM sgM fiM seM (mSt nM oM hM tM sM gM knM loM lfM nmM) svM slM ikM bfM co_1051 go_1051 fo_1051))) (As := []) (rest := []) C (c_X4_thrown cy aM 0 smM lnM ptM sgM fiM seM nM oM hM tM sM gM knM loM lfM nmM svM slM ikM bfM co_1051 go_1051 fo_1051) gL_law_X4_thrown rfl rfl rfl (by decide +kernel) (k_room hR (by decide)) (k_le hR (by omega)) (ci := 4) rfl 0 rfl rfl rfl (Nat.le_of_ble_eq_true rfl) (k_pre) (k_pre.symm) dL_law_1057 rfl ?_
  refine k_iload (q := 1062) C 1 dL_law_1060 rfl rfl ?_
  refine k_icmp_eq (tgt := 1067) (q := 1065) C dL_law_1062 (by decide) rfl ?_ ?_
  · intro c_1062
    refine k_iload (q := 1069) C 1 dL_law_1067 rfl rfl ?_
    refine k_if_ne (tgt := 1084) (q := 1072) C dL_law_1069 (by decide) rfl ?_ ?_
    · exact fun c_1069 => absurd c_1069 (by decide)
    · intro c_1069
      refine k_aload_n (q := 1073) C 3 dL_law_1072 rfl rfl ?_
      refine k_iconst (q := 1074) (v := 0) C dL_law_1073 (by decide) rfl ?_
      refine k_lald (q := 1075) C 0 rfl (vp_in_nI (n := 0) (by decide) (by decide)) dL_law_1074 rfl ?_
      refine k_st (st2 := (.long ((sRn lit h t s g n (nI w)).toInt64) :: _)) (congrArg (fun z => Value.long z :: _) (show (vp_updL ou 0 (sRn lit h t s g n (nI w)).toInt64) ((0 : Int32).toNatClampNeg) = (sRn lit h t s g n (nI w)).toInt64 from if_pos rfl)) ?_
      refine k_iload (q := 1077) C 0 dL_law_1075 rfl rfl ?_
      refine k_i2l (q := 1078) C dL_law_1077 rfl ?_
      refine k_lcmp (q := 1079) C dL_law_1078 rfl ?_
      refine k_st (st2 := (.int 0 :: _)) (congrArg (fun z => Value.int z :: _) (show lg_cmp ((sRn lit h t s g n (nI w)).toInt64) ((sRn lit h t s g n (nI w)).toInt64) = 0 from lcmp_0 _)) ?_
      refine k_if_eq (tgt := 1084) (q := 1082) C dL_law_1079 (by decide) rfl ?_ ?_
      · intro c_1079
        refine k_goto (q := 1415) C dL_law_1084 (by decide) ?_
        refine k_fr (fr2 := [(4, .int (nI i)), (3, .ref ob), (2, .ref (aM 0)), (1, .ref (b 0)), (0, .ref sb)]) ⟨[2, 3, 4, 5, 6], rfl⟩ ?_
        exact E nx sn ln S ik bf kd hg nu dg ng tk ((n, lit, h, t, s, g, kn, lo, lf, nm) : CK) (vp_updL ou 0 (sRn lit h t s g n (nI w)).toInt64) 0 smM lnM ptM sgM fiM seM ((nM, oM, hM, tM, sM, gM, knM, loM, lfM, nmM) : SK) svM slM ikM bfM co_1051 go_1051 fo_1051 (hgR)
      · exact fun c_1079 => absurd c_1079 (by decide)
  · exact fun c_1062 => absurd c_1062 (by decide)
set_option maxHeartbeats 4000000 in
set_option maxRecDepth 100000 in
theorem lw_night (cy : Nat → ClassId) (a : Nat → Nat) (b : Nat → Nat) (r : Nat) (nx : Nat) (sn : Nat) (ln : Nat) (sk : Nat → Nat → Nat) (S : Nat → CK) (ik : Nat → Int32) (bf : Nat → Nat) (kd : Nat) (hg : Nat) (nu : Nat) (dg : Nat) (ng : Bool) (tk : Bool) (n : Nat) (lit : Int32) (h : Nat → Int32) (t : Nat → Int32) (s : Nat → Int32) (g : Nat → Int32) (kn : Nat) (lo : Int32) (lf : Int32) (nm : Nat → Int32) (ob : Nat) (ou : Nat → Int64) (aM : Nat → Nat) (thM : Int32) (smM : Nat) (lnM : Nat) (ptM : Nat) (sgM : Nat) (fiM : Int32) (seM : Int32) (nM : Nat) (oM : Nat → Int32) (hM : Nat → Int32) (tM : Nat → Int32) (sM : Nat → Int32) (gM : Nat → Int32) (knM : Nat) (loM : Int32) (lfM : Int32) (nmM : Nat → Int32) (svM : Nat → Int32) (slM : Nat → Int32) (ikM : Nat → Int32) (bfM : Nat → Nat) (coM : Nat → Int32) (goM : Nat → Int32) (foM : Nat → Int32) (j : Nat) (w : Nat) (X : kX) (hR : xR X = room_1) (C : kC X 9 RL cL_law wsL_law cy) (Z : kZ (xA X) (xS X) (xS X).heap) (hst : (xL X).stackTraces = false) (sb i L ce sl : Nat) (xs : Nat → Int32) (hX : va_X sb L xs (xS X) (xS X).heap) (hbl : sb < (xS X).heap.size) (hbA : ¬ (xA X) sb) (hL : L ≤ 2048) (hi : i + 4 ≤ L) (hce : ce + 1 ≤ 620303 ∧ sl + 6 ≤ 7235195) (E : lwE X cy a b r sk ob aM sb i ce sl) (hgR : gR nx sn ln ik bf ((n, lit, h, t, s, g, kn, lo, lf, nm) : CK) S smM lnM ((nM, oM, hM, tM, sM, gM, knM, loM, lfM, nmM) : SK) svM slM ikM bfM) (hj : j < 2 ^ 31) (hw : w ≤ 3) (hx1 : xs (i + 1) = nI j) (hx2 : xs (i + 2) = nI w) : kG X 9 ce sl (([(ob, .inl (cy 4, 1, .inr (.inl ou)))] ++ ((wXo b cy (a 0) r nx sn ln (svOf sk) (kpOf sk) ik bf ++ wRd r kd hg nu dg ng tk) ++ (wSky a cy n lit h t s g kn lo lf nm ++ wOth sk cy S))) ++ (wM aM cy thM smM lnM ptM sgM fiM seM (mSt nM oM hM tM sM gM knM loM lfM nmM) svM slM ikM bfM coM goM foM)) 1087 [(4, .int (nI i)), (3, .ref ob), (2, .ref (aM 0)), (1, .ref (b 0)), (0, .ref sb)] [] := by
  obtain ⟨hr, hsn, hri, hke, hln, hl60, hbf, hb126⟩ := id hgR
  have hnx := hri.2.1
  have hsm := hri.1
  have hn := hr.1.1
  have en : n = nM := hr.2.1
  have el : lit = mLit oM := hr.2.2.1
  have hH := hr.2.2.2.1
  have hT := hr.2.2.2.2.1
  have hS := hr.2.2.2.2.2.1
  have hG := hr.2.2.2.2.2.2.1
  have ekn : kn = knM := hr.2.2.2.2.2.2.2.1
  have ho := hr.1.2.1
  have hs0 := hr.1.2.2.1
  have hs1 := hr.1.2.2.2.1
  have hk8 := hr.1.2.2.2.2.1
  have hn6 : n ≤ 6 := by rw [en]; exact hn
  have hkn8 : kn ≤ 8 := by rw [ekn]; exact hk8
  have hsn6 : sn ≤ 6 := by omega
  have hN := hr.2.2.2.2.2.2.2.2.2.2.1
  have elo : lo = loM := hr.2.2.2.2.2.2.2.2.1
  have elf : lf = lfM := hr.2.2.2.2.2.2.2.2.2.1
  have hq5 : sNight knM nmM j w = sNight kn nm j w := by
    unfold sNight; rw [ekn]
    by_cases c : j < knM
    · rw [if_pos c, if_pos c]; exact (hN _ (by show 4 * j + w < 32; omega)).symm
    · rw [if_neg c, if_neg c]
  refine k_aload_n (q := 1088) C 3 dL_law_1087 rfl rfl ?_
  refine k_aload_n (q := 1089) C 4 dL_law_1088 rfl rfl ?_
  refine k_iload (q := 1091) C 0 dL_law_1089 rfl rfl ?_
  refine k_iconst (q := 1092) (v := 1) C dL_law_1091 (by decide) rfl ?_
  refine k_iadd (q := 1093) C dL_law_1092 rfl ?_
  refine k_st (st2 := (.int (nI (i + 1)) :: _)) (congrArg (fun z => Value.int z :: _) (show (nI i) + 1 = nI (i + 1) from nI_add i 1)) ?_
  refine k_sld (q := 1094) C hX hbl hbA (vp_in_nI (n := i + 1) (by omega) (by omega)) dL_law_1093 rfl ?_
  refine k_st (st2 := (.int (xs (i + 1)) :: _)) (congrArg (fun z => Value.int z :: _) (show xs (nI (i + 1)).toNatClampNeg = xs (i + 1) from congrArg xs (nI_clamp (n := i + 1) (by omega)))) ?_
  refine k_st (st2 := (.int (nI j) :: _)) (congrArg (fun z => Value.int z :: _) (show xs (i + 1) = nI j from hx1)) ?_
  refine k_aload_n (q := 1095) C 4 dL_law_1094 rfl rfl ?_
  refine k_iload (q := 1097) C 0 dL_law_1095 rfl rfl ?_
  refine k_iconst (q := 1098) (v := 2) C dL_law_1097 (by decide) rfl ?_
  refine k_iadd (q := 1099) C dL_law_1098 rfl ?_
  refine k_st (st2 := (.int (nI (i + 2)) :: _)) (congrArg (fun z => Value.int z :: _) (show (nI i) + 2 = nI (i + 2) from nI_add i 2)) ?_
  refine k_sld (q := 1100) C hX hbl hbA (vp_in_nI (n := i + 2) (by omega) (by omega)) dL_law_1099 rfl ?_
  refine k_st (st2 := (.int (xs (i + 2)) :: _)) (congrArg (fun z => Value.int z :: _) (show xs (nI (i + 2)).toNatClampNeg = xs (i + 2) from congrArg xs (nI_clamp (n := i + 2) (by omega)))) ?_
  refine k_st (st2 := (.int (nI w) :: _)) (congrArg (fun z => Value.int z :: _) (show xs (i + 2) = nI w from hx2)) ?_
  refine k_aload_n (q := 1101) C 1 dL_law_1100 rfl rfl ?_
  refine k_callSL (n := 4) (q := 1104) (pre := ([] : va_W)) (post := (wM aM cy thM smM lnM ptM sgM fiM seM (mSt nM oM hM tM sM gM knM loM lfM nmM) svM slM ikM bfM coM goM foM)) (w2 := (([(ob, .inl (cy 4, 1, .inr (.inl (vp_updL ou 0 (sNight kn nm j w).toInt64))))] ++ ((wXo b cy (a 0) r nx sn ln (svOf sk) (kpOf sk) ik bf ++ wRd r kd hg nu dg ng tk) ++ (wSky a cy n lit h t s g kn lo lf nm ++ wOth sk cy S))) ++ (wM aM cy thM smM lnM ptM sgM fiM seM (mSt nM oM hM tM sM gM knM loM lfM nmM) svM slM ikM bfM coM goM foM))) (As := [.ref (b 0), .int (nI j), .int (nI w), .ref ob]) (rest := []) C Z hst (c_L_night cy a b r nx sn ln sk S ik bf kd hg nu dg ng tk n lit h t s g kn lo lf nm ob ou j w hkn8 hw hj) gL_law_L_night rfl rfl rfl (by decide +kernel) (k_room hR (by decide)) (k_le hR (by omega)) rfl rfl (Nat.le_of_ble_eq_true rfl) (rfl) (rfl) dL_law_1101 rfl ?_
  refine k_istore (q := 1106) (fr2 := [(5, .int 0), (4, .int (nI i)), (3, .ref ob), (2, .ref (aM 0)), (1, .ref (b 0)), (0, .ref sb)]) C dL_law_1104 (by decide) rfl rfl ?_
  refine k_aload_n (q := 1107) C 3 dL_law_1106 rfl rfl ?_
  refine k_aload_n (q := 1108) C 5 dL_law_1107 rfl rfl ?_
  refine k_iload (q := 1110) C 1 dL_law_1108 rfl rfl ?_
  refine k_iconst (q := 1111) (v := 1) C dL_law_1110 (by decide) rfl ?_
  refine k_iadd (q := 1112) C dL_law_1111 rfl ?_
  refine k_st (st2 := (.int (nI (i + 1)) :: _)) (congrArg (fun z => Value.int z :: _) (show (nI i) + 1 = nI (i + 1) from nI_add i 1)) ?_
  refine k_sld (q := 1113) C hX hbl hbA (vp_in_nI (n := i + 1) (by omega) (by omega)) dL_law_1112 rfl ?_
  refine k_st (st2 := (.int (xs (i + 1)) :: _)) (congrArg (fun z => Value.int z :: _) (show xs (nI (i + 1)).toNatClampNeg = xs (i + 1) from congrArg xs (nI_clamp (n := i + 1) (by omega)))) ?_
  refine k_st (st2 := (.int (nI j) :: _)) (congrArg (fun z => Value.int z :: _) (show xs (i + 1) = nI j from hx1)) ?_
  refine k_aload_n (q := 1114) C 5 dL_law_1113 rfl rfl ?_
  refine k_iload (q := 1116) C 1 dL_law_1114 rfl rfl ?_
  refine k_iconst (q := 1117) (v := 2) C dL_law_1116 (by decide) rfl ?_
  refine k_iadd (q := 1118) C dL_law_1117 rfl ?_
  refine k_st (st2 := (.int (nI (i + 2)) :: _)) (congrArg (fun z => Value.int z :: _) (show (nI i) + 2 = nI (i + 2) from nI_add i 2)) ?_
  refine k_sld (q := 1119) C hX hbl hbA (vp_in_nI (n := i + 2) (by omega) (by omega)) dL_law_1118 rfl ?_
  refine k_st (st2 := (.int (xs (i + 2)) :: _)) (congrArg (fun z => Value.int z :: _) (show xs (nI (i + 2)).toNatClampNeg = xs (i + 2) from congrArg xs (nI_clamp (n := i + 2) (by omega)))) ?_
  refine k_st (st2 := (.int (nI w) :: _)) (congrArg (fun z => Value.int z :: _) (show xs (i + 2) = nI w from hx2)) ?_
  refine k_callVI (n := 2) (q := 1122) (pre := ([(ob, .inl (cy 4, 1, .inr (.inl (vp_updL ou 0 (sNight kn nm j w).toInt64))))] ++ ((wXo b cy (a 0) r nx sn ln (svOf sk) (kpOf sk) ik bf ++ wRd r kd hg nu dg ng tk) ++ (wSky a cy n lit h t s g kn lo lf nm ++ wOth sk cy S)))) (post := ([] : va_W)) (w2 := (([(ob, .inl (cy 4, 1, .inr (.inl (vp_updL ou 0 (sNight kn nm j w).toInt64))))] ++ ((wXo b cy (a 0) r nx sn ln (svOf sk) (kpOf sk) ik bf ++ wRd r kd hg nu dg ng tk) ++ (wSky a cy n lit h t s g kn lo lf nm ++ wOth sk cy S))) ++ (wM aM cy 0 smM lnM ptM sgM fiM seM (mSt nM oM hM tM sM gM knM loM lfM nmM) svM slM ikM bfM coM goM foM))) (As := [.int (nI j), .int (nI w)]) (rest := []) C (c_X4_night cy aM thM smM lnM ptM sgM fiM seM nM oM hM tM sM gM knM loM lfM nmM svM slM ikM bfM coM goM foM j w hj hw hk8) gL_law_X4_night rfl rfl rfl (by decide +kernel) (k_room hR (by decide)) (k_le hR (by omega)) (ci := 4) rfl 0 rfl rfl rfl (Nat.le_of_ble_eq_true rfl) (k_pre) (k_pre.symm) dL_law_1119 rfl ?_
  refine k_st (st2 := (.int (sNight kn nm j w) :: _)) (congrArg (fun z => Value.int z :: _) (show sNight knM nmM j w = sNight kn nm j w from hq5)) ?_
  refine k_istore (q := 1124) (fr2 := [(6, .int (sNight kn nm j w)), (5, .int 0), (4, .int (nI i)), (3, .ref ob), (2, .ref (aM 0)), (1, .ref (b 0)), (0, .ref sb)]) C dL_law_1122 (by decide) rfl rfl ?_
  refine k_aload_n (q := 1125) C 4 dL_law_1124 rfl rfl ?_
  refine k_callVI (n := 0) (q := 1128) (pre := ([(ob, .inl (cy 4, 1, .inr (.inl (vp_updL ou 0 (sNight kn nm j w).toInt64))))] ++ ((wXo b cy (a 0) r nx sn ln (svOf sk) (kpOf sk) ik bf ++ wRd r kd hg nu dg ng tk) ++ (wSky a cy n lit h t s g kn lo lf nm ++ wOth sk cy S)))) (post := ([] : va_W)) (w2 := (([(ob, .inl (cy 4, 1, .inr (.inl (vp_updL ou 0 (sNight kn nm j w).toInt64))))] ++ ((wXo b cy (a 0) r nx sn ln (svOf sk) (kpOf sk) ik bf ++ wRd r kd hg nu dg ng tk) ++ (wSky a cy n lit h t s g kn lo lf nm ++ wOth sk cy S))) ++ (wM aM cy 0 smM lnM ptM sgM fiM seM (mSt nM oM hM tM sM gM knM loM lfM nmM) svM slM ikM bfM coM goM foM))) (As := []) (rest := []) C (c_X4_thrown cy aM 0 smM lnM ptM sgM fiM seM nM oM hM tM sM gM knM loM lfM nmM svM slM ikM bfM coM goM foM) gL_law_X4_thrown rfl rfl rfl (by decide +kernel) (k_room hR (by decide)) (k_le hR (by omega)) (ci := 4) rfl 0 rfl rfl rfl (Nat.le_of_ble_eq_true rfl) (k_pre) (k_pre.symm) dL_law_1125 rfl ?_
  refine k_iload (q := 1130) C 1 dL_law_1128 rfl rfl ?_
  refine k_icmp_eq (tgt := 1135) (q := 1133) C dL_law_1130 (by decide) rfl ?_ ?_
  · intro c_1130
    refine k_iload (q := 1137) C 1 dL_law_1135 rfl rfl ?_
    refine k_if_ne (tgt := 1152) (q := 1140) C dL_law_1137 (by decide) rfl ?_ ?_
    · exact fun c_1137 => absurd c_1137 (by decide)
    · intro c_1137
      refine k_aload_n (q := 1141) C 3 dL_law_1140 rfl rfl ?_
      refine k_iconst (q := 1142) (v := 0) C dL_law_1141 (by decide) rfl ?_
      refine k_lald (q := 1143) C 0 rfl (vp_in_nI (n := 0) (by decide) (by decide)) dL_law_1142 rfl ?_
      refine k_st (st2 := (.long ((sNight kn nm j w).toInt64) :: _)) (congrArg (fun z => Value.long z :: _) (show (vp_updL ou 0 (sNight kn nm j w).toInt64) ((0 : Int32).toNatClampNeg) = (sNight kn nm j w).toInt64 from if_pos rfl)) ?_
      refine k_iload (q := 1145) C 0 dL_law_1143 rfl rfl ?_
      refine k_i2l (q := 1146) C dL_law_1145 rfl ?_
      refine k_lcmp (q := 1147) C dL_law_1146 rfl ?_
      refine k_st (st2 := (.int 0 :: _)) (congrArg (fun z => Value.int z :: _) (show lg_cmp ((sNight kn nm j w).toInt64) ((sNight kn nm j w).toInt64) = 0 from lcmp_0 _)) ?_
      refine k_if_eq (tgt := 1152) (q := 1150) C dL_law_1147 (by decide) rfl ?_ ?_
      · intro c_1147
        refine k_goto (q := 1415) C dL_law_1152 (by decide) ?_
        refine k_fr (fr2 := [(4, .int (nI i)), (3, .ref ob), (2, .ref (aM 0)), (1, .ref (b 0)), (0, .ref sb)]) ⟨[2, 3, 4, 5, 6], rfl⟩ ?_
        exact E nx sn ln S ik bf kd hg nu dg ng tk ((n, lit, h, t, s, g, kn, lo, lf, nm) : CK) (vp_updL ou 0 (sNight kn nm j w).toInt64) 0 smM lnM ptM sgM fiM seM ((nM, oM, hM, tM, sM, gM, knM, loM, lfM, nmM) : SK) svM slM ikM bfM coM goM foM (hgR)
      · exact fun c_1147 => absurd c_1147 (by decide)
  · exact fun c_1130 => absurd c_1130 (by decide)
set_option maxHeartbeats 4000000 in
set_option maxRecDepth 100000 in
theorem lw_count (cy : Nat → ClassId) (a : Nat → Nat) (b : Nat → Nat) (r : Nat) (nx : Nat) (sn : Nat) (ln : Nat) (sk : Nat → Nat → Nat) (S : Nat → CK) (ik : Nat → Int32) (bf : Nat → Nat) (kd : Nat) (hg : Nat) (nu : Nat) (dg : Nat) (ng : Bool) (tk : Bool) (n : Nat) (lit : Int32) (h : Nat → Int32) (t : Nat → Int32) (s : Nat → Int32) (g : Nat → Int32) (kn : Nat) (lo : Int32) (lf : Int32) (nm : Nat → Int32) (ob : Nat) (ou : Nat → Int64) (aM : Nat → Nat) (thM : Int32) (smM : Nat) (lnM : Nat) (ptM : Nat) (sgM : Nat) (fiM : Int32) (seM : Int32) (nM : Nat) (oM : Nat → Int32) (hM : Nat → Int32) (tM : Nat → Int32) (sM : Nat → Int32) (gM : Nat → Int32) (knM : Nat) (loM : Int32) (lfM : Int32) (nmM : Nat → Int32) (svM : Nat → Int32) (slM : Nat → Int32) (ikM : Nat → Int32) (bfM : Nat → Nat) (coM : Nat → Int32) (goM : Nat → Int32) (foM : Nat → Int32) (w : Nat) (X : kX) (hR : xR X = room_1) (C : kC X 9 RL cL_law wsL_law cy) (Z : kZ (xA X) (xS X) (xS X).heap) (hst : (xL X).stackTraces = false) (sb i L ce sl : Nat) (xs : Nat → Int32) (hX : va_X sb L xs (xS X) (xS X).heap) (hbl : sb < (xS X).heap.size) (hbA : ¬ (xA X) sb) (hL : L ≤ 2048) (hi : i + 4 ≤ L) (hce : ce + 1 ≤ 620303 ∧ sl + 6 ≤ 7235195) (E : lwE X cy a b r sk ob aM sb i ce sl) (hgR : gR nx sn ln ik bf ((n, lit, h, t, s, g, kn, lo, lf, nm) : CK) S smM lnM ((nM, oM, hM, tM, sM, gM, knM, loM, lfM, nmM) : SK) svM slM ikM bfM) (hw : w ≤ 16) (hx1 : xs (i + 1) = nI w) : kG X 9 ce sl (([(ob, .inl (cy 4, 1, .inr (.inl ou)))] ++ ((wXo b cy (a 0) r nx sn ln (svOf sk) (kpOf sk) ik bf ++ wRd r kd hg nu dg ng tk) ++ (wSky a cy n lit h t s g kn lo lf nm ++ wOth sk cy S))) ++ (wM aM cy thM smM lnM ptM sgM fiM seM (mSt nM oM hM tM sM gM knM loM lfM nmM) svM slM ikM bfM coM goM foM)) 1155 [(4, .int (nI i)), (3, .ref ob), (2, .ref (aM 0)), (1, .ref (b 0)), (0, .ref sb)] [] := by
  obtain ⟨hr, hsn, hri, hke, hln, hl60, hbf, hb126⟩ := id hgR
  have hnx := hri.2.1
  have hsm := hri.1
  have hn := hr.1.1
  have en : n = nM := hr.2.1
  have el : lit = mLit oM := hr.2.2.1
  have hH := hr.2.2.2.1
  have hT := hr.2.2.2.2.1
  have hS := hr.2.2.2.2.2.1
  have hG := hr.2.2.2.2.2.2.1
  have ekn : kn = knM := hr.2.2.2.2.2.2.2.1
  have ho := hr.1.2.1
  have hs0 := hr.1.2.2.1
  have hs1 := hr.1.2.2.2.1
  have hk8 := hr.1.2.2.2.2.1
  have hn6 : n ≤ 6 := by rw [en]; exact hn
  have hkn8 : kn ≤ 8 := by rw [ekn]; exact hk8
  have hsn6 : sn ≤ 6 := by omega
  have hN := hr.2.2.2.2.2.2.2.2.2.2.1
  have elo : lo = loM := hr.2.2.2.2.2.2.2.2.1
  have elf : lf = lfM := hr.2.2.2.2.2.2.2.2.2.1
  refine k_aload_n (q := 1156) C 3 dL_law_1155 rfl rfl ?_
  refine k_aload_n (q := 1157) C 4 dL_law_1156 rfl rfl ?_
  refine k_iload (q := 1159) C 0 dL_law_1157 rfl rfl ?_
  refine k_iconst (q := 1160) (v := 1) C dL_law_1159 (by decide) rfl ?_
  refine k_iadd (q := 1161) C dL_law_1160 rfl ?_
  refine k_st (st2 := (.int (nI (i + 1)) :: _)) (congrArg (fun z => Value.int z :: _) (show (nI i) + 1 = nI (i + 1) from nI_add i 1)) ?_
  refine k_sld (q := 1162) C hX hbl hbA (vp_in_nI (n := i + 1) (by omega) (by omega)) dL_law_1161 rfl ?_
  refine k_st (st2 := (.int (xs (i + 1)) :: _)) (congrArg (fun z => Value.int z :: _) (show xs (nI (i + 1)).toNatClampNeg = xs (i + 1) from congrArg xs (nI_clamp (n := i + 1) (by omega)))) ?_
  refine k_st (st2 := (.int (nI w) :: _)) (congrArg (fun z => Value.int z :: _) (show xs (i + 1) = nI w from hx1)) ?_
  refine k_aload_n (q := 1163) C 1 dL_law_1162 rfl rfl ?_
  refine k_callSL (n := 3) (q := 1166) (pre := ([] : va_W)) (post := (wM aM cy thM smM lnM ptM sgM fiM seM (mSt nM oM hM tM sM gM knM loM lfM nmM) svM slM ikM bfM coM goM foM)) (w2 := (([(ob, .inl (cy 4, 1, .inr (.inl (vp_updL ou 0 (xTc sn ln n lit h t s g kn lo lf w).toInt64))))] ++ ((wXo b cy (a 0) r nx sn ln (svOf sk) (kpOf sk) ik bf ++ wRd r kd hg nu dg ng tk) ++ (wSky a cy n lit h t s g kn lo lf nm ++ wOth sk cy S))) ++ (wM aM cy thM smM lnM ptM sgM fiM seM (mSt nM oM hM tM sM gM knM loM lfM nmM) svM slM ikM bfM coM goM foM))) (As := [.ref (b 0), .int (nI w), .ref ob]) (rest := []) C Z hst (c_L_count cy a b r nx sn ln sk S ik bf kd hg nu dg ng tk n lit h t s g kn lo lf nm ob ou w hn6 hw) gL_law_L_count rfl rfl rfl (by decide +kernel) (k_room hR (by decide)) (k_le hR (by omega)) rfl rfl (Nat.le_of_ble_eq_true rfl) (rfl) (rfl) dL_law_1163 rfl ?_
  refine k_istore (q := 1168) (fr2 := [(5, .int 0), (4, .int (nI i)), (3, .ref ob), (2, .ref (aM 0)), (1, .ref (b 0)), (0, .ref sb)]) C dL_law_1166 (by decide) rfl rfl ?_
  refine k_aload_n (q := 1169) C 3 dL_law_1168 rfl rfl ?_
  refine k_aload_n (q := 1170) C 5 dL_law_1169 rfl rfl ?_
  refine k_iload (q := 1172) C 1 dL_law_1170 rfl rfl ?_
  refine k_iconst (q := 1173) (v := 1) C dL_law_1172 (by decide) rfl ?_
  refine k_iadd (q := 1174) C dL_law_1173 rfl ?_
  refine k_st (st2 := (.int (nI (i + 1)) :: _)) (congrArg (fun z => Value.int z :: _) (show (nI i) + 1 = nI (i + 1) from nI_add i 1)) ?_
  refine k_sld (q := 1175) C hX hbl hbA (vp_in_nI (n := i + 1) (by omega) (by omega)) dL_law_1174 rfl ?_
  refine k_st (st2 := (.int (xs (i + 1)) :: _)) (congrArg (fun z => Value.int z :: _) (show xs (nI (i + 1)).toNatClampNeg = xs (i + 1) from congrArg xs (nI_clamp (n := i + 1) (by omega)))) ?_
  refine k_st (st2 := (.int (nI w) :: _)) (congrArg (fun z => Value.int z :: _) (show xs (i + 1) = nI w from hx1)) ?_
  refine k_callVIx (n := 1) (q := 1178) (pre := ([(ob, .inl (cy 4, 1, .inr (.inl (vp_updL ou 0 (xTc sn ln n lit h t s g kn lo lf w).toInt64))))] ++ ((wXo b cy (a 0) r nx sn ln (svOf sk) (kpOf sk) ik bf ++ wRd r kd hg nu dg ng tk) ++ (wSky a cy n lit h t s g kn lo lf nm ++ wOth sk cy S)))) (post := ([] : va_W)) (w2 := (fun u => (([(ob, .inl (cy 4, 1, .inr (.inl (vp_updL ou 0 (xTc sn ln n lit h t s g kn lo lf w).toInt64))))] ++ ((wXo b cy (a 0) r nx sn ln (svOf sk) (kpOf sk) ik bf ++ wRd r kd hg nu dg ng tk) ++ (wSky a cy n lit h t s g kn lo lf nm ++ wOth sk cy S))) ++ (wM aM cy 0 smM lnM ptM sgM fiM seM (mSt nM oM hM tM sM gM knM loM lfM nmM) svM slM ikM bfM (u.1) (u.2) foM)))) (As := [.int (nI w)]) (rest := []) C (c_X4_count cy aM thM smM lnM ptM sgM fiM seM nM oM hM tM sM gM knM loM lfM nmM svM slM ikM bfM coM goM foM w hw hn ho hs0 hs1) gL_law_X4_count rfl rfl rfl (by decide +kernel) (k_room hR (by decide)) (k_le hR (by omega)) (ci := 4) rfl 0 rfl rfl rfl (Nat.le_of_ble_eq_true rfl) (k_pre) (fun u => k_pre.symm) dL_law_1175 rfl ?_
  rintro ⟨co_1175, go_1175⟩ h_1175
  try dsimp only at h_1175
  refine k_st (st2 := (.int (xTc sn ln n lit h t s g kn lo lf w) :: _)) (congrArg (fun z => Value.int z :: _) (show mTc smM lnM nM oM hM tM sM gM knM loM lfM w = xTc sn ln n lit h t s g kn lo lf w from (by rw [hsn, hln, en, el, ekn, elo, elf, cg_Tc hn hw hH hT hS hG]; exact (xTc_m hn ho).symm))) ?_
  refine k_istore (q := 1180) (fr2 := [(6, .int (xTc sn ln n lit h t s g kn lo lf w)), (5, .int 0), (4, .int (nI i)), (3, .ref ob), (2, .ref (aM 0)), (1, .ref (b 0)), (0, .ref sb)]) C dL_law_1178 (by decide) rfl rfl ?_
  refine k_aload_n (q := 1181) C 4 dL_law_1180 rfl rfl ?_
  refine k_callVI (n := 0) (q := 1184) (pre := ([(ob, .inl (cy 4, 1, .inr (.inl (vp_updL ou 0 (xTc sn ln n lit h t s g kn lo lf w).toInt64))))] ++ ((wXo b cy (a 0) r nx sn ln (svOf sk) (kpOf sk) ik bf ++ wRd r kd hg nu dg ng tk) ++ (wSky a cy n lit h t s g kn lo lf nm ++ wOth sk cy S)))) (post := ([] : va_W)) (w2 := (([(ob, .inl (cy 4, 1, .inr (.inl (vp_updL ou 0 (xTc sn ln n lit h t s g kn lo lf w).toInt64))))] ++ ((wXo b cy (a 0) r nx sn ln (svOf sk) (kpOf sk) ik bf ++ wRd r kd hg nu dg ng tk) ++ (wSky a cy n lit h t s g kn lo lf nm ++ wOth sk cy S))) ++ (wM aM cy 0 smM lnM ptM sgM fiM seM (mSt nM oM hM tM sM gM knM loM lfM nmM) svM slM ikM bfM co_1175 go_1175 foM))) (As := []) (rest := []) C (c_X4_thrown cy aM 0 smM lnM ptM sgM fiM seM nM oM hM tM sM gM knM loM lfM nmM svM slM ikM bfM co_1175 go_1175 foM) gL_law_X4_thrown rfl rfl rfl (by decide +kernel) (k_room hR (by decide)) (k_le hR (by omega)) (ci := 4) rfl 0 rfl rfl rfl (Nat.le_of_ble_eq_true rfl) (k_pre) (k_pre.symm) dL_law_1181 rfl ?_
  refine k_iload (q := 1186) C 1 dL_law_1184 rfl rfl ?_
  refine k_icmp_eq (tgt := 1191) (q := 1189) C dL_law_1186 (by decide) rfl ?_ ?_
  · intro c_1186
    refine k_iload (q := 1193) C 1 dL_law_1191 rfl rfl ?_
    refine k_if_ne (tgt := 1208) (q := 1196) C dL_law_1193 (by decide) rfl ?_ ?_
    · exact fun c_1193 => absurd c_1193 (by decide)
    · intro c_1193
      refine k_aload_n (q := 1197) C 3 dL_law_1196 rfl rfl ?_
      refine k_iconst (q := 1198) (v := 0) C dL_law_1197 (by decide) rfl ?_
      refine k_lald (q := 1199) C 0 rfl (vp_in_nI (n := 0) (by decide) (by decide)) dL_law_1198 rfl ?_
      refine k_st (st2 := (.long ((xTc sn ln n lit h t s g kn lo lf w).toInt64) :: _)) (congrArg (fun z => Value.long z :: _) (show (vp_updL ou 0 (xTc sn ln n lit h t s g kn lo lf w).toInt64) ((0 : Int32).toNatClampNeg) = (xTc sn ln n lit h t s g kn lo lf w).toInt64 from if_pos rfl)) ?_
      refine k_iload (q := 1201) C 0 dL_law_1199 rfl rfl ?_
      refine k_i2l (q := 1202) C dL_law_1201 rfl ?_
      refine k_lcmp (q := 1203) C dL_law_1202 rfl ?_
      refine k_st (st2 := (.int 0 :: _)) (congrArg (fun z => Value.int z :: _) (show lg_cmp ((xTc sn ln n lit h t s g kn lo lf w).toInt64) ((xTc sn ln n lit h t s g kn lo lf w).toInt64) = 0 from lcmp_0 _)) ?_
      refine k_if_eq (tgt := 1208) (q := 1206) C dL_law_1203 (by decide) rfl ?_ ?_
      · intro c_1203
        refine k_goto (q := 1415) C dL_law_1208 (by decide) ?_
        refine k_fr (fr2 := [(4, .int (nI i)), (3, .ref ob), (2, .ref (aM 0)), (1, .ref (b 0)), (0, .ref sb)]) ⟨[2, 3, 4, 5, 6], rfl⟩ ?_
        exact E nx sn ln S ik bf kd hg nu dg ng tk ((n, lit, h, t, s, g, kn, lo, lf, nm) : CK) (vp_updL ou 0 (xTc sn ln n lit h t s g kn lo lf w).toInt64) 0 smM lnM ptM sgM fiM seM ((nM, oM, hM, tM, sM, gM, knM, loM, lfM, nmM) : SK) svM slM ikM bfM co_1175 go_1175 foM (hgR)
      · exact fun c_1203 => absurd c_1203 (by decide)
  · exact fun c_1186 => absurd c_1186 (by decide)
set_option maxHeartbeats 4000000 in
set_option maxRecDepth 100000 in
theorem lw_scan (cy : Nat → ClassId) (a : Nat → Nat) (b : Nat → Nat) (r : Nat) (nx : Nat) (sn : Nat) (ln : Nat) (sk : Nat → Nat → Nat) (S : Nat → CK) (ik : Nat → Int32) (bf : Nat → Nat) (kd : Nat) (hg : Nat) (nu : Nat) (dg : Nat) (ng : Bool) (tk : Bool) (n : Nat) (lit : Int32) (h : Nat → Int32) (t : Nat → Int32) (s : Nat → Int32) (g : Nat → Int32) (kn : Nat) (lo : Int32) (lf : Int32) (nm : Nat → Int32) (ob : Nat) (ou : Nat → Int64) (aM : Nat → Nat) (thM : Int32) (smM : Nat) (lnM : Nat) (ptM : Nat) (sgM : Nat) (fiM : Int32) (seM : Int32) (nM : Nat) (oM : Nat → Int32) (hM : Nat → Int32) (tM : Nat → Int32) (sM : Nat → Int32) (gM : Nat → Int32) (knM : Nat) (loM : Int32) (lfM : Int32) (nmM : Nat → Int32) (svM : Nat → Int32) (slM : Nat → Int32) (ikM : Nat → Int32) (bfM : Nat → Nat) (coM : Nat → Int32) (goM : Nat → Int32) (foM : Nat → Int32) (j : Nat) (p : Nat) (X : kX) (hR : xR X = room_1) (C : kC X 9 RL cL_law wsL_law cy) (Z : kZ (xA X) (xS X) (xS X).heap) (hst : (xL X).stackTraces = false) (sb i L ce sl : Nat) (xs : Nat → Int32) (hX : va_X sb L xs (xS X) (xS X).heap) (hbl : sb < (xS X).heap.size) (hbA : ¬ (xA X) sb) (hL : L ≤ 2048) (hi : i + 4 ≤ L) (hce : ce + 1 ≤ 620303 ∧ sl + 6 ≤ 7235195) (E : lwE X cy a b r sk ob aM sb i ce sl) (hgR : gR nx sn ln ik bf ((n, lit, h, t, s, g, kn, lo, lf, nm) : CK) S smM lnM ((nM, oM, hM, tM, sM, gM, knM, loM, lfM, nmM) : SK) svM slM ikM bfM) (hj : j < 2) (hp : p < nM) (hx1 : xs (i + 1) = nI j) (hx2 : xs (i + 2) = nI p) : kG X 9 ce sl (([(ob, .inl (cy 4, 1, .inr (.inl ou)))] ++ ((wXo b cy (a 0) r nx sn ln (svOf sk) (kpOf sk) ik bf ++ wRd r kd hg nu dg ng tk) ++ (wSky a cy n lit h t s g kn lo lf nm ++ wOth sk cy S))) ++ (wM aM cy thM smM lnM ptM sgM fiM seM (mSt nM oM hM tM sM gM knM loM lfM nmM) svM slM ikM bfM coM goM foM)) 520 [(4, .int (nI i)), (3, .ref ob), (2, .ref (aM 0)), (1, .ref (b 0)), (0, .ref sb)] [] := by
  obtain ⟨hr, hsn, hri, hke, hln, hl60, hbf, hb126⟩ := id hgR
  have hnx := hri.2.1
  have hsm := hri.1
  have hn := hr.1.1
  have en : n = nM := hr.2.1
  have el : lit = mLit oM := hr.2.2.1
  have hH := hr.2.2.2.1
  have hT := hr.2.2.2.2.1
  have hS := hr.2.2.2.2.2.1
  have hG := hr.2.2.2.2.2.2.1
  have ekn : kn = knM := hr.2.2.2.2.2.2.2.1
  have ho := hr.1.2.1
  have hs0 := hr.1.2.2.1
  have hs1 := hr.1.2.2.2.1
  have hk8 := hr.1.2.2.2.2.1
  have hn6 : n ≤ 6 := by rw [en]; exact hn
  have hkn8 : kn ≤ 8 := by rw [ekn]; exact hk8
  have hsn6 : sn ≤ 6 := by omega
  have hsj : sOk (sM (1 - j)) := by
    rcases (show j = 0 ∨ j = 1 by omega) with rfl | rfl
    · exact hs1
    · exact hs0
  have hb := mB_try (g := gM) (h := hM) (s := sM) hj (hr.1.2.2.2.2.2.1 p hp) hr.1.2.2.2.2.2.2.2.1 hsj
  have ht : sTry g h s j p = sTry gM hM sM j p := cg_Try hH hS hG hp hj
  have hu : ∀ k, k < 2 → upd s j (iI (sTry gM hM sM j p)) k = upd sM j (iI (sTry gM hM sM j p)) k := fun k hk => by
    unfold upd; split
    · rfl
    · exact hS k hk
  have hq5 : mAbs (sDist hM gM p (upd sM j (mB (sFar gM hM sM j p) 61).1 0) (upd sM j (mB (sFar gM hM sM j p) 61).1 1)) = mAbs (sDist h g p (upd s j (iI (sTry g h s j p)) 0) (upd s j (iI (sTry g h s j p)) 1)) := by
    rw [hb.1, ht, hu 0 (by decide), hu 1 (by decide), cg_Dist (n := nM) hH hG hp]
  refine k_aload_n (q := 521) C 3 dL_law_520 rfl rfl ?_
  refine k_aload_n (q := 522) C 4 dL_law_521 rfl rfl ?_
  refine k_iload (q := 524) C 0 dL_law_522 rfl rfl ?_
  refine k_iconst (q := 525) (v := 1) C dL_law_524 (by decide) rfl ?_
  refine k_iadd (q := 526) C dL_law_525 rfl ?_
  refine k_st (st2 := (.int (nI (i + 1)) :: _)) (congrArg (fun z => Value.int z :: _) (show (nI i) + 1 = nI (i + 1) from nI_add i 1)) ?_
  refine k_sld (q := 527) C hX hbl hbA (vp_in_nI (n := i + 1) (by omega) (by omega)) dL_law_526 rfl ?_
  refine k_st (st2 := (.int (xs (i + 1)) :: _)) (congrArg (fun z => Value.int z :: _) (show xs (nI (i + 1)).toNatClampNeg = xs (i + 1) from congrArg xs (nI_clamp (n := i + 1) (by omega)))) ?_
  refine k_st (st2 := (.int (nI j) :: _)) (congrArg (fun z => Value.int z :: _) (show xs (i + 1) = nI j from hx1)) ?_
  refine k_aload_n (q := 528) C 4 dL_law_527 rfl rfl ?_
  refine k_iload (q := 530) C 0 dL_law_528 rfl rfl ?_
  refine k_iconst (q := 531) (v := 2) C dL_law_530 (by decide) rfl ?_
  refine k_iadd (q := 532) C dL_law_531 rfl ?_
  refine k_st (st2 := (.int (nI (i + 2)) :: _)) (congrArg (fun z => Value.int z :: _) (show (nI i) + 2 = nI (i + 2) from nI_add i 2)) ?_
  refine k_sld (q := 533) C hX hbl hbA (vp_in_nI (n := i + 2) (by omega) (by omega)) dL_law_532 rfl ?_
  refine k_st (st2 := (.int (xs (i + 2)) :: _)) (congrArg (fun z => Value.int z :: _) (show xs (nI (i + 2)).toNatClampNeg = xs (i + 2) from congrArg xs (nI_clamp (n := i + 2) (by omega)))) ?_
  refine k_st (st2 := (.int (nI p) :: _)) (congrArg (fun z => Value.int z :: _) (show xs (i + 2) = nI p from hx2)) ?_
  refine k_aload_n (q := 534) C 1 dL_law_533 rfl rfl ?_
  refine k_callSL (n := 4) (q := 537) (pre := ([] : va_W)) (post := (wM aM cy thM smM lnM ptM sgM fiM seM (mSt nM oM hM tM sM gM knM loM lfM nmM) svM slM ikM bfM coM goM foM)) (w2 := (([(ob, .inl (cy 4, 1, .inr (.inl (vp_updL ou 0 (mAbs (sDist h g p ((upd s j (iI (sTry g h s j p))) 0) ((upd s j (iI (sTry g h s j p))) 1))).toInt64))))] ++ ((wXo b cy (a 0) r ((nx + 1) % 6) (min (sn + 1) 6) ln (svOf sk) (kpOf sk) ik bf ++ wRd r kd hg nu dg ng tk) ++ (wSky a cy n lit h t (upd s j (iI (sTry g h s j p))) g kn lo lf nm ++ wOth sk cy (updS S nx (cLike (n, lit, h, t, s, g, kn, lo, lf, nm) (S nx)))))) ++ (wM aM cy thM smM lnM ptM sgM fiM seM (mSt nM oM hM tM sM gM knM loM lfM nmM) svM slM ikM bfM coM goM foM))) (As := [.ref (b 0), .int (nI j), .int (nI p), .ref ob]) (rest := []) C Z hst (c_L_scan cy a b r nx sn ln sk S ik bf kd hg nu dg ng tk n lit h t s g kn lo lf nm ob ou j p hnx hsn6 hn6 hj (by omega)) gL_law_L_scan rfl rfl rfl (by decide +kernel) (k_room hR (by decide)) (k_le hR (by omega)) rfl rfl (Nat.le_of_ble_eq_true rfl) (rfl) (rfl) dL_law_534 rfl ?_
  refine k_istore (q := 539) (fr2 := [(5, .int 0), (4, .int (nI i)), (3, .ref ob), (2, .ref (aM 0)), (1, .ref (b 0)), (0, .ref sb)]) C dL_law_537 (by decide) rfl rfl ?_
  refine k_aload_n (q := 540) C 3 dL_law_539 rfl rfl ?_
  refine k_aload_n (q := 541) C 5 dL_law_540 rfl rfl ?_
  refine k_iload (q := 543) C 1 dL_law_541 rfl rfl ?_
  refine k_iconst (q := 544) (v := 1) C dL_law_543 (by decide) rfl ?_
  refine k_iadd (q := 545) C dL_law_544 rfl ?_
  refine k_st (st2 := (.int (nI (i + 1)) :: _)) (congrArg (fun z => Value.int z :: _) (show (nI i) + 1 = nI (i + 1) from nI_add i 1)) ?_
  refine k_sld (q := 546) C hX hbl hbA (vp_in_nI (n := i + 1) (by omega) (by omega)) dL_law_545 rfl ?_
  refine k_st (st2 := (.int (xs (i + 1)) :: _)) (congrArg (fun z => Value.int z :: _) (show xs (nI (i + 1)).toNatClampNeg = xs (i + 1) from congrArg xs (nI_clamp (n := i + 1) (by omega)))) ?_
  refine k_st (st2 := (.int (nI j) :: _)) (congrArg (fun z => Value.int z :: _) (show xs (i + 1) = nI j from hx1)) ?_
  refine k_aload_n (q := 547) C 5 dL_law_546 rfl rfl ?_
  refine k_iload (q := 549) C 1 dL_law_547 rfl rfl ?_
  refine k_iconst (q := 550) (v := 2) C dL_law_549 (by decide) rfl ?_
  refine k_iadd (q := 551) C dL_law_550 rfl ?_
  refine k_st (st2 := (.int (nI (i + 2)) :: _)) (congrArg (fun z => Value.int z :: _) (show (nI i) + 2 = nI (i + 2) from nI_add i 2)) ?_
  refine k_sld (q := 552) C hX hbl hbA (vp_in_nI (n := i + 2) (by omega) (by omega)) dL_law_551 rfl ?_
  refine k_st (st2 := (.int (xs (i + 2)) :: _)) (congrArg (fun z => Value.int z :: _) (show xs (nI (i + 2)).toNatClampNeg = xs (i + 2) from congrArg xs (nI_clamp (n := i + 2) (by omega)))) ?_
  refine k_st (st2 := (.int (nI p) :: _)) (congrArg (fun z => Value.int z :: _) (show xs (i + 2) = nI p from hx2)) ?_
  refine k_callVI (n := 2) (q := 555) (pre := ([(ob, .inl (cy 4, 1, .inr (.inl (vp_updL ou 0 (mAbs (sDist h g p ((upd s j (iI (sTry g h s j p))) 0) ((upd s j (iI (sTry g h s j p))) 1))).toInt64))))] ++ ((wXo b cy (a 0) r ((nx + 1) % 6) (min (sn + 1) 6) ln (svOf sk) (kpOf sk) ik bf ++ wRd r kd hg nu dg ng tk) ++ (wSky a cy n lit h t (upd s j (iI (sTry g h s j p))) g kn lo lf nm ++ wOth sk cy (updS S nx (cLike (n, lit, h, t, s, g, kn, lo, lf, nm) (S nx))))))) (post := ([] : va_W)) (w2 := (([(ob, .inl (cy 4, 1, .inr (.inl (vp_updL ou 0 (mAbs (sDist h g p ((upd s j (iI (sTry g h s j p))) 0) ((upd s j (iI (sTry g h s j p))) 1))).toInt64))))] ++ ((wXo b cy (a 0) r ((nx + 1) % 6) (min (sn + 1) 6) ln (svOf sk) (kpOf sk) ik bf ++ wRd r kd hg nu dg ng tk) ++ (wSky a cy n lit h t (upd s j (iI (sTry g h s j p))) g kn lo lf nm ++ wOth sk cy (updS S nx (cLike (n, lit, h, t, s, g, kn, lo, lf, nm) (S nx)))))) ++ (wM aM cy 0 (min (smM + 1) 6) lnM ptM sgM fiM seM (mSt nM oM hM tM (upd sM j (mB (sFar gM hM sM j p) 61).1) gM knM loM lfM nmM) (mSave svM (mSt nM oM hM tM sM gM knM loM lfM nmM) smM) slM ikM bfM coM goM foM))) (As := [.int (nI j), .int (nI p)]) (rest := []) C (c_X4_scan cy aM thM smM lnM ptM sgM fiM seM nM oM hM tM sM gM knM loM lfM nmM svM slM ikM bfM coM goM foM j p hn hj hp hsm) gL_law_X4_scan rfl rfl rfl (by decide +kernel) (k_room hR (by decide)) (k_le hR (by omega)) (ci := 4) rfl 0 rfl rfl rfl (Nat.le_of_ble_eq_true rfl) (k_pre) (k_pre.symm) dL_law_552 rfl ?_
  refine k_st (st2 := (.int (mAbs (sDist h g p (upd s j (iI (sTry g h s j p)) 0) (upd s j (iI (sTry g h s j p)) 1))) :: _)) (congrArg (fun z => Value.int z :: _) (show mAbs (sDist hM gM p (upd sM j (mB (sFar gM hM sM j p) 61).1 0) (upd sM j (mB (sFar gM hM sM j p) 61).1 1)) = mAbs (sDist h g p (upd s j (iI (sTry g h s j p)) 0) (upd s j (iI (sTry g h s j p)) 1)) from hq5)) ?_
  refine k_istore (q := 557) (fr2 := [(6, .int (mAbs (sDist h g p (upd s j (iI (sTry g h s j p)) 0) (upd s j (iI (sTry g h s j p)) 1)))), (5, .int 0), (4, .int (nI i)), (3, .ref ob), (2, .ref (aM 0)), (1, .ref (b 0)), (0, .ref sb)]) C dL_law_555 (by decide) rfl rfl ?_
  refine k_aload_n (q := 558) C 4 dL_law_557 rfl rfl ?_
  refine k_callVI (n := 0) (q := 561) (pre := ([(ob, .inl (cy 4, 1, .inr (.inl (vp_updL ou 0 (mAbs (sDist h g p ((upd s j (iI (sTry g h s j p))) 0) ((upd s j (iI (sTry g h s j p))) 1))).toInt64))))] ++ ((wXo b cy (a 0) r ((nx + 1) % 6) (min (sn + 1) 6) ln (svOf sk) (kpOf sk) ik bf ++ wRd r kd hg nu dg ng tk) ++ (wSky a cy n lit h t (upd s j (iI (sTry g h s j p))) g kn lo lf nm ++ wOth sk cy (updS S nx (cLike (n, lit, h, t, s, g, kn, lo, lf, nm) (S nx))))))) (post := ([] : va_W)) (w2 := (([(ob, .inl (cy 4, 1, .inr (.inl (vp_updL ou 0 (mAbs (sDist h g p ((upd s j (iI (sTry g h s j p))) 0) ((upd s j (iI (sTry g h s j p))) 1))).toInt64))))] ++ ((wXo b cy (a 0) r ((nx + 1) % 6) (min (sn + 1) 6) ln (svOf sk) (kpOf sk) ik bf ++ wRd r kd hg nu dg ng tk) ++ (wSky a cy n lit h t (upd s j (iI (sTry g h s j p))) g kn lo lf nm ++ wOth sk cy (updS S nx (cLike (n, lit, h, t, s, g, kn, lo, lf, nm) (S nx)))))) ++ (wM aM cy 0 (min (smM + 1) 6) lnM ptM sgM fiM seM (mSt nM oM hM tM (upd sM j (mB (sFar gM hM sM j p) 61).1) gM knM loM lfM nmM) (mSave svM (mSt nM oM hM tM sM gM knM loM lfM nmM) smM) slM ikM bfM coM goM foM))) (As := []) (rest := []) C (c_X4_thrown cy aM 0 (min (smM + 1) 6) lnM ptM sgM fiM seM nM oM hM tM (upd sM j (mB (sFar gM hM sM j p) 61).1) gM knM loM lfM nmM (mSave svM (mSt nM oM hM tM sM gM knM loM lfM nmM) smM) slM ikM bfM coM goM foM) gL_law_X4_thrown rfl rfl rfl (by decide +kernel) (k_room hR (by decide)) (k_le hR (by omega)) (ci := 4) rfl 0 rfl rfl rfl (Nat.le_of_ble_eq_true rfl) (k_pre) (k_pre.symm) dL_law_558 rfl ?_
  refine k_iload (q := 563) C 1 dL_law_561 rfl rfl ?_
  refine k_icmp_eq (tgt := 568) (q := 566) C dL_law_563 (by decide) rfl ?_ ?_
  · intro c_563
    refine k_iload (q := 570) C 1 dL_law_568 rfl rfl ?_
    refine k_if_ne (tgt := 585) (q := 573) C dL_law_570 (by decide) rfl ?_ ?_
    · exact fun c_570 => absurd c_570 (by decide)
    · intro c_570
      refine k_aload_n (q := 574) C 3 dL_law_573 rfl rfl ?_
      refine k_iconst (q := 575) (v := 0) C dL_law_574 (by decide) rfl ?_
      refine k_lald (q := 576) C 0 rfl (vp_in_nI (n := 0) (by decide) (by decide)) dL_law_575 rfl ?_
      refine k_st (st2 := (.long ((mAbs (sDist h g p (upd s j (iI (sTry g h s j p)) 0) (upd s j (iI (sTry g h s j p)) 1))).toInt64) :: _)) (congrArg (fun z => Value.long z :: _) (show (vp_updL ou 0 (mAbs (sDist h g p ((upd s j (iI (sTry g h s j p))) 0) ((upd s j (iI (sTry g h s j p))) 1))).toInt64) ((0 : Int32).toNatClampNeg) = (mAbs (sDist h g p (upd s j (iI (sTry g h s j p)) 0) (upd s j (iI (sTry g h s j p)) 1))).toInt64 from if_pos rfl)) ?_
      refine k_iload (q := 578) C 0 dL_law_576 rfl rfl ?_
      refine k_i2l (q := 579) C dL_law_578 rfl ?_
      refine k_lcmp (q := 580) C dL_law_579 rfl ?_
      refine k_st (st2 := (.int 0 :: _)) (congrArg (fun z => Value.int z :: _) (show lg_cmp ((mAbs (sDist h g p (upd s j (iI (sTry g h s j p)) 0) (upd s j (iI (sTry g h s j p)) 1))).toInt64) ((mAbs (sDist h g p (upd s j (iI (sTry g h s j p)) 0) (upd s j (iI (sTry g h s j p)) 1))).toInt64) = 0 from lcmp_0 _)) ?_
      refine k_if_eq (tgt := 585) (q := 583) C dL_law_580 (by decide) rfl ?_ ?_
      · intro c_580
        refine k_goto (q := 1415) C dL_law_585 (by decide) ?_
        refine k_fr (fr2 := [(4, .int (nI i)), (3, .ref ob), (2, .ref (aM 0)), (1, .ref (b 0)), (0, .ref sb)]) ⟨[2, 3, 4, 5, 6], rfl⟩ ?_
        exact E ((nx + 1) % 6) (min (sn + 1) 6) ln (updS S nx (cLike (n, lit, h, t, s, g, kn, lo, lf, nm) (S nx))) ik bf kd hg nu dg ng tk ((n, lit, h, t, (upd s j (iI (sTry g h s j p))), g, kn, lo, lf, nm) : CK) (vp_updL ou 0 (mAbs (sDist h g p ((upd s j (iI (sTry g h s j p))) 0) ((upd s j (iI (sTry g h s j p))) 1))).toInt64) 0 (min (smM + 1) 6) lnM ptM sgM fiM seM ((nM, oM, hM, tM, upd sM j (mB (sFar gM hM sM j p) 61).1, gM, knM, loM, lfM, nmM) : SK) (mSave svM (mSt nM oM hM tM sM gM knM loM lfM nmM) smM) slM ikM bfM coM goM foM (⟨(by rw [hb.1, ht]; exact r_aim hr hj hb.2), by omega, ring_save hri hr, kept_save hke hnx, hln, hl60, hbf, hb126⟩)
      · exact fun c_580 => absurd c_580 (by decide)
  · exact fun c_563 => absurd c_563 (by decide)
set_option maxHeartbeats 4000000 in
set_option maxRecDepth 100000 in
theorem lw_nearest (cy : Nat → ClassId) (a : Nat → Nat) (b : Nat → Nat) (r : Nat) (nx : Nat) (sn : Nat) (ln : Nat) (sk : Nat → Nat → Nat) (S : Nat → CK) (ik : Nat → Int32) (bf : Nat → Nat) (kd : Nat) (hg : Nat) (nu : Nat) (dg : Nat) (ng : Bool) (tk : Bool) (n : Nat) (lit : Int32) (h : Nat → Int32) (t : Nat → Int32) (s : Nat → Int32) (g : Nat → Int32) (kn : Nat) (lo : Int32) (lf : Int32) (nm : Nat → Int32) (ob : Nat) (ou : Nat → Int64) (aM : Nat → Nat) (thM : Int32) (smM : Nat) (lnM : Nat) (ptM : Nat) (sgM : Nat) (fiM : Int32) (seM : Int32) (nM : Nat) (oM : Nat → Int32) (hM : Nat → Int32) (tM : Nat → Int32) (sM : Nat → Int32) (gM : Nat → Int32) (knM : Nat) (loM : Int32) (lfM : Int32) (nmM : Nat → Int32) (svM : Nat → Int32) (slM : Nat → Int32) (ikM : Nat → Int32) (bfM : Nat → Nat) (coM : Nat → Int32) (goM : Nat → Int32) (foM : Nat → Int32) (j : Nat) (p : Nat) (X : kX) (hR : xR X = room_1) (C : kC X 9 RL cL_law wsL_law cy) (Z : kZ (xA X) (xS X) (xS X).heap) (hst : (xL X).stackTraces = false) (sb i L ce sl : Nat) (xs : Nat → Int32) (hX : va_X sb L xs (xS X) (xS X).heap) (hbl : sb < (xS X).heap.size) (hbA : ¬ (xA X) sb) (hL : L ≤ 2048) (hi : i + 4 ≤ L) (hce : ce + 1 ≤ 620303 ∧ sl + 6 ≤ 7235195) (E : lwE X cy a b r sk ob aM sb i ce sl) (hgR : gR nx sn ln ik bf ((n, lit, h, t, s, g, kn, lo, lf, nm) : CK) S smM lnM ((nM, oM, hM, tM, sM, gM, knM, loM, lfM, nmM) : SK) svM slM ikM bfM) (hj : j < 2) (hp : p < nM) (hx1 : xs (i + 1) = nI j) (hx2 : xs (i + 2) = nI p) (hz : xs (i + 3) = 0 ∨ xs (i + 3) = 1) : kG X 9 ce sl (([(ob, .inl (cy 4, 1, .inr (.inl ou)))] ++ ((wXo b cy (a 0) r nx sn ln (svOf sk) (kpOf sk) ik bf ++ wRd r kd hg nu dg ng tk) ++ (wSky a cy n lit h t s g kn lo lf nm ++ wOth sk cy S))) ++ (wM aM cy thM smM lnM ptM sgM fiM seM (mSt nM oM hM tM sM gM knM loM lfM nmM) svM slM ikM bfM coM goM foM)) 1211 [(4, .int (nI i)), (3, .ref ob), (2, .ref (aM 0)), (1, .ref (b 0)), (0, .ref sb)] [] := by
  obtain ⟨hr, hsn, hri, hke, hln, hl60, hbf, hb126⟩ := id hgR
  have hnx := hri.2.1
  have hsm := hri.1
  have hn := hr.1.1
  have en : n = nM := hr.2.1
  have el : lit = mLit oM := hr.2.2.1
  have hH := hr.2.2.2.1
  have hT := hr.2.2.2.2.1
  have hS := hr.2.2.2.2.2.1
  have hG := hr.2.2.2.2.2.2.1
  have ekn : kn = knM := hr.2.2.2.2.2.2.2.1
  have ho := hr.1.2.1
  have hs0 := hr.1.2.2.1
  have hs1 := hr.1.2.2.2.1
  have hk8 := hr.1.2.2.2.2.1
  have hn6 : n ≤ 6 := by rw [en]; exact hn
  have hkn8 : kn ≤ 8 := by rw [ekn]; exact hk8
  have hsn6 : sn ≤ 6 := by omega
  have hsj : sOk (sM (1 - j)) := by
    rcases (show j = 0 ∨ j = 1 by omega) with rfl | rfl
    · exact hs1
    · exact hs0
  have hb := mB_try (g := gM) (h := hM) (s := sM) hj (hr.1.2.2.2.2.2.1 p hp) hr.1.2.2.2.2.2.2.2.1 hsj
  have ht : sTry g h s j p = sTry gM hM sM j p := cg_Try hH hS hG hp hj
  have hc : sCmp g h s j p = sTry gM hM sM j p := (cg_Cmp hH hS hG hp hj).trans (sCmp_try hj (hr.1.2.2.2.2.2.1 p hp) hr.1.2.2.2.2.2.2.2.1 hsj)
  have hhp : 0 < h p := by
    have z : h p = hM p := hH p hp
    rw [z]; exact h_pos (hr.1.2.2.2.2.2.1 p hp)
  have hq5 : (mB (sFar gM hM sM j p) 61).1 + 100 = (if xs (i + 3) = 0 then iI (sTry g h s j p) else iI (sCmp g h s j p)) + 100 := by
    rw [hb.1, ht, hc, ite_self]
  refine k_aload_n (q := 1212) C 3 dL_law_1211 rfl rfl ?_
  refine k_aload_n (q := 1213) C 4 dL_law_1212 rfl rfl ?_
  refine k_iload (q := 1215) C 0 dL_law_1213 rfl rfl ?_
  refine k_iconst (q := 1216) (v := 1) C dL_law_1215 (by decide) rfl ?_
  refine k_iadd (q := 1217) C dL_law_1216 rfl ?_
  refine k_st (st2 := (.int (nI (i + 1)) :: _)) (congrArg (fun z => Value.int z :: _) (show (nI i) + 1 = nI (i + 1) from nI_add i 1)) ?_
  refine k_sld (q := 1218) C hX hbl hbA (vp_in_nI (n := i + 1) (by omega) (by omega)) dL_law_1217 rfl ?_
  refine k_st (st2 := (.int (xs (i + 1)) :: _)) (congrArg (fun z => Value.int z :: _) (show xs (nI (i + 1)).toNatClampNeg = xs (i + 1) from congrArg xs (nI_clamp (n := i + 1) (by omega)))) ?_
  refine k_st (st2 := (.int (nI j) :: _)) (congrArg (fun z => Value.int z :: _) (show xs (i + 1) = nI j from hx1)) ?_
  refine k_aload_n (q := 1219) C 4 dL_law_1218 rfl rfl ?_
  refine k_iload (q := 1221) C 0 dL_law_1219 rfl rfl ?_
  refine k_iconst (q := 1222) (v := 2) C dL_law_1221 (by decide) rfl ?_
  refine k_iadd (q := 1223) C dL_law_1222 rfl ?_
  refine k_st (st2 := (.int (nI (i + 2)) :: _)) (congrArg (fun z => Value.int z :: _) (show (nI i) + 2 = nI (i + 2) from nI_add i 2)) ?_
  refine k_sld (q := 1224) C hX hbl hbA (vp_in_nI (n := i + 2) (by omega) (by omega)) dL_law_1223 rfl ?_
  refine k_st (st2 := (.int (xs (i + 2)) :: _)) (congrArg (fun z => Value.int z :: _) (show xs (nI (i + 2)).toNatClampNeg = xs (i + 2) from congrArg xs (nI_clamp (n := i + 2) (by omega)))) ?_
  refine k_st (st2 := (.int (nI p) :: _)) (congrArg (fun z => Value.int z :: _) (show xs (i + 2) = nI p from hx2)) ?_
  refine k_aload_n (q := 1225) C 4 dL_law_1224 rfl rfl ?_
  refine k_iload (q := 1227) C 0 dL_law_1225 rfl rfl ?_
  refine k_iconst (q := 1228) (v := 3) C dL_law_1227 (by decide) rfl ?_
  refine k_iadd (q := 1229) C dL_law_1228 rfl ?_
  refine k_st (st2 := (.int (nI (i + 3)) :: _)) (congrArg (fun z => Value.int z :: _) (show (nI i) + 3 = nI (i + 3) from nI_add i 3)) ?_
  refine k_sld (q := 1230) C hX hbl hbA (vp_in_nI (n := i + 3) (by omega) (by omega)) dL_law_1229 rfl ?_
  refine k_st (st2 := (.int (xs (i + 3)) :: _)) (congrArg (fun z => Value.int z :: _) (show xs (nI (i + 3)).toNatClampNeg = xs (i + 3) from congrArg xs (nI_clamp (n := i + 3) (by omega)))) ?_
  refine k_aload_n (q := 1231) C 1 dL_law_1230 rfl rfl ?_
  refine k_callSL (n := 5) (q := 1234) (pre := ([] : va_W)) (post := (wM aM cy thM smM lnM ptM sgM fiM seM (mSt nM oM hM tM sM gM knM loM lfM nmM) svM slM ikM bfM coM goM foM)) (w2 := (([(ob, .inl (cy 4, 1, .inr (.inl (vp_updL ou 0 ((if (xs (i + 3)) = 0 then iI (sTry g h s j p) else iI (sCmp g h s j p)) + 100).toInt64))))] ++ ((wXo b cy (a 0) r nx sn ln (svOf sk) (kpOf sk) ik bf ++ wRd r kd hg nu dg ng tk) ++ (wSky a cy n lit h t s g kn lo lf nm ++ wOth sk cy S))) ++ (wM aM cy thM smM lnM ptM sgM fiM seM (mSt nM oM hM tM sM gM knM loM lfM nmM) svM slM ikM bfM coM goM foM))) (As := [.ref (b 0), .int (nI j), .int (nI p), .int (xs (i + 3)), .ref ob]) (rest := []) C Z hst (c_L_nearest cy a b r nx sn ln sk S ik bf kd hg nu dg ng tk n lit h t s g kn lo lf nm ob ou j p (xs (i + 3)) hn6 hj (by omega) hz hhp) gL_law_L_nearest rfl rfl rfl (by decide +kernel) (k_room hR (by decide)) (k_le hR (by omega)) rfl rfl (Nat.le_of_ble_eq_true rfl) (rfl) (rfl) dL_law_1231 rfl ?_
  refine k_istore (q := 1236) (fr2 := [(5, .int 0), (4, .int (nI i)), (3, .ref ob), (2, .ref (aM 0)), (1, .ref (b 0)), (0, .ref sb)]) C dL_law_1234 (by decide) rfl rfl ?_
  refine k_aload_n (q := 1237) C 3 dL_law_1236 rfl rfl ?_
  refine k_aload_n (q := 1238) C 5 dL_law_1237 rfl rfl ?_
  refine k_iload (q := 1240) C 1 dL_law_1238 rfl rfl ?_
  refine k_iconst (q := 1241) (v := 1) C dL_law_1240 (by decide) rfl ?_
  refine k_iadd (q := 1242) C dL_law_1241 rfl ?_
  refine k_st (st2 := (.int (nI (i + 1)) :: _)) (congrArg (fun z => Value.int z :: _) (show (nI i) + 1 = nI (i + 1) from nI_add i 1)) ?_
  refine k_sld (q := 1243) C hX hbl hbA (vp_in_nI (n := i + 1) (by omega) (by omega)) dL_law_1242 rfl ?_
  refine k_st (st2 := (.int (xs (i + 1)) :: _)) (congrArg (fun z => Value.int z :: _) (show xs (nI (i + 1)).toNatClampNeg = xs (i + 1) from congrArg xs (nI_clamp (n := i + 1) (by omega)))) ?_
  refine k_st (st2 := (.int (nI j) :: _)) (congrArg (fun z => Value.int z :: _) (show xs (i + 1) = nI j from hx1)) ?_
  refine k_aload_n (q := 1244) C 5 dL_law_1243 rfl rfl ?_
  refine k_iload (q := 1246) C 1 dL_law_1244 rfl rfl ?_
  refine k_iconst (q := 1247) (v := 2) C dL_law_1246 (by decide) rfl ?_
  refine k_iadd (q := 1248) C dL_law_1247 rfl ?_
  refine k_st (st2 := (.int (nI (i + 2)) :: _)) (congrArg (fun z => Value.int z :: _) (show (nI i) + 2 = nI (i + 2) from nI_add i 2)) ?_
  refine k_sld (q := 1249) C hX hbl hbA (vp_in_nI (n := i + 2) (by omega) (by omega)) dL_law_1248 rfl ?_
  refine k_st (st2 := (.int (xs (i + 2)) :: _)) (congrArg (fun z => Value.int z :: _) (show xs (nI (i + 2)).toNatClampNeg = xs (i + 2) from congrArg xs (nI_clamp (n := i + 2) (by omega)))) ?_
  refine k_st (st2 := (.int (nI p) :: _)) (congrArg (fun z => Value.int z :: _) (show xs (i + 2) = nI p from hx2)) ?_
  refine k_aload_n (q := 1250) C 5 dL_law_1249 rfl rfl ?_
  refine k_iload (q := 1252) C 1 dL_law_1250 rfl rfl ?_
  refine k_iconst (q := 1253) (v := 3) C dL_law_1252 (by decide) rfl ?_
  refine k_iadd (q := 1254) C dL_law_1253 rfl ?_
  refine k_st (st2 := (.int (nI (i + 3)) :: _)) (congrArg (fun z => Value.int z :: _) (show (nI i) + 3 = nI (i + 3) from nI_add i 3)) ?_
  refine k_sld (q := 1255) C hX hbl hbA (vp_in_nI (n := i + 3) (by omega) (by omega)) dL_law_1254 rfl ?_
  refine k_st (st2 := (.int (xs (i + 3)) :: _)) (congrArg (fun z => Value.int z :: _) (show xs (nI (i + 3)).toNatClampNeg = xs (i + 3) from congrArg xs (nI_clamp (n := i + 3) (by omega)))) ?_
  refine k_callVI (n := 3) (q := 1258) (pre := ([(ob, .inl (cy 4, 1, .inr (.inl (vp_updL ou 0 ((if (xs (i + 3)) = 0 then iI (sTry g h s j p) else iI (sCmp g h s j p)) + 100).toInt64))))] ++ ((wXo b cy (a 0) r nx sn ln (svOf sk) (kpOf sk) ik bf ++ wRd r kd hg nu dg ng tk) ++ (wSky a cy n lit h t s g kn lo lf nm ++ wOth sk cy S)))) (post := ([] : va_W)) (w2 := (([(ob, .inl (cy 4, 1, .inr (.inl (vp_updL ou 0 ((if (xs (i + 3)) = 0 then iI (sTry g h s j p) else iI (sCmp g h s j p)) + 100).toInt64))))] ++ ((wXo b cy (a 0) r nx sn ln (svOf sk) (kpOf sk) ik bf ++ wRd r kd hg nu dg ng tk) ++ (wSky a cy n lit h t s g kn lo lf nm ++ wOth sk cy S))) ++ (wM aM cy 0 smM lnM ptM sgM fiM seM (mSt nM oM hM tM sM gM knM loM lfM nmM) svM slM ikM bfM coM goM foM))) (As := [.int (nI j), .int (nI p), .int (xs (i + 3))]) (rest := []) C (c_X4_nearest cy aM thM smM lnM ptM sgM fiM seM nM oM hM tM sM gM knM loM lfM nmM svM slM ikM bfM coM goM foM j p (xs (i + 3)) hn hj hp (by rcases hz with e | e <;> rw [e] <;> decide)) gL_law_X4_nearest rfl rfl rfl (by decide +kernel) (k_room hR (by decide)) (k_le hR (by omega)) (ci := 4) rfl 0 rfl rfl rfl (Nat.le_of_ble_eq_true rfl) (k_pre) (k_pre.symm) dL_law_1255 rfl ?_
  refine k_st (st2 := (.int ((if xs (i + 3) = 0 then iI (sTry g h s j p) else iI (sCmp g h s j p)) + 100) :: _)) (congrArg (fun z => Value.int z :: _) (show (mB (sFar gM hM sM j p) 61).1 + 100 = (if xs (i + 3) = 0 then iI (sTry g h s j p) else iI (sCmp g h s j p)) + 100 from hq5)) ?_
  refine k_istore (q := 1260) (fr2 := [(6, .int ((if xs (i + 3) = 0 then iI (sTry g h s j p) else iI (sCmp g h s j p)) + 100)), (5, .int 0), (4, .int (nI i)), (3, .ref ob), (2, .ref (aM 0)), (1, .ref (b 0)), (0, .ref sb)]) C dL_law_1258 (by decide) rfl rfl ?_
  refine k_aload_n (q := 1261) C 4 dL_law_1260 rfl rfl ?_
  refine k_callVI (n := 0) (q := 1264) (pre := ([(ob, .inl (cy 4, 1, .inr (.inl (vp_updL ou 0 ((if (xs (i + 3)) = 0 then iI (sTry g h s j p) else iI (sCmp g h s j p)) + 100).toInt64))))] ++ ((wXo b cy (a 0) r nx sn ln (svOf sk) (kpOf sk) ik bf ++ wRd r kd hg nu dg ng tk) ++ (wSky a cy n lit h t s g kn lo lf nm ++ wOth sk cy S)))) (post := ([] : va_W)) (w2 := (([(ob, .inl (cy 4, 1, .inr (.inl (vp_updL ou 0 ((if (xs (i + 3)) = 0 then iI (sTry g h s j p) else iI (sCmp g h s j p)) + 100).toInt64))))] ++ ((wXo b cy (a 0) r nx sn ln (svOf sk) (kpOf sk) ik bf ++ wRd r kd hg nu dg ng tk) ++ (wSky a cy n lit h t s g kn lo lf nm ++ wOth sk cy S))) ++ (wM aM cy 0 smM lnM ptM sgM fiM seM (mSt nM oM hM tM sM gM knM loM lfM nmM) svM slM ikM bfM coM goM foM))) (As := []) (rest := []) C (c_X4_thrown cy aM 0 smM lnM ptM sgM fiM seM nM oM hM tM sM gM knM loM lfM nmM svM slM ikM bfM coM goM foM) gL_law_X4_thrown rfl rfl rfl (by decide +kernel) (k_room hR (by decide)) (k_le hR (by omega)) (ci := 4) rfl 0 rfl rfl rfl (Nat.le_of_ble_eq_true rfl) (k_pre) (k_pre.symm) dL_law_1261 rfl ?_
  refine k_iload (q := 1266) C 1 dL_law_1264 rfl rfl ?_
  refine k_icmp_eq (tgt := 1271) (q := 1269) C dL_law_1266 (by decide) rfl ?_ ?_
  · intro c_1266
    refine k_iload (q := 1273) C 1 dL_law_1271 rfl rfl ?_
    refine k_if_ne (tgt := 1288) (q := 1276) C dL_law_1273 (by decide) rfl ?_ ?_
    · exact fun c_1273 => absurd c_1273 (by decide)
    · intro c_1273
      refine k_aload_n (q := 1277) C 3 dL_law_1276 rfl rfl ?_
      refine k_iconst (q := 1278) (v := 0) C dL_law_1277 (by decide) rfl ?_
      refine k_lald (q := 1279) C 0 rfl (vp_in_nI (n := 0) (by decide) (by decide)) dL_law_1278 rfl ?_
      refine k_st (st2 := (.long (((if xs (i + 3) = 0 then iI (sTry g h s j p) else iI (sCmp g h s j p)) + 100).toInt64) :: _)) (congrArg (fun z => Value.long z :: _) (show (vp_updL ou 0 ((if (xs (i + 3)) = 0 then iI (sTry g h s j p) else iI (sCmp g h s j p)) + 100).toInt64) ((0 : Int32).toNatClampNeg) = ((if xs (i + 3) = 0 then iI (sTry g h s j p) else iI (sCmp g h s j p)) + 100).toInt64 from if_pos rfl)) ?_
      refine k_iload (q := 1281) C 0 dL_law_1279 rfl rfl ?_
      refine k_i2l (q := 1282) C dL_law_1281 rfl ?_
      refine k_lcmp (q := 1283) C dL_law_1282 rfl ?_
      refine k_st (st2 := (.int 0 :: _)) (congrArg (fun z => Value.int z :: _) (show lg_cmp (((if xs (i + 3) = 0 then iI (sTry g h s j p) else iI (sCmp g h s j p)) + 100).toInt64) (((if xs (i + 3) = 0 then iI (sTry g h s j p) else iI (sCmp g h s j p)) + 100).toInt64) = 0 from lcmp_0 _)) ?_
      refine k_if_eq (tgt := 1288) (q := 1286) C dL_law_1283 (by decide) rfl ?_ ?_
      · intro c_1283
        refine k_goto (q := 1415) C dL_law_1288 (by decide) ?_
        refine k_fr (fr2 := [(4, .int (nI i)), (3, .ref ob), (2, .ref (aM 0)), (1, .ref (b 0)), (0, .ref sb)]) ⟨[2, 3, 4, 5, 6], rfl⟩ ?_
        exact E nx sn ln S ik bf kd hg nu dg ng tk ((n, lit, h, t, s, g, kn, lo, lf, nm) : CK) (vp_updL ou 0 ((if (xs (i + 3)) = 0 then iI (sTry g h s j p) else iI (sCmp g h s j p)) + 100).toInt64) 0 smM lnM ptM sgM fiM seM ((nM, oM, hM, tM, sM, gM, knM, loM, lfM, nmM) : SK) svM slM ikM bfM coM goM foM (hgR)
      · exact fun c_1283 => absurd c_1283 (by decide)
  · exact fun c_1266 => absurd c_1266 (by decide)
set_option maxHeartbeats 4000000 in
set_option maxRecDepth 100000 in
theorem lw_nearest_e2 (cy : Nat → ClassId) (a : Nat → Nat) (b : Nat → Nat) (r : Nat) (nx : Nat) (sn : Nat) (ln : Nat) (sk : Nat → Nat → Nat) (S : Nat → CK) (ik : Nat → Int32) (bf : Nat → Nat) (kd : Nat) (hg : Nat) (nu : Nat) (dg : Nat) (ng : Bool) (tk : Bool) (n : Nat) (lit : Int32) (h : Nat → Int32) (t : Nat → Int32) (s : Nat → Int32) (g : Nat → Int32) (kn : Nat) (lo : Int32) (lf : Int32) (nm : Nat → Int32) (ob : Nat) (ou : Nat → Int64) (aM : Nat → Nat) (thM : Int32) (smM : Nat) (lnM : Nat) (ptM : Nat) (sgM : Nat) (fiM : Int32) (seM : Int32) (nM : Nat) (oM : Nat → Int32) (hM : Nat → Int32) (tM : Nat → Int32) (sM : Nat → Int32) (gM : Nat → Int32) (knM : Nat) (loM : Int32) (lfM : Int32) (nmM : Nat → Int32) (svM : Nat → Int32) (slM : Nat → Int32) (ikM : Nat → Int32) (bfM : Nat → Nat) (coM : Nat → Int32) (goM : Nat → Int32) (foM : Nat → Int32) (j : Nat) (p : Nat) (X : kX) (hR : xR X = room_1) (C : kC X 9 RL cL_law wsL_law cy) (Z : kZ (xA X) (xS X) (xS X).heap) (hst : (xL X).stackTraces = false) (sb i L ce sl : Nat) (xs : Nat → Int32) (hX : va_X sb L xs (xS X) (xS X).heap) (hbl : sb < (xS X).heap.size) (hbA : ¬ (xA X) sb) (hL : L ≤ 2048) (hi : i + 4 ≤ L) (hce : ce + 1 ≤ 620303 ∧ sl + 6 ≤ 7235195) (E : lwE X cy a b r sk ob aM sb i ce sl) (hgR : gR nx sn ln ik bf ((n, lit, h, t, s, g, kn, lo, lf, nm) : CK) S smM lnM ((nM, oM, hM, tM, sM, gM, knM, loM, lfM, nmM) : SK) svM slM ikM bfM) (hj : j < 2) (hp : p < nM) (hx1 : xs (i + 1) = nI j) (hx2 : xs (i + 2) = nI p) (hz : ¬ (xs (i + 3) = 0 ∨ xs (i + 3) = 1)) : kG X 9 ce sl (([(ob, .inl (cy 4, 1, .inr (.inl ou)))] ++ ((wXo b cy (a 0) r nx sn ln (svOf sk) (kpOf sk) ik bf ++ wRd r kd hg nu dg ng tk) ++ (wSky a cy n lit h t s g kn lo lf nm ++ wOth sk cy S))) ++ (wM aM cy thM smM lnM ptM sgM fiM seM (mSt nM oM hM tM sM gM knM loM lfM nmM) svM slM ikM bfM coM goM foM)) 1211 [(4, .int (nI i)), (3, .ref ob), (2, .ref (aM 0)), (1, .ref (b 0)), (0, .ref sb)] [] := by
  obtain ⟨hr, hsn, hri, hke, hln, hl60, hbf, hb126⟩ := id hgR
  have hnx := hri.2.1
  have hsm := hri.1
  have hn := hr.1.1
  have en : n = nM := hr.2.1
  have el : lit = mLit oM := hr.2.2.1
  have hH := hr.2.2.2.1
  have hT := hr.2.2.2.2.1
  have hS := hr.2.2.2.2.2.1
  have hG := hr.2.2.2.2.2.2.1
  have ekn : kn = knM := hr.2.2.2.2.2.2.2.1
  have ho := hr.1.2.1
  have hs0 := hr.1.2.2.1
  have hs1 := hr.1.2.2.2.1
  have hk8 := hr.1.2.2.2.2.1
  have hn6 : n ≤ 6 := by rw [en]; exact hn
  have hkn8 : kn ≤ 8 := by rw [ekn]; exact hk8
  have hsn6 : sn ≤ 6 := by omega
  refine k_aload_n (q := 1212) C 3 dL_law_1211 rfl rfl ?_
  refine k_aload_n (q := 1213) C 4 dL_law_1212 rfl rfl ?_
  refine k_iload (q := 1215) C 0 dL_law_1213 rfl rfl ?_
  refine k_iconst (q := 1216) (v := 1) C dL_law_1215 (by decide) rfl ?_
  refine k_iadd (q := 1217) C dL_law_1216 rfl ?_
  refine k_st (st2 := (.int (nI (i + 1)) :: _)) (congrArg (fun z => Value.int z :: _) (show (nI i) + 1 = nI (i + 1) from nI_add i 1)) ?_
  refine k_sld (q := 1218) C hX hbl hbA (vp_in_nI (n := i + 1) (by omega) (by omega)) dL_law_1217 rfl ?_
  refine k_st (st2 := (.int (xs (i + 1)) :: _)) (congrArg (fun z => Value.int z :: _) (show xs (nI (i + 1)).toNatClampNeg = xs (i + 1) from congrArg xs (nI_clamp (n := i + 1) (by omega)))) ?_
  refine k_st (st2 := (.int (nI j) :: _)) (congrArg (fun z => Value.int z :: _) (show xs (i + 1) = nI j from hx1)) ?_
  refine k_aload_n (q := 1219) C 4 dL_law_1218 rfl rfl ?_
  refine k_iload (q := 1221) C 0 dL_law_1219 rfl rfl ?_
  refine k_iconst (q := 1222) (v := 2) C dL_law_1221 (by decide) rfl ?_
  refine k_iadd (q := 1223) C dL_law_1222 rfl ?_
  refine k_st (st2 := (.int (nI (i + 2)) :: _)) (congrArg (fun z => Value.int z :: _) (show (nI i) + 2 = nI (i + 2) from nI_add i 2)) ?_
  refine k_sld (q := 1224) C hX hbl hbA (vp_in_nI (n := i + 2) (by omega) (by omega)) dL_law_1223 rfl ?_
  refine k_st (st2 := (.int (xs (i + 2)) :: _)) (congrArg (fun z => Value.int z :: _) (show xs (nI (i + 2)).toNatClampNeg = xs (i + 2) from congrArg xs (nI_clamp (n := i + 2) (by omega)))) ?_
  refine k_st (st2 := (.int (nI p) :: _)) (congrArg (fun z => Value.int z :: _) (show xs (i + 2) = nI p from hx2)) ?_
  refine k_aload_n (q := 1225) C 4 dL_law_1224 rfl rfl ?_
  refine k_iload (q := 1227) C 0 dL_law_1225 rfl rfl ?_
  refine k_iconst (q := 1228) (v := 3) C dL_law_1227 (by decide) rfl ?_
  refine k_iadd (q := 1229) C dL_law_1228 rfl ?_
  refine k_st (st2 := (.int (nI (i + 3)) :: _)) (congrArg (fun z => Value.int z :: _) (show (nI i) + 3 = nI (i + 3) from nI_add i 3)) ?_
  refine k_sld (q := 1230) C hX hbl hbA (vp_in_nI (n := i + 3) (by omega) (by omega)) dL_law_1229 rfl ?_
  refine k_st (st2 := (.int (xs (i + 3)) :: _)) (congrArg (fun z => Value.int z :: _) (show xs (nI (i + 3)).toNatClampNeg = xs (i + 3) from congrArg xs (nI_clamp (n := i + 3) (by omega)))) ?_
  refine k_aload_n (q := 1231) C 1 dL_law_1230 rfl rfl ?_
  refine k_callSL (n := 5) (q := 1234) (pre := ([] : va_W)) (post := (wM aM cy thM smM lnM ptM sgM fiM seM (mSt nM oM hM tM sM gM knM loM lfM nmM) svM slM ikM bfM coM goM foM)) (w2 := (([(ob, .inl (cy 4, 1, .inr (.inl ou)))] ++ ((wXo b cy (a 0) r nx sn ln (svOf sk) (kpOf sk) ik bf ++ wRd r kd hg nu dg ng tk) ++ (wSky a cy n lit h t s g kn lo lf nm ++ wOth sk cy S))) ++ (wM aM cy thM smM lnM ptM sgM fiM seM (mSt nM oM hM tM sM gM knM loM lfM nmM) svM slM ikM bfM coM goM foM))) (As := [.ref (b 0), .int (nI j), .int (nI p), .int (xs (i + 3)), .ref ob]) (rest := []) C Z hst (c_L_nearest_e2 cy a b r nx sn ln sk S ik bf kd hg nu dg ng tk n lit h t s g kn lo lf nm ob ou j p (xs (i + 3)) hn6 hj (by omega) hz) gL_law_L_nearest rfl rfl rfl (by decide +kernel) (k_room hR (by decide)) (k_le hR (by omega)) rfl rfl (Nat.le_of_ble_eq_true rfl) (rfl) (rfl) dL_law_1231 rfl ?_
  refine k_istore (q := 1236) (fr2 := [(5, .int 2), (4, .int (nI i)), (3, .ref ob), (2, .ref (aM 0)), (1, .ref (b 0)), (0, .ref sb)]) C dL_law_1234 (by decide) rfl rfl ?_
  refine k_aload_n (q := 1237) C 3 dL_law_1236 rfl rfl ?_
  refine k_aload_n (q := 1238) C 5 dL_law_1237 rfl rfl ?_
  refine k_iload (q := 1240) C 1 dL_law_1238 rfl rfl ?_
  refine k_iconst (q := 1241) (v := 1) C dL_law_1240 (by decide) rfl ?_
  refine k_iadd (q := 1242) C dL_law_1241 rfl ?_
  refine k_st (st2 := (.int (nI (i + 1)) :: _)) (congrArg (fun z => Value.int z :: _) (show (nI i) + 1 = nI (i + 1) from nI_add i 1)) ?_
  refine k_sld (q := 1243) C hX hbl hbA (vp_in_nI (n := i + 1) (by omega) (by omega)) dL_law_1242 rfl ?_
  refine k_st (st2 := (.int (xs (i + 1)) :: _)) (congrArg (fun z => Value.int z :: _) (show xs (nI (i + 1)).toNatClampNeg = xs (i + 1) from congrArg xs (nI_clamp (n := i + 1) (by omega)))) ?_
  refine k_st (st2 := (.int (nI j) :: _)) (congrArg (fun z => Value.int z :: _) (show xs (i + 1) = nI j from hx1)) ?_
  refine k_aload_n (q := 1244) C 5 dL_law_1243 rfl rfl ?_
  refine k_iload (q := 1246) C 1 dL_law_1244 rfl rfl ?_
  refine k_iconst (q := 1247) (v := 2) C dL_law_1246 (by decide) rfl ?_
  refine k_iadd (q := 1248) C dL_law_1247 rfl ?_
  refine k_st (st2 := (.int (nI (i + 2)) :: _)) (congrArg (fun z => Value.int z :: _) (show (nI i) + 2 = nI (i + 2) from nI_add i 2)) ?_
  refine k_sld (q := 1249) C hX hbl hbA (vp_in_nI (n := i + 2) (by omega) (by omega)) dL_law_1248 rfl ?_
  refine k_st (st2 := (.int (xs (i + 2)) :: _)) (congrArg (fun z => Value.int z :: _) (show xs (nI (i + 2)).toNatClampNeg = xs (i + 2) from congrArg xs (nI_clamp (n := i + 2) (by omega)))) ?_
  refine k_st (st2 := (.int (nI p) :: _)) (congrArg (fun z => Value.int z :: _) (show xs (i + 2) = nI p from hx2)) ?_
  refine k_aload_n (q := 1250) C 5 dL_law_1249 rfl rfl ?_
  refine k_iload (q := 1252) C 1 dL_law_1250 rfl rfl ?_
  refine k_iconst (q := 1253) (v := 3) C dL_law_1252 (by decide) rfl ?_
  refine k_iadd (q := 1254) C dL_law_1253 rfl ?_
  refine k_st (st2 := (.int (nI (i + 3)) :: _)) (congrArg (fun z => Value.int z :: _) (show (nI i) + 3 = nI (i + 3) from nI_add i 3)) ?_
  refine k_sld (q := 1255) C hX hbl hbA (vp_in_nI (n := i + 3) (by omega) (by omega)) dL_law_1254 rfl ?_
  refine k_st (st2 := (.int (xs (i + 3)) :: _)) (congrArg (fun z => Value.int z :: _) (show xs (nI (i + 3)).toNatClampNeg = xs (i + 3) from congrArg xs (nI_clamp (n := i + 3) (by omega)))) ?_
  refine k_callVI (n := 3) (q := 1258) (pre := ([(ob, .inl (cy 4, 1, .inr (.inl ou)))] ++ ((wXo b cy (a 0) r nx sn ln (svOf sk) (kpOf sk) ik bf ++ wRd r kd hg nu dg ng tk) ++ (wSky a cy n lit h t s g kn lo lf nm ++ wOth sk cy S)))) (post := ([] : va_W)) (w2 := (([(ob, .inl (cy 4, 1, .inr (.inl ou)))] ++ ((wXo b cy (a 0) r nx sn ln (svOf sk) (kpOf sk) ik bf ++ wRd r kd hg nu dg ng tk) ++ (wSky a cy n lit h t s g kn lo lf nm ++ wOth sk cy S))) ++ (wM aM cy 2 smM lnM ptM sgM fiM seM (mSt nM oM hM tM sM gM knM loM lfM nmM) svM slM ikM bfM coM goM foM))) (As := [.int (nI j), .int (nI p), .int (xs (i + 3))]) (rest := []) C (c_X4_nearest_e2 cy aM thM smM lnM ptM sgM fiM seM nM oM hM tM sM gM knM loM lfM nmM svM slM ikM bfM coM goM foM j p (xs (i + 3)) hn hj hp (fun q => hz (z01 q))) gL_law_X4_nearest rfl rfl rfl (by decide +kernel) (k_room hR (by decide)) (k_le hR (by omega)) (ci := 4) rfl 0 rfl rfl rfl (Nat.le_of_ble_eq_true rfl) (k_pre) (k_pre.symm) dL_law_1255 rfl ?_
  refine k_istore (q := 1260) (fr2 := [(6, .int 0), (5, .int 2), (4, .int (nI i)), (3, .ref ob), (2, .ref (aM 0)), (1, .ref (b 0)), (0, .ref sb)]) C dL_law_1258 (by decide) rfl rfl ?_
  refine k_aload_n (q := 1261) C 4 dL_law_1260 rfl rfl ?_
  refine k_callVI (n := 0) (q := 1264) (pre := ([(ob, .inl (cy 4, 1, .inr (.inl ou)))] ++ ((wXo b cy (a 0) r nx sn ln (svOf sk) (kpOf sk) ik bf ++ wRd r kd hg nu dg ng tk) ++ (wSky a cy n lit h t s g kn lo lf nm ++ wOth sk cy S)))) (post := ([] : va_W)) (w2 := (([(ob, .inl (cy 4, 1, .inr (.inl ou)))] ++ ((wXo b cy (a 0) r nx sn ln (svOf sk) (kpOf sk) ik bf ++ wRd r kd hg nu dg ng tk) ++ (wSky a cy n lit h t s g kn lo lf nm ++ wOth sk cy S))) ++ (wM aM cy 2 smM lnM ptM sgM fiM seM (mSt nM oM hM tM sM gM knM loM lfM nmM) svM slM ikM bfM coM goM foM))) (As := []) (rest := []) C (c_X4_thrown cy aM 2 smM lnM ptM sgM fiM seM nM oM hM tM sM gM knM loM lfM nmM svM slM ikM bfM coM goM foM) gL_law_X4_thrown rfl rfl rfl (by decide +kernel) (k_room hR (by decide)) (k_le hR (by omega)) (ci := 4) rfl 0 rfl rfl rfl (Nat.le_of_ble_eq_true rfl) (k_pre) (k_pre.symm) dL_law_1261 rfl ?_
  refine k_iload (q := 1266) C 1 dL_law_1264 rfl rfl ?_
  refine k_icmp_eq (tgt := 1271) (q := 1269) C dL_law_1266 (by decide) rfl ?_ ?_
  · intro c_1266
    refine k_iload (q := 1273) C 1 dL_law_1271 rfl rfl ?_
    refine k_if_ne (tgt := 1288) (q := 1276) C dL_law_1273 (by decide) rfl ?_ ?_
    · intro c_1273
      refine k_goto (q := 1415) C dL_law_1288 (by decide) ?_
      refine k_fr (fr2 := [(4, .int (nI i)), (3, .ref ob), (2, .ref (aM 0)), (1, .ref (b 0)), (0, .ref sb)]) ⟨[2, 3, 4, 5, 6], rfl⟩ ?_
      exact E nx sn ln S ik bf kd hg nu dg ng tk ((n, lit, h, t, s, g, kn, lo, lf, nm) : CK) ou 2 smM lnM ptM sgM fiM seM ((nM, oM, hM, tM, sM, gM, knM, loM, lfM, nmM) : SK) svM slM ikM bfM coM goM foM (hgR)
    · exact fun c_1273 => absurd c_1273 (by decide)
  · exact fun c_1266 => absurd c_1266 (by decide)
set_option maxHeartbeats 4000000 in
set_option maxRecDepth 100000 in
theorem lw_ifScanned (cy : Nat → ClassId) (a : Nat → Nat) (b : Nat → Nat) (r : Nat) (nx : Nat) (sn : Nat) (ln : Nat) (sk : Nat → Nat → Nat) (S : Nat → CK) (ik : Nat → Int32) (bf : Nat → Nat) (kd : Nat) (hg : Nat) (nu : Nat) (dg : Nat) (ng : Bool) (tk : Bool) (n : Nat) (lit : Int32) (h : Nat → Int32) (t : Nat → Int32) (s : Nat → Int32) (g : Nat → Int32) (kn : Nat) (lo : Int32) (lf : Int32) (nm : Nat → Int32) (ob : Nat) (ou : Nat → Int64) (aM : Nat → Nat) (thM : Int32) (smM : Nat) (lnM : Nat) (ptM : Nat) (sgM : Nat) (fiM : Int32) (seM : Int32) (nM : Nat) (oM : Nat → Int32) (hM : Nat → Int32) (tM : Nat → Int32) (sM : Nat → Int32) (gM : Nat → Int32) (knM : Nat) (loM : Int32) (lfM : Int32) (nmM : Nat → Int32) (svM : Nat → Int32) (slM : Nat → Int32) (ikM : Nat → Int32) (bfM : Nat → Nat) (coM : Nat → Int32) (goM : Nat → Int32) (foM : Nat → Int32) (j : Nat) (w : Nat) (X : kX) (hR : xR X = room_1) (C : kC X 9 RL cL_law wsL_law cy) (Z : kZ (xA X) (xS X) (xS X).heap) (hst : (xL X).stackTraces = false) (sb i L ce sl : Nat) (xs : Nat → Int32) (hX : va_X sb L xs (xS X) (xS X).heap) (hbl : sb < (xS X).heap.size) (hbA : ¬ (xA X) sb) (hL : L ≤ 2048) (hi : i + 4 ≤ L) (hce : ce + 1 ≤ 620303 ∧ sl + 6 ≤ 7235195) (E : lwE X cy a b r sk ob aM sb i ce sl) (hgR : gR nx sn ln ik bf ((n, lit, h, t, s, g, kn, lo, lf, nm) : CK) S smM lnM ((nM, oM, hM, tM, sM, gM, knM, loM, lfM, nmM) : SK) svM slM ikM bfM) (hj : j < 2) (hw : w ≤ 3) (hx1 : xs (i + 1) = nI j) (hx2 : xs (i + 2) = nI w) : kG X 9 ce sl (([(ob, .inl (cy 4, 1, .inr (.inl ou)))] ++ ((wXo b cy (a 0) r nx sn ln (svOf sk) (kpOf sk) ik bf ++ wRd r kd hg nu dg ng tk) ++ (wSky a cy n lit h t s g kn lo lf nm ++ wOth sk cy S))) ++ (wM aM cy thM smM lnM ptM sgM fiM seM (mSt nM oM hM tM sM gM knM loM lfM nmM) svM slM ikM bfM coM goM foM)) 1291 [(4, .int (nI i)), (3, .ref ob), (2, .ref (aM 0)), (1, .ref (b 0)), (0, .ref sb)] [] := by
  obtain ⟨hr, hsn, hri, hke, hln, hl60, hbf, hb126⟩ := id hgR
  have hnx := hri.2.1
  have hsm := hri.1
  have hn := hr.1.1
  have en : n = nM := hr.2.1
  have el : lit = mLit oM := hr.2.2.1
  have hH := hr.2.2.2.1
  have hT := hr.2.2.2.2.1
  have hS := hr.2.2.2.2.2.1
  have hG := hr.2.2.2.2.2.2.1
  have ekn : kn = knM := hr.2.2.2.2.2.2.2.1
  have ho := hr.1.2.1
  have hs0 := hr.1.2.2.1
  have hs1 := hr.1.2.2.2.1
  have hk8 := hr.1.2.2.2.2.1
  have hn6 : n ≤ 6 := by rw [en]; exact hn
  have hkn8 : kn ≤ 8 := by rw [ekn]; exact hk8
  have hsn6 : sn ≤ 6 := by omega
  have hq5 : mWv (mWs (mIs oM hM tM sM gM nM j) (mF3 oM hM tM sM gM nM j) 61) w = if w < 2 then nI (sCnt (fun k => sWith lit h t s g n j (decide (w = 1)) (-30 + (k : Int))) 61) else sOut lit h t s g n j (decide (w = 3)) := by
    rw [← ws_all hw hj hn hs0 hs1 hr.1.2.2.2.2.2.2.2.1 hr.1.2.2.2.2.2.2.2.2.2.2, el, en, cg_Out hn hH hT hS hG, cg_Cnt (fun k _ => cg_With hn hH hT hS hG)]
  refine k_aload_n (q := 1292) C 3 dL_law_1291 rfl rfl ?_
  refine k_aload_n (q := 1293) C 4 dL_law_1292 rfl rfl ?_
  refine k_iload (q := 1295) C 0 dL_law_1293 rfl rfl ?_
  refine k_iconst (q := 1296) (v := 1) C dL_law_1295 (by decide) rfl ?_
  refine k_iadd (q := 1297) C dL_law_1296 rfl ?_
  refine k_st (st2 := (.int (nI (i + 1)) :: _)) (congrArg (fun z => Value.int z :: _) (show (nI i) + 1 = nI (i + 1) from nI_add i 1)) ?_
  refine k_sld (q := 1298) C hX hbl hbA (vp_in_nI (n := i + 1) (by omega) (by omega)) dL_law_1297 rfl ?_
  refine k_st (st2 := (.int (xs (i + 1)) :: _)) (congrArg (fun z => Value.int z :: _) (show xs (nI (i + 1)).toNatClampNeg = xs (i + 1) from congrArg xs (nI_clamp (n := i + 1) (by omega)))) ?_
  refine k_st (st2 := (.int (nI j) :: _)) (congrArg (fun z => Value.int z :: _) (show xs (i + 1) = nI j from hx1)) ?_
  refine k_aload_n (q := 1299) C 4 dL_law_1298 rfl rfl ?_
  refine k_iload (q := 1301) C 0 dL_law_1299 rfl rfl ?_
  refine k_iconst (q := 1302) (v := 2) C dL_law_1301 (by decide) rfl ?_
  refine k_iadd (q := 1303) C dL_law_1302 rfl ?_
  refine k_st (st2 := (.int (nI (i + 2)) :: _)) (congrArg (fun z => Value.int z :: _) (show (nI i) + 2 = nI (i + 2) from nI_add i 2)) ?_
  refine k_sld (q := 1304) C hX hbl hbA (vp_in_nI (n := i + 2) (by omega) (by omega)) dL_law_1303 rfl ?_
  refine k_st (st2 := (.int (xs (i + 2)) :: _)) (congrArg (fun z => Value.int z :: _) (show xs (nI (i + 2)).toNatClampNeg = xs (i + 2) from congrArg xs (nI_clamp (n := i + 2) (by omega)))) ?_
  refine k_st (st2 := (.int (nI w) :: _)) (congrArg (fun z => Value.int z :: _) (show xs (i + 2) = nI w from hx2)) ?_
  refine k_aload_n (q := 1305) C 1 dL_law_1304 rfl rfl ?_
  refine k_callSL (n := 4) (q := 1308) (pre := ([] : va_W)) (post := (wM aM cy thM smM lnM ptM sgM fiM seM (mSt nM oM hM tM sM gM knM loM lfM nmM) svM slM ikM bfM coM goM foM)) (w2 := (([(ob, .inl (cy 4, 1, .inr (.inl (vp_updL ou 0 (if w < 2 then nI (sCnt (fun k => sWith lit h t s g n j (decide (w = 1)) (-30 + (k : Int))) 61) else sOut lit h t s g n j (decide (w = 3))).toInt64))))] ++ ((wXo b cy (a 0) r nx sn ln (svOf sk) (kpOf sk) ik bf ++ wRd r kd hg nu dg ng tk) ++ (wSky a cy n lit h t s g kn lo lf nm ++ wOth sk cy S))) ++ (wM aM cy thM smM lnM ptM sgM fiM seM (mSt nM oM hM tM sM gM knM loM lfM nmM) svM slM ikM bfM coM goM foM))) (As := [.ref (b 0), .int (nI j), .int (nI w), .ref ob]) (rest := []) C Z hst (c_L_ifScanned cy a b r nx sn ln sk S ik bf kd hg nu dg ng tk n lit h t s g kn lo lf nm ob ou j w hn6 hj hw) gL_law_L_ifScanned rfl rfl rfl (by decide +kernel) (k_room hR (by decide)) (k_le hR (by omega)) rfl rfl (Nat.le_of_ble_eq_true rfl) (rfl) (rfl) dL_law_1305 rfl ?_
  refine k_istore (q := 1310) (fr2 := [(5, .int 0), (4, .int (nI i)), (3, .ref ob), (2, .ref (aM 0)), (1, .ref (b 0)), (0, .ref sb)]) C dL_law_1308 (by decide) rfl rfl ?_
  refine k_aload_n (q := 1311) C 3 dL_law_1310 rfl rfl ?_
  refine k_aload_n (q := 1312) C 5 dL_law_1311 rfl rfl ?_
  refine k_iload (q := 1314) C 1 dL_law_1312 rfl rfl ?_
  refine k_iconst (q := 1315) (v := 1) C dL_law_1314 (by decide) rfl ?_
  refine k_iadd (q := 1316) C dL_law_1315 rfl ?_
  refine k_st (st2 := (.int (nI (i + 1)) :: _)) (congrArg (fun z => Value.int z :: _) (show (nI i) + 1 = nI (i + 1) from nI_add i 1)) ?_
  refine k_sld (q := 1317) C hX hbl hbA (vp_in_nI (n := i + 1) (by omega) (by omega)) dL_law_1316 rfl ?_
  refine k_st (st2 := (.int (xs (i + 1)) :: _)) (congrArg (fun z => Value.int z :: _) (show xs (nI (i + 1)).toNatClampNeg = xs (i + 1) from congrArg xs (nI_clamp (n := i + 1) (by omega)))) ?_
  refine k_st (st2 := (.int (nI j) :: _)) (congrArg (fun z => Value.int z :: _) (show xs (i + 1) = nI j from hx1)) ?_
  refine k_aload_n (q := 1318) C 5 dL_law_1317 rfl rfl ?_
  refine k_iload (q := 1320) C 1 dL_law_1318 rfl rfl ?_
  refine k_iconst (q := 1321) (v := 2) C dL_law_1320 (by decide) rfl ?_
  refine k_iadd (q := 1322) C dL_law_1321 rfl ?_
  refine k_st (st2 := (.int (nI (i + 2)) :: _)) (congrArg (fun z => Value.int z :: _) (show (nI i) + 2 = nI (i + 2) from nI_add i 2)) ?_
  refine k_sld (q := 1323) C hX hbl hbA (vp_in_nI (n := i + 2) (by omega) (by omega)) dL_law_1322 rfl ?_
  refine k_st (st2 := (.int (xs (i + 2)) :: _)) (congrArg (fun z => Value.int z :: _) (show xs (nI (i + 2)).toNatClampNeg = xs (i + 2) from congrArg xs (nI_clamp (n := i + 2) (by omega)))) ?_
  refine k_st (st2 := (.int (nI w) :: _)) (congrArg (fun z => Value.int z :: _) (show xs (i + 2) = nI w from hx2)) ?_
  refine k_callVIx (n := 2) (q := 1326) (pre := ([(ob, .inl (cy 4, 1, .inr (.inl (vp_updL ou 0 (if w < 2 then nI (sCnt (fun k => sWith lit h t s g n j (decide (w = 1)) (-30 + (k : Int))) 61) else sOut lit h t s g n j (decide (w = 3))).toInt64))))] ++ ((wXo b cy (a 0) r nx sn ln (svOf sk) (kpOf sk) ik bf ++ wRd r kd hg nu dg ng tk) ++ (wSky a cy n lit h t s g kn lo lf nm ++ wOth sk cy S)))) (post := ([] : va_W)) (w2 := (fun u => (([(ob, .inl (cy 4, 1, .inr (.inl (vp_updL ou 0 (if w < 2 then nI (sCnt (fun k => sWith lit h t s g n j (decide (w = 1)) (-30 + (k : Int))) 61) else sOut lit h t s g n j (decide (w = 3))).toInt64))))] ++ ((wXo b cy (a 0) r nx sn ln (svOf sk) (kpOf sk) ik bf ++ wRd r kd hg nu dg ng tk) ++ (wSky a cy n lit h t s g kn lo lf nm ++ wOth sk cy S))) ++ (wM aM cy 0 smM lnM ptM sgM fiM seM (mSt nM oM hM tM sM gM knM loM lfM nmM) svM slM ikM bfM (u.1) (u.2.1) (u.2.2))))) (As := [.int (nI j), .int (nI w)]) (rest := []) C (c_X4_ifScanned cy aM thM smM lnM ptM sgM fiM seM nM oM hM tM sM gM knM loM lfM nmM svM slM ikM bfM coM goM foM j w hj hw hn ho hs0 hs1) gL_law_X4_ifScanned rfl rfl rfl (by decide +kernel) (k_room hR (by decide)) (k_le hR (by omega)) (ci := 4) rfl 0 rfl rfl rfl (Nat.le_of_ble_eq_true rfl) (k_pre) (fun u => k_pre.symm) dL_law_1323 rfl ?_
  rintro ⟨co_1323, go_1323, fo_1323⟩ h_1323
  try dsimp only at h_1323
  refine k_st (st2 := (.int (if w < 2 then nI (sCnt (fun k => sWith lit h t s g n j (decide (w = 1)) (-30 + (k : Int))) 61) else sOut lit h t s g n j (decide (w = 3))) :: _)) (congrArg (fun z => Value.int z :: _) (show mWv (mWs (mIs oM hM tM sM gM nM j) (mF3 oM hM tM sM gM nM j) 61) w = if w < 2 then nI (sCnt (fun k => sWith lit h t s g n j (decide (w = 1)) (-30 + (k : Int))) 61) else sOut lit h t s g n j (decide (w = 3)) from hq5)) ?_
  refine k_istore (q := 1328) (fr2 := [(6, .int (if w < 2 then nI (sCnt (fun k => sWith lit h t s g n j (decide (w = 1)) (-30 + (k : Int))) 61) else sOut lit h t s g n j (decide (w = 3)))), (5, .int 0), (4, .int (nI i)), (3, .ref ob), (2, .ref (aM 0)), (1, .ref (b 0)), (0, .ref sb)]) C dL_law_1326 (by decide) rfl rfl ?_
  refine k_aload_n (q := 1329) C 4 dL_law_1328 rfl rfl ?_
  refine k_callVI (n := 0) (q := 1332) (pre := ([(ob, .inl (cy 4, 1, .inr (.inl (vp_updL ou 0 (if w < 2 then nI (sCnt (fun k => sWith lit h t s g n j (decide (w = 1)) (-30 + (k : Int))) 61) else sOut lit h t s g n j (decide (w = 3))).toInt64))))] ++ ((wXo b cy (a 0) r nx sn ln (svOf sk) (kpOf sk) ik bf ++ wRd r kd hg nu dg ng tk) ++ (wSky a cy n lit h t s g kn lo lf nm ++ wOth sk cy S)))) (post := ([] : va_W)) (w2 := (([(ob, .inl (cy 4, 1, .inr (.inl (vp_updL ou 0 (if w < 2 then nI (sCnt (fun k => sWith lit h t s g n j (decide (w = 1)) (-30 + (k : Int))) 61) else sOut lit h t s g n j (decide (w = 3))).toInt64))))] ++ ((wXo b cy (a 0) r nx sn ln (svOf sk) (kpOf sk) ik bf ++ wRd r kd hg nu dg ng tk) ++ (wSky a cy n lit h t s g kn lo lf nm ++ wOth sk cy S))) ++ (wM aM cy 0 smM lnM ptM sgM fiM seM (mSt nM oM hM tM sM gM knM loM lfM nmM) svM slM ikM bfM co_1323 go_1323 fo_1323))) (As := []) (rest := []) C (c_X4_thrown cy aM 0 smM lnM ptM sgM fiM seM nM oM hM tM sM gM knM loM lfM nmM svM slM ikM bfM co_1323 go_1323 fo_1323) gL_law_X4_thrown rfl rfl rfl (by decide +kernel) (k_room hR (by decide)) (k_le hR (by omega)) (ci := 4) rfl 0 rfl rfl rfl (Nat.le_of_ble_eq_true rfl) (k_pre) (k_pre.symm) dL_law_1329 rfl ?_
  refine k_iload (q := 1334) C 1 dL_law_1332 rfl rfl ?_
  refine k_icmp_eq (tgt := 1339) (q := 1337) C dL_law_1334 (by decide) rfl ?_ ?_
  · intro c_1334
    refine k_iload (q := 1341) C 1 dL_law_1339 rfl rfl ?_
    refine k_if_ne (tgt := 1356) (q := 1344) C dL_law_1341 (by decide) rfl ?_ ?_
    · exact fun c_1341 => absurd c_1341 (by decide)
    · intro c_1341
      refine k_aload_n (q := 1345) C 3 dL_law_1344 rfl rfl ?_
      refine k_iconst (q := 1346) (v := 0) C dL_law_1345 (by decide) rfl ?_
      refine k_lald (q := 1347) C 0 rfl (vp_in_nI (n := 0) (by decide) (by decide)) dL_law_1346 rfl ?_
      refine k_st (st2 := (.long ((if w < 2 then nI (sCnt (fun k => sWith lit h t s g n j (decide (w = 1)) (-30 + (k : Int))) 61) else sOut lit h t s g n j (decide (w = 3))).toInt64) :: _)) (congrArg (fun z => Value.long z :: _) (show (vp_updL ou 0 (if w < 2 then nI (sCnt (fun k => sWith lit h t s g n j (decide (w = 1)) (-30 + (k : Int))) 61) else sOut lit h t s g n j (decide (w = 3))).toInt64) ((0 : Int32).toNatClampNeg) = (if w < 2 then nI (sCnt (fun k => sWith lit h t s g n j (decide (w = 1)) (-30 + (k : Int))) 61) else sOut lit h t s g n j (decide (w = 3))).toInt64 from if_pos rfl)) ?_
      refine k_iload (q := 1349) C 0 dL_law_1347 rfl rfl ?_
      refine k_i2l (q := 1350) C dL_law_1349 rfl ?_
      refine k_lcmp (q := 1351) C dL_law_1350 rfl ?_
      refine k_st (st2 := (.int 0 :: _)) (congrArg (fun z => Value.int z :: _) (show lg_cmp ((if w < 2 then nI (sCnt (fun k => sWith lit h t s g n j (decide (w = 1)) (-30 + (k : Int))) 61) else sOut lit h t s g n j (decide (w = 3))).toInt64) ((if w < 2 then nI (sCnt (fun k => sWith lit h t s g n j (decide (w = 1)) (-30 + (k : Int))) 61) else sOut lit h t s g n j (decide (w = 3))).toInt64) = 0 from lcmp_0 _)) ?_
      refine k_if_eq (tgt := 1356) (q := 1354) C dL_law_1351 (by decide) rfl ?_ ?_
      · intro c_1351
        refine k_goto (q := 1415) C dL_law_1356 (by decide) ?_
        refine k_fr (fr2 := [(4, .int (nI i)), (3, .ref ob), (2, .ref (aM 0)), (1, .ref (b 0)), (0, .ref sb)]) ⟨[2, 3, 4, 5, 6], rfl⟩ ?_
        exact E nx sn ln S ik bf kd hg nu dg ng tk ((n, lit, h, t, s, g, kn, lo, lf, nm) : CK) (vp_updL ou 0 (if w < 2 then nI (sCnt (fun k => sWith lit h t s g n j (decide (w = 1)) (-30 + (k : Int))) 61) else sOut lit h t s g n j (decide (w = 3))).toInt64) 0 smM lnM ptM sgM fiM seM ((nM, oM, hM, tM, sM, gM, knM, loM, lfM, nmM) : SK) svM slM ikM bfM co_1323 go_1323 fo_1323 (hgR)
      · exact fun c_1351 => absurd c_1351 (by decide)
  · exact fun c_1334 => absurd c_1334 (by decide)
