abbrev rm_L_isSo : Room := { frames := 8, cells := 0, slots := 0, locals := 200 }
set_option maxHeartbeats 4000000 in
set_option maxRecDepth 100000 in
theorem lp_L_isSo_543 (cy : Nat → ClassId) (e : Nat → Nat) (nM : Nat) (oM : Nat → Int32) (sM : Nat → Int32) (gM : Nat → Int32) (knM : Nat) (loM : Int32) (lfM : Int32) (hM : Nat → Int32) (tM : Nat → Int32) (lM : Nat → Int32) (bM : Nat → Int32) (rM : Nat → Int32) (a : Nat → Nat) (b : Nat → Nat) (r : Nat) (nx : Nat) (sn : Nat) (ln : Nat) (sk : Nat → Nat → Nat) (S : Nat → CK) (ik : Nat → Int32) (bf : Nat → Nat) (kd : Nat) (hg : Nat) (nu : Nat) (dg : Nat) (ng : Bool) (tk : Bool) (n : Nat) (lit : Int32) (h : Nat → Int32) (t : Nat → Int32) (s : Nat → Int32) (g : Nat → Int32) (kn : Nat) (lo : Int32) (lf : Int32) (nm : Nat → Int32) (x : Int32)  (hR0 : sRel ((n, lit, h, t, s, g, kn, lo, lf, nm) : CK) ((nM, oM, hM, tM, sM, gM, knM, loM, lfM, lM) : SK)) (hU : sUpw hM nM) (X : kX) (hR : xR X = rm_L_isSo) (C : kC X 19 RL cL_isSo wsL_isSo cy) (E : kG X 19 0 0 ((wLa e cy (qSt nM oM sM gM knM loM lfM) hM tM lM (lBm hM tM (gM 1) (lBm hM tM (nI (lHz oM hM tM gM nM)) (lBm hM tM (nI (min ((lHz oM hM tM gM nM) + 1) 1000)) (lBm hM tM 0 bM nM) nM) nM) nM) (upd (upd (upd (upd rM 0 (mRn hM nM (sMeet gM (sM 0) (sM 1)) (mC (sClose (mLit oM) hM tM sM gM) (mD hM sM gM) nM) 0)) 1 (mRn hM nM (sMeet gM (sM 0) (sM 1)) (mC (sClose (mLit oM) hM tM sM gM) (mD hM sM gM) nM) 1)) 2 (mRn hM nM (sMeet gM (sM 0) (sM 1)) (mC (sClose (mLit oM) hM tM sM gM) (mD hM sM gM) nM) 2)) 3 (mRn hM nM (sMeet gM (sM 0) (sM 1)) (mC (sClose (mLit oM) hM tM sM gM) (mD hM sM gM) nM) 3))) ++ ((wXo b cy (a 0) r nx sn ln (svOf sk) (kpOf sk) ik bf ++ wRd r kd hg nu dg ng tk) ++ (wSky a cy n lit h t s g kn lo lf nm ++ wOth sk cy S))) 613 [(12, .int 1), (16, .int (mEs lM knM)), (17, .int (nI (mEm lM knM))), (0, .ref (b 0)), (1, .int x), (2, .ref (e 0)), (3, .ref (e 1)), (4, .ref (e 2)), (5, .ref (e 3)), (6, .ref (e 4)), (7, .ref (e 5))] []) : ∀ (fu : Nat) (k : Nat), knM - k < fu → (k ≤ knM) → kG X 19 0 0 ((wLa e cy (qSt nM oM sM gM knM loM lfM) hM tM lM (lBm hM tM (gM 1) (lBm hM tM (nI (lHz oM hM tM gM nM)) (lBm hM tM (nI (min ((lHz oM hM tM gM nM) + 1) 1000)) (lBm hM tM 0 bM nM) nM) nM) nM) (upd (upd (upd (upd rM 0 (mRn hM nM (sMeet gM (sM 0) (sM 1)) (mC (sClose (mLit oM) hM tM sM gM) (mD hM sM gM) nM) 0)) 1 (mRn hM nM (sMeet gM (sM 0) (sM 1)) (mC (sClose (mLit oM) hM tM sM gM) (mD hM sM gM) nM) 1)) 2 (mRn hM nM (sMeet gM (sM 0) (sM 1)) (mC (sClose (mLit oM) hM tM sM gM) (mD hM sM gM) nM) 2)) 3 (mRn hM nM (sMeet gM (sM 0) (sM 1)) (mC (sClose (mLit oM) hM tM sM gM) (mD hM sM gM) nM) 3))) ++ ((wXo b cy (a 0) r nx sn ln (svOf sk) (kpOf sk) ik bf ++ wRd r kd hg nu dg ng tk) ++ (wSky a cy n lit h t s g kn lo lf nm ++ wOth sk cy S))) 543 [(0, .ref (b 0)), (1, .int x), (2, .ref (e 0)), (3, .ref (e 1)), (4, .ref (e 2)), (5, .ref (e 3)), (6, .ref (e 4)), (7, .ref (e 5)), (12, .int 1), (16, .int (mEs lM k)), (17, .int (nI (mEm lM k))), (18, .int (nI k))] [] := by
  intro fu
  induction fu with
  | zero => intro k hfu; exact absurd hfu (Nat.not_lt_zero _)
  | succ fu ih =>
    intro k hfu hk9
    obtain ⟨⟨hn, ho, hs0, hs1, hk, hh, ht, hg0, hg1, hg2, hg3⟩, e1, e2, eH, eT, eS, eG, eK, eLo, eLf, eN, eO⟩ := id hR0
    have hn : nM ≤ 6 := hn
    have ho : mBin oM := ho
    have hs0 : sOk (sM 0) := hs0
    have hs1 : sOk (sM 1) := hs1
    have hk : knM ≤ 8 := hk
    have hh : ∀ i, i < nM → 50 ≤ (hM i).toInt ∧ (hM i).toInt ≤ 3000 := hh
    have hg0 : 50 ≤ (gM 0).toInt ∧ (gM 0).toInt ≤ 1000 := hg0
    have hg3 : 0 ≤ (gM 3).toInt ∧ (gM 3).toInt ≤ 100 := hg3
    have e1 : n = nM := e1
    have e2 : lit = mLit oM := e2
    have eH : ∀ i, i < nM → h i = hM i := eH
    have eT : ∀ i, i < nM → t i = tM i := eT
    have eS : ∀ i, i < 2 → s i = sM i := eS
    have eG : ∀ i, i < 4 → g i = gM i := eG
    have eK : kn = knM := eK
    have eLo : lo = loM := eLo
    have eLf : lf = lfM := eLf
    have eN : ∀ i, i < 32 → nm i = lM i := eN
    have ht : ∀ i, i < nM → 1 ≤ (tM i).toInt ∧ (tM i).toInt ≤ 100 := ht
    have hg1 : 0 ≤ (gM 1).toInt ∧ (gM 1).toInt ≤ 1000 := hg1
    have hmk := mEm_le lM k
    refine k_iload (q := 545) C 11 dL_isSo_543 rfl rfl ?_
    refine k_aload_n (q := 546) C 2 dL_isSo_545 rfl rfl ?_
    refine k_bipush (q := 548) (v := 9) C dL_isSo_546 (by decide +kernel) rfl ?_
    refine k_iald (q := 549) C 0 rfl (vp_in_nI (n := 9) (by decide) (by decide)) dL_isSo_548 rfl ?_
    refine k_sti (show ((qSt nM oM sM gM knM loM lfM) (9 : Int32).toNatClampNeg : Int32) = (qSt nM oM sM gM knM loM lfM) 9 from congrArg (qSt nM oM sM gM knM loM lfM) (nI_clamp (n := 9) (by decide))) ?_
    refine k_sti (show ((qSt nM oM sM gM knM loM lfM) 9 : Int32) = nI knM from rfl) ?_
    refine k_nicmp_ge (a := k) (b := knM)  (tgt := 613) (q := 552) C dL_isSo_549 (by decide) rfl (by omega) (by omega) ?_ ?_
    · intro c_549
      obtain rfl : knM = k := by omega
      refine k_fr (fr2 := [(12, .int 1), (16, .int (mEs lM knM)), (17, .int (nI (mEm lM knM))), (0, .ref (b 0)), (1, .int x), (2, .ref (e 0)), (3, .ref (e 1)), (4, .ref (e 2)), (5, .ref (e 3)), (6, .ref (e 4)), (7, .ref (e 5))]) ⟨[8, 9, 10, 0, 1, 2, 3, 4, 5, 6, 7], rfl⟩ ?_
      exact E
    · intro c_549
      refine k_iload (q := 554) C 9 dL_isSo_552 rfl rfl ?_
      have J_554 : kG X 19 0 0 ((wLa e cy (qSt nM oM sM gM knM loM lfM) hM tM lM (lBm hM tM (gM 1) (lBm hM tM (nI (lHz oM hM tM gM nM)) (lBm hM tM (nI (min ((lHz oM hM tM gM nM) + 1) 1000)) (lBm hM tM 0 bM nM) nM) nM) nM) (upd (upd (upd (upd rM 0 (mRn hM nM (sMeet gM (sM 0) (sM 1)) (mC (sClose (mLit oM) hM tM sM gM) (mD hM sM gM) nM) 0)) 1 (mRn hM nM (sMeet gM (sM 0) (sM 1)) (mC (sClose (mLit oM) hM tM sM gM) (mD hM sM gM) nM) 1)) 2 (mRn hM nM (sMeet gM (sM 0) (sM 1)) (mC (sClose (mLit oM) hM tM sM gM) (mD hM sM gM) nM) 2)) 3 (mRn hM nM (sMeet gM (sM 0) (sM 1)) (mC (sClose (mLit oM) hM tM sM gM) (mD hM sM gM) nM) 3))) ++ ((wXo b cy (a 0) r nx sn ln (svOf sk) (kpOf sk) ik bf ++ wRd r kd hg nu dg ng tk) ++ (wSky a cy n lit h t s g kn lo lf nm ++ wOth sk cy S))) 582 [(0, .ref (b 0)), (1, .int x), (2, .ref (e 0)), (3, .ref (e 1)), (4, .ref (e 2)), (5, .ref (e 3)), (6, .ref (e 4)), (7, .ref (e 5)), (12, .int 1), (16, .int (mEs lM k)), (17, .int (nI (mEm lM k))), (18, .int (nI k))] [.int (if lM (4 * k) = -99999 then 0 else mAbs (lM (4 * k + 2))), .int (mEs lM k)] := by
        refine k_iadd (q := 583) C dL_isSo_582 rfl ?_
        refine k_istore (q := 585) (fr2 := [(16, .int ((mEs lM k) + (if lM (4 * k) = -99999 then 0 else mAbs (lM (4 * k + 2))))), (0, .ref (b 0)), (1, .int x), (2, .ref (e 0)), (3, .ref (e 1)), (4, .ref (e 2)), (5, .ref (e 3)), (6, .ref (e 4)), (7, .ref (e 5)), (12, .int 1), (17, .int (nI (mEm lM k))), (18, .int (nI k))]) C dL_isSo_583 (by decide) rfl rfl ?_
        refine k_iload (q := 587) C 10 dL_isSo_585 rfl rfl ?_
        have J_587 : kG X 19 0 0 ((wLa e cy (qSt nM oM sM gM knM loM lfM) hM tM lM (lBm hM tM (gM 1) (lBm hM tM (nI (lHz oM hM tM gM nM)) (lBm hM tM (nI (min ((lHz oM hM tM gM nM) + 1) 1000)) (lBm hM tM 0 bM nM) nM) nM) nM) (upd (upd (upd (upd rM 0 (mRn hM nM (sMeet gM (sM 0) (sM 1)) (mC (sClose (mLit oM) hM tM sM gM) (mD hM sM gM) nM) 0)) 1 (mRn hM nM (sMeet gM (sM 0) (sM 1)) (mC (sClose (mLit oM) hM tM sM gM) (mD hM sM gM) nM) 1)) 2 (mRn hM nM (sMeet gM (sM 0) (sM 1)) (mC (sClose (mLit oM) hM tM sM gM) (mD hM sM gM) nM) 2)) 3 (mRn hM nM (sMeet gM (sM 0) (sM 1)) (mC (sClose (mLit oM) hM tM sM gM) (mD hM sM gM) nM) 3))) ++ ((wXo b cy (a 0) r nx sn ln (svOf sk) (kpOf sk) ik bf ++ wRd r kd hg nu dg ng tk) ++ (wSky a cy n lit h t s g kn lo lf nm ++ wOth sk cy S))) 604 [(16, .int ((mEs lM k) + (if lM (4 * k) = -99999 then 0 else mAbs (lM (4 * k + 2))))), (0, .ref (b 0)), (1, .int x), (2, .ref (e 0)), (3, .ref (e 1)), (4, .ref (e 2)), (5, .ref (e 3)), (6, .ref (e 4)), (7, .ref (e 5)), (12, .int 1), (17, .int (nI (mEm lM k))), (18, .int (nI k))] [.int (nI (if lM (4 * k) = -99999 then 0 else 1)), .int (nI (mEm lM k))] := by
          refine k_iadd (q := 605) C dL_isSo_604 rfl ?_
          refine k_sti (show ((nI (mEm lM k)) + (nI (if lM (4 * k) = -99999 then 0 else 1)) : Int32) = nI (mEm lM k + (if lM (4 * k) = -99999 then 0 else 1)) from nI_add (mEm lM k) (if lM (4 * k) = -99999 then 0 else 1)) ?_
          refine k_istore (q := 607) (fr2 := [(17, .int (nI (mEm lM k + (if lM (4 * k) = -99999 then 0 else 1)))), (16, .int ((mEs lM k) + (if lM (4 * k) = -99999 then 0 else mAbs (lM (4 * k + 2))))), (0, .ref (b 0)), (1, .int x), (2, .ref (e 0)), (3, .ref (e 1)), (4, .ref (e 2)), (5, .ref (e 3)), (6, .ref (e 4)), (7, .ref (e 5)), (12, .int 1), (18, .int (nI k))]) C dL_isSo_605 (by decide) rfl rfl ?_
          refine k_iinc (q := 610) (v := nI (k + 1)) (fr2 := [(18, .int (nI (k + 1))), (17, .int (nI (mEm lM k + (if lM (4 * k) = -99999 then 0 else 1)))), (16, .int ((mEs lM k) + (if lM (4 * k) = -99999 then 0 else mAbs (lM (4 * k + 2))))), (0, .ref (b 0)), (1, .int x), (2, .ref (e 0)), (3, .ref (e 1)), (4, .ref (e 2)), (5, .ref (e 3)), (6, .ref (e 4)), (7, .ref (e 5)), (12, .int 1)]) C 11 dL_isSo_607 rfl (nI_add k 1) (by decide) rfl rfl ?_
          refine k_goto (q := 543) C dL_isSo_610 (by decide) ?_
          refine k_fr (fr2 := [(0, .ref (b 0)), (1, .int x), (2, .ref (e 0)), (3, .ref (e 1)), (4, .ref (e 2)), (5, .ref (e 3)), (6, .ref (e 4)), (7, .ref (e 5)), (12, .int 1), (16, .int ((mEs lM k) + (if lM (4 * k) = -99999 then 0 else mAbs (lM (4 * k + 2))))), (17, .int (nI (mEm lM k + (if lM (4 * k) = -99999 then 0 else 1)))), (18, .int (nI (k + 1)))]) ⟨[3, 4, 5, 6, 7, 8, 9, 10, 11, 2, 1, 0], rfl⟩ ?_
          exact ih (k + 1) (by omega) (by omega)
        refine k_aload (q := 589) C 6 dL_isSo_587 rfl rfl ?_
        refine k_iconst (q := 590) (v := 4) C dL_isSo_589 (by decide) rfl ?_
        refine k_iload (q := 592) C 11 dL_isSo_590 rfl rfl ?_
        refine k_imul (q := 593) C dL_isSo_592 rfl ?_
        refine k_sti (show (4 * (nI k) : Int32) = nI (4 * k) from pk_mul 4 k) ?_
        refine k_iald (q := 594) C 3 rfl (vp_in_nI (n := 4 * k) (by omega) (by decide)) dL_isSo_593 rfl ?_
        refine k_sti (show (lM (nI (4 * k)).toNatClampNeg : Int32) = lM (4 * k) from congrArg lM (nI_clamp (n := 4 * k) (by omega))) ?_
        refine k_ldc (q := 596) (v := -99999) C (List.mem_of_getElem? (i := 1) rfl) dL_isSo_594 rfl ?_
        refine k_icmp_ne (tgt := 603) (q := 599) C dL_isSo_596 (by decide) rfl ?_ ?_
        · intro c_596
          refine k_iconst (q := 604) (v := 1) C dL_isSo_603 (by decide) rfl ?_
          exact k_sti (show (1 : Int32) = nI (if lM (4 * k) = -99999 then 0 else 1) from by rw [if_neg c_596]; rfl) J_587
        · intro c_596
          refine k_iconst (q := 600) (v := 0) C dL_isSo_599 (by decide) rfl ?_
          refine k_goto (q := 604) C dL_isSo_600 (by decide) ?_
          exact k_sti (show (0 : Int32) = nI (if lM (4 * k) = -99999 then 0 else 1) from by rw [if_pos c_596]; rfl) J_587
      refine k_aload (q := 556) C 5 dL_isSo_554 rfl rfl ?_
      refine k_iconst (q := 557) (v := 4) C dL_isSo_556 (by decide) rfl ?_
      refine k_iload (q := 559) C 11 dL_isSo_557 rfl rfl ?_
      refine k_imul (q := 560) C dL_isSo_559 rfl ?_
      refine k_sti (show (4 * (nI k) : Int32) = nI (4 * k) from pk_mul 4 k) ?_
      refine k_iald (q := 561) C 3 rfl (vp_in_nI (n := 4 * k) (by omega) (by decide)) dL_isSo_560 rfl ?_
      refine k_sti (show (lM (nI (4 * k)).toNatClampNeg : Int32) = lM (4 * k) from congrArg lM (nI_clamp (n := 4 * k) (by omega))) ?_
      refine k_ldc (q := 563) (v := -99999) C (List.mem_of_getElem? (i := 1) rfl) dL_isSo_561 rfl ?_
      refine k_icmp_ne (tgt := 570) (q := 566) C dL_isSo_563 (by decide) rfl ?_ ?_
      · intro c_563
        refine k_aload (q := 572) C 5 dL_isSo_570 rfl rfl ?_
        refine k_iconst (q := 573) (v := 4) C dL_isSo_572 (by decide) rfl ?_
        refine k_iload (q := 575) C 11 dL_isSo_573 rfl rfl ?_
        refine k_imul (q := 576) C dL_isSo_575 rfl ?_
        refine k_sti (show (4 * (nI k) : Int32) = nI (4 * k) from pk_mul 4 k) ?_
        refine k_iconst (q := 577) (v := 2) C dL_isSo_576 (by decide) rfl ?_
        refine k_iadd (q := 578) C dL_isSo_577 rfl ?_
        refine k_sti (show ((nI (4 * k)) + 2 : Int32) = nI (4 * k + 2) from nI_add (4 * k) 2) ?_
        refine k_iald (q := 579) C 3 rfl (vp_in_nI (n := 4 * k + 2) (by omega) (by decide)) dL_isSo_578 rfl ?_
        refine k_sti (show (lM (nI (4 * k + 2)).toNatClampNeg : Int32) = lM (4 * k + 2) from congrArg lM (nI_clamp (n := 4 * k + 2) (by omega))) ?_
        refine k_callSI (n := 1) (q := 582) (pre := ([] : va_W)) (post := ((wLa e cy (qSt nM oM sM gM knM loM lfM) hM tM lM (lBm hM tM (gM 1) (lBm hM tM (nI (lHz oM hM tM gM nM)) (lBm hM tM (nI (min ((lHz oM hM tM gM nM) + 1) 1000)) (lBm hM tM 0 bM nM) nM) nM) nM) (upd (upd (upd (upd rM 0 (mRn hM nM (sMeet gM (sM 0) (sM 1)) (mC (sClose (mLit oM) hM tM sM gM) (mD hM sM gM) nM) 0)) 1 (mRn hM nM (sMeet gM (sM 0) (sM 1)) (mC (sClose (mLit oM) hM tM sM gM) (mD hM sM gM) nM) 1)) 2 (mRn hM nM (sMeet gM (sM 0) (sM 1)) (mC (sClose (mLit oM) hM tM sM gM) (mD hM sM gM) nM) 2)) 3 (mRn hM nM (sMeet gM (sM 0) (sM 1)) (mC (sClose (mLit oM) hM tM sM gM) (mD hM sM gM) nM) 3))) ++ ((wXo b cy (a 0) r nx sn ln (svOf sk) (kpOf sk) ik bf ++ wRd r kd hg nu dg ng tk) ++ (wSky a cy n lit h t s g kn lo lf nm ++ wOth sk cy S)))) (w2 := ((wLa e cy (qSt nM oM sM gM knM loM lfM) hM tM lM (lBm hM tM (gM 1) (lBm hM tM (nI (lHz oM hM tM gM nM)) (lBm hM tM (nI (min ((lHz oM hM tM gM nM) + 1) 1000)) (lBm hM tM 0 bM nM) nM) nM) nM) (upd (upd (upd (upd rM 0 (mRn hM nM (sMeet gM (sM 0) (sM 1)) (mC (sClose (mLit oM) hM tM sM gM) (mD hM sM gM) nM) 0)) 1 (mRn hM nM (sMeet gM (sM 0) (sM 1)) (mC (sClose (mLit oM) hM tM sM gM) (mD hM sM gM) nM) 1)) 2 (mRn hM nM (sMeet gM (sM 0) (sM 1)) (mC (sClose (mLit oM) hM tM sM gM) (mD hM sM gM) nM) 2)) 3 (mRn hM nM (sMeet gM (sM 0) (sM 1)) (mC (sClose (mLit oM) hM tM sM gM) (mD hM sM gM) nM) 3))) ++ ((wXo b cy (a 0) r nx sn ln (svOf sk) (kpOf sk) ik bf ++ wRd r kd hg nu dg ng tk) ++ (wSky a cy n lit h t s g kn lo lf nm ++ wOth sk cy S)))) (As := [.int (lM (4 * k + 2))]) (rest := [.int (mEs lM k)]) C (c_L_size (lM (4 * k + 2))) gL_isSo_L_size rfl rfl rfl (by decide +kernel) (k_room hR (by decide)) ⟨Nat.zero_le _, Nat.zero_le _⟩  rfl rfl (Nat.le_of_ble_eq_true rfl) (rfl) (rfl) dL_isSo_579 rfl ?_
        exact k_sti (show (mAbs (lM (4 * k + 2)) : Int32) = (if lM (4 * k) = -99999 then 0 else mAbs (lM (4 * k + 2))) from (if_neg c_563).symm) J_554
      · intro c_563
        refine k_iconst (q := 567) (v := 0) C dL_isSo_566 (by decide) rfl ?_
        refine k_goto (q := 582) C dL_isSo_567 (by decide) ?_
        exact k_sti (show (0 : Int32) = (if lM (4 * k) = -99999 then 0 else mAbs (lM (4 * k + 2))) from (if_pos c_563).symm) J_554
set_option maxHeartbeats 4000000 in
set_option maxRecDepth 100000 in
theorem lp_L_isSo_406 (cy : Nat → ClassId) (e : Nat → Nat) (nM : Nat) (oM : Nat → Int32) (sM : Nat → Int32) (gM : Nat → Int32) (knM : Nat) (loM : Int32) (lfM : Int32) (hM : Nat → Int32) (tM : Nat → Int32) (lM : Nat → Int32) (bM : Nat → Int32) (rM : Nat → Int32) (a : Nat → Nat) (b : Nat → Nat) (r : Nat) (nx : Nat) (sn : Nat) (ln : Nat) (sk : Nat → Nat → Nat) (S : Nat → CK) (ik : Nat → Int32) (bf : Nat → Nat) (kd : Nat) (hg : Nat) (nu : Nat) (dg : Nat) (ng : Bool) (tk : Bool) (n : Nat) (lit : Int32) (h : Nat → Int32) (t : Nat → Int32) (s : Nat → Int32) (g : Nat → Int32) (kn : Nat) (lo : Int32) (lf : Int32) (nm : Nat → Int32) (x : Int32)  (hR0 : sRel ((n, lit, h, t, s, g, kn, lo, lf, nm) : CK) ((nM, oM, hM, tM, sM, gM, knM, loM, lfM, lM) : SK)) (hU : sUpw hM nM) (X : kX) (hR : xR X = rm_L_isSo) (C : kC X 19 RL cL_isSo wsL_isSo cy) (E : kG X 19 0 0 ((wLa e cy (qSt nM oM sM gM knM loM lfM) hM tM lM (lBm hM tM (gM 1) (lBm hM tM (nI (lHz oM hM tM gM nM)) (lBm hM tM (nI (min ((lHz oM hM tM gM nM) + 1) 1000)) (lBm hM tM 0 bM nM) nM) nM) nM) (upd (upd (upd (upd rM 0 (mRn hM nM (sMeet gM (sM 0) (sM 1)) (mC (sClose (mLit oM) hM tM sM gM) (mD hM sM gM) nM) 0)) 1 (mRn hM nM (sMeet gM (sM 0) (sM 1)) (mC (sClose (mLit oM) hM tM sM gM) (mD hM sM gM) nM) 1)) 2 (mRn hM nM (sMeet gM (sM 0) (sM 1)) (mC (sClose (mLit oM) hM tM sM gM) (mD hM sM gM) nM) 2)) 3 (mRn hM nM (sMeet gM (sM 0) (sM 1)) (mC (sClose (mLit oM) hM tM sM gM) (mD hM sM gM) nM) 3))) ++ ((wXo b cy (a 0) r nx sn ln (svOf sk) (kpOf sk) ik bf ++ wRd r kd hg nu dg ng tk) ++ (wSky a cy n lit h t s g kn lo lf nm ++ wOth sk cy S))) 613 [(12, .int 1), (16, .int (mEs lM knM)), (17, .int (nI (mEm lM knM))), (0, .ref (b 0)), (1, .int x), (2, .ref (e 0)), (3, .ref (e 1)), (4, .ref (e 2)), (5, .ref (e 3)), (6, .ref (e 4)), (7, .ref (e 5))] []) : ∀ (fu : Nat) (k : Nat), 4 - k < fu → (k ≤ 4) → kG X 19 0 0 ((wLa e cy (qSt nM oM sM gM knM loM lfM) hM tM lM (lBm hM tM (gM 1) (lBm hM tM (nI (lHz oM hM tM gM nM)) (lBm hM tM (nI (min ((lHz oM hM tM gM nM) + 1) 1000)) (lBm hM tM 0 bM nM) nM) nM) nM) (upd (upd (upd (upd rM 0 (mRn hM nM (sMeet gM (sM 0) (sM 1)) (mC (sClose (mLit oM) hM tM sM gM) (mD hM sM gM) nM) 0)) 1 (mRn hM nM (sMeet gM (sM 0) (sM 1)) (mC (sClose (mLit oM) hM tM sM gM) (mD hM sM gM) nM) 1)) 2 (mRn hM nM (sMeet gM (sM 0) (sM 1)) (mC (sClose (mLit oM) hM tM sM gM) (mD hM sM gM) nM) 2)) 3 (mRn hM nM (sMeet gM (sM 0) (sM 1)) (mC (sClose (mLit oM) hM tM sM gM) (mD hM sM gM) nM) 3))) ++ ((wXo b cy (a 0) r nx sn ln (svOf sk) (kpOf sk) ik bf ++ wRd r kd hg nu dg ng tk) ++ (wSky a cy n lit h t s g kn lo lf nm ++ wOth sk cy S))) 406 [(0, .ref (b 0)), (1, .int x), (2, .ref (e 0)), (3, .ref (e 1)), (4, .ref (e 2)), (5, .ref (e 3)), (6, .ref (e 4)), (7, .ref (e 5)), (12, .int 1), (13, .int (bI (lIs (sMeet gM (sM 0) (sM 1)) (mC (sClose (mLit oM) hM tM sM gM) (mD hM sM gM) nM)))), (14, .int (nI k))] [] := by
  intro fu
  induction fu with
  | zero => intro k hfu; exact absurd hfu (Nat.not_lt_zero _)
  | succ fu ih =>
    intro k hfu hk9
    obtain ⟨⟨hn, ho, hs0, hs1, hk, hh, ht, hg0, hg1, hg2, hg3⟩, e1, e2, eH, eT, eS, eG, eK, eLo, eLf, eN, eO⟩ := id hR0
    have hn : nM ≤ 6 := hn
    have ho : mBin oM := ho
    have hs0 : sOk (sM 0) := hs0
    have hs1 : sOk (sM 1) := hs1
    have hk : knM ≤ 8 := hk
    have hh : ∀ i, i < nM → 50 ≤ (hM i).toInt ∧ (hM i).toInt ≤ 3000 := hh
    have hg0 : 50 ≤ (gM 0).toInt ∧ (gM 0).toInt ≤ 1000 := hg0
    have hg3 : 0 ≤ (gM 3).toInt ∧ (gM 3).toInt ≤ 100 := hg3
    have e1 : n = nM := e1
    have e2 : lit = mLit oM := e2
    have eH : ∀ i, i < nM → h i = hM i := eH
    have eT : ∀ i, i < nM → t i = tM i := eT
    have eS : ∀ i, i < 2 → s i = sM i := eS
    have eG : ∀ i, i < 4 → g i = gM i := eG
    have eK : kn = knM := eK
    have eLo : lo = loM := eLo
    have eLf : lf = lfM := eLf
    have eN : ∀ i, i < 32 → nm i = lM i := eN
    have ht : ∀ i, i < nM → 1 ≤ (tM i).toInt ∧ (tM i).toInt ≤ 100 := ht
    have hg1 : 0 ≤ (gM 1).toInt ∧ (gM 1).toInt ≤ 1000 := hg1
    have hTc : ∀ w : Nat, w ≤ 16 → xTc sn ln n lit h t s g kn lo lf w = mTc sn ln nM oM hM tM sM gM knM loM lfM w := fun w hw => by
      rw [e1, e2, eK, eLo, eLf, cg_Tc hn hw eH eT eS eG]; exact xTc_m hn ho
    refine k_iload (q := 408) C 10 dL_isSo_406 rfl rfl ?_
    refine k_iconst (q := 409) (v := 4) C dL_isSo_408 (by decide) rfl ?_
    refine k_nicmp_ge (a := k) (b := 4)  (tgt := 470) (q := 412) C dL_isSo_409 (by decide) rfl (by omega) (by decide) ?_ ?_
    · intro c_409
      refine k_iload_n (q := 471) C 1 dL_isSo_470 rfl rfl ?_
      refine k_bipush (q := 473) (v := 9) C dL_isSo_471 (by decide +kernel) rfl ?_
      refine k_callSI (n := 2) (q := 476) (pre := ([] : va_W)) (post := ((wLa e cy (qSt nM oM sM gM knM loM lfM) hM tM lM (lBm hM tM (gM 1) (lBm hM tM (nI (lHz oM hM tM gM nM)) (lBm hM tM (nI (min ((lHz oM hM tM gM nM) + 1) 1000)) (lBm hM tM 0 bM nM) nM) nM) nM) (upd (upd (upd (upd rM 0 (mRn hM nM (sMeet gM (sM 0) (sM 1)) (mC (sClose (mLit oM) hM tM sM gM) (mD hM sM gM) nM) 0)) 1 (mRn hM nM (sMeet gM (sM 0) (sM 1)) (mC (sClose (mLit oM) hM tM sM gM) (mD hM sM gM) nM) 1)) 2 (mRn hM nM (sMeet gM (sM 0) (sM 1)) (mC (sClose (mLit oM) hM tM sM gM) (mD hM sM gM) nM) 2)) 3 (mRn hM nM (sMeet gM (sM 0) (sM 1)) (mC (sClose (mLit oM) hM tM sM gM) (mD hM sM gM) nM) 3))) ++ ((wXo b cy (a 0) r nx sn ln (svOf sk) (kpOf sk) ik bf ++ wRd r kd hg nu dg ng tk) ++ (wSky a cy n lit h t s g kn lo lf nm ++ wOth sk cy S)))) (w2 := ((wLa e cy (qSt nM oM sM gM knM loM lfM) hM tM lM (lBm hM tM (gM 1) (lBm hM tM (nI (lHz oM hM tM gM nM)) (lBm hM tM (nI (min ((lHz oM hM tM gM nM) + 1) 1000)) (lBm hM tM 0 bM nM) nM) nM) nM) (upd (upd (upd (upd rM 0 (mRn hM nM (sMeet gM (sM 0) (sM 1)) (mC (sClose (mLit oM) hM tM sM gM) (mD hM sM gM) nM) 0)) 1 (mRn hM nM (sMeet gM (sM 0) (sM 1)) (mC (sClose (mLit oM) hM tM sM gM) (mD hM sM gM) nM) 1)) 2 (mRn hM nM (sMeet gM (sM 0) (sM 1)) (mC (sClose (mLit oM) hM tM sM gM) (mD hM sM gM) nM) 2)) 3 (mRn hM nM (sMeet gM (sM 0) (sM 1)) (mC (sClose (mLit oM) hM tM sM gM) (mD hM sM gM) nM) 3))) ++ ((wXo b cy (a 0) r nx sn ln (svOf sk) (kpOf sk) ik bf ++ wRd r kd hg nu dg ng tk) ++ (wSky a cy n lit h t s g kn lo lf nm ++ wOth sk cy S)))) (As := [.int x, .int 9]) (rest := []) C (c_L_low x 9 (by decide) (by decide)) gL_isSo_L_low rfl rfl rfl (by decide +kernel) (k_room hR (by decide)) ⟨Nat.zero_le _, Nat.zero_le _⟩  rfl rfl (Nat.le_of_ble_eq_true rfl) (rfl) (rfl) dL_isSo_473 rfl ?_
      have hago : lowN x 9 < 9 := lowN_lt (by decide)
      refine k_istore (q := 478) (fr2 := [(14, .int (nI (lowN x 9))), (0, .ref (b 0)), (1, .int x), (2, .ref (e 0)), (3, .ref (e 1)), (4, .ref (e 2)), (5, .ref (e 3)), (6, .ref (e 4)), (7, .ref (e 5)), (12, .int 1), (13, .int (bI (lIs (sMeet gM (sM 0) (sM 1)) (mC (sClose (mLit oM) hM tM sM gM) (mD hM sM gM) nM))))]) C dL_isSo_476 (by decide) rfl rfl ?_
      refine k_iload_n (q := 479) C 2 dL_isSo_478 rfl rfl ?_
      refine k_iconst (q := 480) (v := 4) C dL_isSo_479 (by decide) rfl ?_
      refine k_ishr (q := 481) C dL_isSo_480 rfl ?_
      refine k_iconst (q := 482) (v := 4) C dL_isSo_481 (by decide) rfl ?_
      refine k_callSI (n := 2) (q := 485) (pre := ([] : va_W)) (post := ((wLa e cy (qSt nM oM sM gM knM loM lfM) hM tM lM (lBm hM tM (gM 1) (lBm hM tM (nI (lHz oM hM tM gM nM)) (lBm hM tM (nI (min ((lHz oM hM tM gM nM) + 1) 1000)) (lBm hM tM 0 bM nM) nM) nM) nM) (upd (upd (upd (upd rM 0 (mRn hM nM (sMeet gM (sM 0) (sM 1)) (mC (sClose (mLit oM) hM tM sM gM) (mD hM sM gM) nM) 0)) 1 (mRn hM nM (sMeet gM (sM 0) (sM 1)) (mC (sClose (mLit oM) hM tM sM gM) (mD hM sM gM) nM) 1)) 2 (mRn hM nM (sMeet gM (sM 0) (sM 1)) (mC (sClose (mLit oM) hM tM sM gM) (mD hM sM gM) nM) 2)) 3 (mRn hM nM (sMeet gM (sM 0) (sM 1)) (mC (sClose (mLit oM) hM tM sM gM) (mD hM sM gM) nM) 3))) ++ ((wXo b cy (a 0) r nx sn ln (svOf sk) (kpOf sk) ik bf ++ wRd r kd hg nu dg ng tk) ++ (wSky a cy n lit h t s g kn lo lf nm ++ wOth sk cy S)))) (w2 := ((wLa e cy (qSt nM oM sM gM knM loM lfM) hM tM lM (lBm hM tM (gM 1) (lBm hM tM (nI (lHz oM hM tM gM nM)) (lBm hM tM (nI (min ((lHz oM hM tM gM nM) + 1) 1000)) (lBm hM tM 0 bM nM) nM) nM) nM) (upd (upd (upd (upd rM 0 (mRn hM nM (sMeet gM (sM 0) (sM 1)) (mC (sClose (mLit oM) hM tM sM gM) (mD hM sM gM) nM) 0)) 1 (mRn hM nM (sMeet gM (sM 0) (sM 1)) (mC (sClose (mLit oM) hM tM sM gM) (mD hM sM gM) nM) 1)) 2 (mRn hM nM (sMeet gM (sM 0) (sM 1)) (mC (sClose (mLit oM) hM tM sM gM) (mD hM sM gM) nM) 2)) 3 (mRn hM nM (sMeet gM (sM 0) (sM 1)) (mC (sClose (mLit oM) hM tM sM gM) (mD hM sM gM) nM) 3))) ++ ((wXo b cy (a 0) r nx sn ln (svOf sk) (kpOf sk) ik bf ++ wRd r kd hg nu dg ng tk) ++ (wSky a cy n lit h t s g kn lo lf nm ++ wOth sk cy S)))) (As := [.int (x >>> (4 &&& 31)), .int 4]) (rest := []) C (c_L_low (x >>> (4 &&& 31)) 4 (by decide) (by decide)) gL_isSo_L_low rfl rfl rfl (by decide +kernel) (k_room hR (by decide)) ⟨Nat.zero_le _, Nat.zero_le _⟩  rfl rfl (Nat.le_of_ble_eq_true rfl) (rfl) (rfl) dL_isSo_482 rfl ?_
      have hwh : lowN (x >>> (4 &&& 31)) 4 < 4 := lowN_lt (by decide)
      have hNt : sNight kn nm (lowN x 9) (lowN (x >>> (4 &&& 31)) 4) = (if lowN x 9 < knM then lM (4 * lowN x 9 + lowN (x >>> (4 &&& 31)) 4) else -99999) := by
        unfold sNight
        rw [eK]
        by_cases c : lowN x 9 < knM
        · rw [if_pos c, if_pos c]; exact eN _ (by omega)
        · rw [if_neg c, if_neg c]
      refine k_istore (q := 487) (fr2 := [(15, .int (nI (lowN (x >>> (4 &&& 31)) 4))), (14, .int (nI (lowN x 9))), (0, .ref (b 0)), (1, .int x), (2, .ref (e 0)), (3, .ref (e 1)), (4, .ref (e 2)), (5, .ref (e 3)), (6, .ref (e 4)), (7, .ref (e 5)), (12, .int 1), (13, .int (bI (lIs (sMeet gM (sM 0) (sM 1)) (mC (sClose (mLit oM) hM tM sM gM) (mD hM sM gM) nM))))]) C dL_isSo_485 (by decide) rfl rfl ?_
      refine k_iload (q := 489) C 10 dL_isSo_487 rfl rfl ?_
      refine k_if_eq (tgt := 531) (q := 492) C dL_isSo_489 (by decide) rfl ?_ ?_
      · exact fun c_489 => absurd c_489 (by decide)
      · intro c_489
        refine k_aload_n (q := 493) C 2 dL_isSo_492 rfl rfl ?_
        refine k_iload (q := 495) C 1 dL_isSo_493 rfl rfl ?_
        refine k_iload (q := 497) C 0 dL_isSo_495 rfl rfl ?_
        refine k_callSIw (n := 3) (q := 500) (pre := (wLa e cy (qSt nM oM sM gM knM loM lfM) hM tM lM (lBm hM tM (gM 1) (lBm hM tM (nI (lHz oM hM tM gM nM)) (lBm hM tM (nI (min ((lHz oM hM tM gM nM) + 1) 1000)) (lBm hM tM 0 bM nM) nM) nM) nM) (upd (upd (upd (upd rM 0 (mRn hM nM (sMeet gM (sM 0) (sM 1)) (mC (sClose (mLit oM) hM tM sM gM) (mD hM sM gM) nM) 0)) 1 (mRn hM nM (sMeet gM (sM 0) (sM 1)) (mC (sClose (mLit oM) hM tM sM gM) (mD hM sM gM) nM) 1)) 2 (mRn hM nM (sMeet gM (sM 0) (sM 1)) (mC (sClose (mLit oM) hM tM sM gM) (mD hM sM gM) nM) 2)) 3 (mRn hM nM (sMeet gM (sM 0) (sM 1)) (mC (sClose (mLit oM) hM tM sM gM) (mD hM sM gM) nM) 3)))) (post := ([] : va_W)) (w2 := ((wLa e cy (qSt nM oM sM gM knM loM lfM) hM tM lM (lBm hM tM (gM 1) (lBm hM tM (nI (lHz oM hM tM gM nM)) (lBm hM tM (nI (min ((lHz oM hM tM gM nM) + 1) 1000)) (lBm hM tM 0 bM nM) nM) nM) nM) (upd (upd (upd (upd rM 0 (mRn hM nM (sMeet gM (sM 0) (sM 1)) (mC (sClose (mLit oM) hM tM sM gM) (mD hM sM gM) nM) 0)) 1 (mRn hM nM (sMeet gM (sM 0) (sM 1)) (mC (sClose (mLit oM) hM tM sM gM) (mD hM sM gM) nM) 1)) 2 (mRn hM nM (sMeet gM (sM 0) (sM 1)) (mC (sClose (mLit oM) hM tM sM gM) (mD hM sM gM) nM) 2)) 3 (mRn hM nM (sMeet gM (sM 0) (sM 1)) (mC (sClose (mLit oM) hM tM sM gM) (mD hM sM gM) nM) 3))) ++ ((wXo b cy (a 0) r nx sn ln (svOf sk) (kpOf sk) ik bf ++ wRd r kd hg nu dg ng tk) ++ (wSky a cy n lit h t s g kn lo lf nm ++ wOth sk cy S)))) (As := [.ref (b 0), .int (nI (lowN x 9)), .int (nI (lowN (x >>> (4 &&& 31)) 4))]) (rest := []) C (c_L_night cy a b r nx sn ln sk S ik bf kd hg nu dg ng tk n lit h t s g kn lo lf nm (lowN x 9) (lowN (x >>> (4 &&& 31)) 4) (by omega) (by omega) (by omega)) gL_isSo_L_night rfl rfl rfl (by decide +kernel) (k_room hR (by decide)) ⟨Nat.zero_le _, Nat.zero_le _⟩ rfl rfl (Nat.le_of_ble_eq_true rfl) (k_pre) (k_pre.symm) dL_isSo_497 rfl ?_
        refine k_sti (show (sNight kn nm (lowN x 9) (lowN (x >>> (4 &&& 31)) 4) : Int32) = (if lowN x 9 < knM then lM (4 * lowN x 9 + lowN (x >>> (4 &&& 31)) 4) else -99999) from hNt) ?_
        have J_500 : kG X 19 0 0 ((wLa e cy (qSt nM oM sM gM knM loM lfM) hM tM lM (lBm hM tM (gM 1) (lBm hM tM (nI (lHz oM hM tM gM nM)) (lBm hM tM (nI (min ((lHz oM hM tM gM nM) + 1) 1000)) (lBm hM tM 0 bM nM) nM) nM) nM) (upd (upd (upd (upd rM 0 (mRn hM nM (sMeet gM (sM 0) (sM 1)) (mC (sClose (mLit oM) hM tM sM gM) (mD hM sM gM) nM) 0)) 1 (mRn hM nM (sMeet gM (sM 0) (sM 1)) (mC (sClose (mLit oM) hM tM sM gM) (mD hM sM gM) nM) 1)) 2 (mRn hM nM (sMeet gM (sM 0) (sM 1)) (mC (sClose (mLit oM) hM tM sM gM) (mD hM sM gM) nM) 2)) 3 (mRn hM nM (sMeet gM (sM 0) (sM 1)) (mC (sClose (mLit oM) hM tM sM gM) (mD hM sM gM) nM) 3))) ++ ((wXo b cy (a 0) r nx sn ln (svOf sk) (kpOf sk) ik bf ++ wRd r kd hg nu dg ng tk) ++ (wSky a cy n lit h t s g kn lo lf nm ++ wOth sk cy S))) 524 [(15, .int (nI (lowN (x >>> (4 &&& 31)) 4))), (14, .int (nI (lowN x 9))), (0, .ref (b 0)), (1, .int x), (2, .ref (e 0)), (3, .ref (e 1)), (4, .ref (e 2)), (5, .ref (e 3)), (6, .ref (e 4)), (7, .ref (e 5)), (12, .int 1), (13, .int (bI (lIs (sMeet gM (sM 0) (sM 1)) (mC (sClose (mLit oM) hM tM sM gM) (mD hM sM gM) nM))))] [.int (if lowN x 9 < knM then lM (4 * lowN x 9 + lowN (x >>> (4 &&& 31)) 4) else -99999), .int (if lowN x 9 < knM then lM (4 * lowN x 9 + lowN (x >>> (4 &&& 31)) 4) else -99999)] := by
          refine k_icmp_ne (tgt := 531) (q := 527) C dL_isSo_524 (by decide) rfl ?_ ?_
          · exact fun c_524 => absurd rfl c_524
          · intro c_524
            refine k_iconst (q := 528) (v := 1) C dL_isSo_527 (by decide) rfl ?_
            refine k_goto (q := 532) C dL_isSo_528 (by decide) ?_
            refine k_istore (q := 534) (fr2 := [(12, .int 1), (15, .int (nI (lowN (x >>> (4 &&& 31)) 4))), (14, .int (nI (lowN x 9))), (0, .ref (b 0)), (1, .int x), (2, .ref (e 0)), (3, .ref (e 1)), (4, .ref (e 2)), (5, .ref (e 3)), (6, .ref (e 4)), (7, .ref (e 5)), (13, .int (bI (lIs (sMeet gM (sM 0) (sM 1)) (mC (sClose (mLit oM) hM tM sM gM) (mD hM sM gM) nM))))]) C dL_isSo_532 (by decide) rfl rfl ?_
            refine k_iconst (q := 535) (v := 0) C dL_isSo_534 (by decide) rfl ?_
            refine k_istore (q := 537) (fr2 := [(16, .int 0), (12, .int 1), (15, .int (nI (lowN (x >>> (4 &&& 31)) 4))), (14, .int (nI (lowN x 9))), (0, .ref (b 0)), (1, .int x), (2, .ref (e 0)), (3, .ref (e 1)), (4, .ref (e 2)), (5, .ref (e 3)), (6, .ref (e 4)), (7, .ref (e 5)), (13, .int (bI (lIs (sMeet gM (sM 0) (sM 1)) (mC (sClose (mLit oM) hM tM sM gM) (mD hM sM gM) nM))))]) C dL_isSo_535 (by decide) rfl rfl ?_
            refine k_iconst (q := 538) (v := 0) C dL_isSo_537 (by decide) rfl ?_
            refine k_istore (q := 540) (fr2 := [(17, .int 0), (16, .int 0), (12, .int 1), (15, .int (nI (lowN (x >>> (4 &&& 31)) 4))), (14, .int (nI (lowN x 9))), (0, .ref (b 0)), (1, .int x), (2, .ref (e 0)), (3, .ref (e 1)), (4, .ref (e 2)), (5, .ref (e 3)), (6, .ref (e 4)), (7, .ref (e 5)), (13, .int (bI (lIs (sMeet gM (sM 0) (sM 1)) (mC (sClose (mLit oM) hM tM sM gM) (mD hM sM gM) nM))))]) C dL_isSo_538 (by decide) rfl rfl ?_
            refine k_iconst (q := 541) (v := 0) C dL_isSo_540 (by decide) rfl ?_
            refine k_istore (q := 543) (fr2 := [(18, .int 0), (17, .int 0), (16, .int 0), (12, .int 1), (15, .int (nI (lowN (x >>> (4 &&& 31)) 4))), (14, .int (nI (lowN x 9))), (0, .ref (b 0)), (1, .int x), (2, .ref (e 0)), (3, .ref (e 1)), (4, .ref (e 2)), (5, .ref (e 3)), (6, .ref (e 4)), (7, .ref (e 5)), (13, .int (bI (lIs (sMeet gM (sM 0) (sM 1)) (mC (sClose (mLit oM) hM tM sM gM) (mD hM sM gM) nM))))]) C dL_isSo_541 (by decide) rfl rfl ?_
            refine k_fr (fr2 := [(0, .ref (b 0)), (1, .int x), (2, .ref (e 0)), (3, .ref (e 1)), (4, .ref (e 2)), (5, .ref (e 3)), (6, .ref (e 4)), (7, .ref (e 5)), (12, .int 1), (16, .int 0), (17, .int 0), (18, .int 0)]) ⟨[6, 7, 8, 9, 10, 11, 12, 13, 3, 2, 1, 0], rfl⟩ ?_
            exact lp_L_isSo_543 cy e nM oM sM gM knM loM lfM hM tM lM bM rM a b r nx sn ln sk S ik bf kd hg nu dg ng tk n lit h t s g kn lo lf nm x hR0 hU X hR C E _ 0 (Nat.lt_succ_self _) (Nat.zero_le _)
        refine k_iload (q := 502) C 1 dL_isSo_500 rfl rfl ?_
        refine k_aload_n (q := 503) C 4 dL_isSo_502 rfl rfl ?_
        refine k_bipush (q := 505) (v := 9) C dL_isSo_503 (by decide +kernel) rfl ?_
        refine k_iald (q := 506) C 0 rfl (vp_in_nI (n := 9) (by decide) (by decide)) dL_isSo_505 rfl ?_
        refine k_sti (show ((qSt nM oM sM gM knM loM lfM) (9 : Int32).toNatClampNeg : Int32) = (qSt nM oM sM gM knM loM lfM) 9 from congrArg (qSt nM oM sM gM knM loM lfM) (nI_clamp (n := 9) (by decide))) ?_
        refine k_sti (show ((qSt nM oM sM gM knM loM lfM) 9 : Int32) = nI knM from rfl) ?_
        refine k_nicmp_ge (a := lowN x 9) (b := knM)  (tgt := 522) (q := 509) C dL_isSo_506 (by decide) rfl (by omega) (by omega) ?_ ?_
        · intro c_506
          refine k_ldc (q := 524) (v := -99999) C (List.mem_of_getElem? (i := 1) rfl) dL_isSo_522 rfl ?_
          exact k_sti (show (-99999 : Int32) = (if lowN x 9 < knM then lM (4 * lowN x 9 + lowN (x >>> (4 &&& 31)) 4) else -99999) from (if_neg (by omega)).symm) J_500
        · intro c_506
          refine k_aload (q := 511) C 7 dL_isSo_509 rfl rfl ?_
          refine k_iconst (q := 512) (v := 4) C dL_isSo_511 (by decide) rfl ?_
          refine k_iload (q := 514) C 1 dL_isSo_512 rfl rfl ?_
          refine k_imul (q := 515) C dL_isSo_514 rfl ?_
          refine k_sti (show (4 * (nI (lowN x 9)) : Int32) = nI (4 * (lowN x 9)) from pk_mul 4 (lowN x 9)) ?_
          refine k_iload (q := 517) C 0 dL_isSo_515 rfl rfl ?_
          refine k_iadd (q := 518) C dL_isSo_517 rfl ?_
          refine k_sti (show ((nI (4 * (lowN x 9))) + (nI (lowN (x >>> (4 &&& 31)) 4)) : Int32) = nI (4 * (lowN x 9) + (lowN (x >>> (4 &&& 31)) 4)) from nI_add (4 * (lowN x 9)) (lowN (x >>> (4 &&& 31)) 4)) ?_
          refine k_iald (q := 519) C 3 rfl (vp_in_nI (n := 4 * (lowN x 9) + (lowN (x >>> (4 &&& 31)) 4)) (by omega) (by decide)) dL_isSo_518 rfl ?_
          refine k_sti (show (lM (nI (4 * (lowN x 9) + (lowN (x >>> (4 &&& 31)) 4))).toNatClampNeg : Int32) = lM (4 * (lowN x 9) + (lowN (x >>> (4 &&& 31)) 4)) from congrArg lM (nI_clamp (n := 4 * (lowN x 9) + (lowN (x >>> (4 &&& 31)) 4)) (by omega))) ?_
          refine k_goto (q := 524) C dL_isSo_519 (by decide) ?_
          exact k_sti (show (lM (4 * (lowN x 9) + (lowN (x >>> (4 &&& 31)) 4)) : Int32) = (if lowN x 9 < knM then lM (4 * lowN x 9 + lowN (x >>> (4 &&& 31)) 4) else -99999) from (if_pos c_506).symm) J_500
    · intro c_409
      refine k_iload (q := 414) C 8 dL_isSo_412 rfl rfl ?_
      refine k_if_eq (tgt := 461) (q := 417) C dL_isSo_414 (by decide) rfl ?_ ?_
      · exact fun c_414 => absurd c_414 (by decide)
      · intro c_414
        refine k_aload_n (q := 418) C 0 dL_isSo_417 rfl rfl ?_
        refine k_bipush (q := 420) (v := 13) C dL_isSo_418 (by decide +kernel) rfl ?_
        refine k_iload (q := 422) C 10 dL_isSo_420 rfl rfl ?_
        refine k_iadd (q := 423) C dL_isSo_422 rfl ?_
        refine k_sti (show (13 + (nI k) : Int32) = nI (13 + k) from nI_add 13 k) ?_
        refine k_callSIw (n := 2) (q := 426) (pre := (wLa e cy (qSt nM oM sM gM knM loM lfM) hM tM lM (lBm hM tM (gM 1) (lBm hM tM (nI (lHz oM hM tM gM nM)) (lBm hM tM (nI (min ((lHz oM hM tM gM nM) + 1) 1000)) (lBm hM tM 0 bM nM) nM) nM) nM) (upd (upd (upd (upd rM 0 (mRn hM nM (sMeet gM (sM 0) (sM 1)) (mC (sClose (mLit oM) hM tM sM gM) (mD hM sM gM) nM) 0)) 1 (mRn hM nM (sMeet gM (sM 0) (sM 1)) (mC (sClose (mLit oM) hM tM sM gM) (mD hM sM gM) nM) 1)) 2 (mRn hM nM (sMeet gM (sM 0) (sM 1)) (mC (sClose (mLit oM) hM tM sM gM) (mD hM sM gM) nM) 2)) 3 (mRn hM nM (sMeet gM (sM 0) (sM 1)) (mC (sClose (mLit oM) hM tM sM gM) (mD hM sM gM) nM) 3)))) (post := ([] : va_W)) (w2 := ((wLa e cy (qSt nM oM sM gM knM loM lfM) hM tM lM (lBm hM tM (gM 1) (lBm hM tM (nI (lHz oM hM tM gM nM)) (lBm hM tM (nI (min ((lHz oM hM tM gM nM) + 1) 1000)) (lBm hM tM 0 bM nM) nM) nM) nM) (upd (upd (upd (upd rM 0 (mRn hM nM (sMeet gM (sM 0) (sM 1)) (mC (sClose (mLit oM) hM tM sM gM) (mD hM sM gM) nM) 0)) 1 (mRn hM nM (sMeet gM (sM 0) (sM 1)) (mC (sClose (mLit oM) hM tM sM gM) (mD hM sM gM) nM) 1)) 2 (mRn hM nM (sMeet gM (sM 0) (sM 1)) (mC (sClose (mLit oM) hM tM sM gM) (mD hM sM gM) nM) 2)) 3 (mRn hM nM (sMeet gM (sM 0) (sM 1)) (mC (sClose (mLit oM) hM tM sM gM) (mD hM sM gM) nM) 3))) ++ ((wXo b cy (a 0) r nx sn ln (svOf sk) (kpOf sk) ik bf ++ wRd r kd hg nu dg ng tk) ++ (wSky a cy n lit h t s g kn lo lf nm ++ wOth sk cy S)))) (As := [.ref (b 0), .int (nI (13 + k))]) (rest := []) C (c_L_count cy a b r nx sn ln sk S ik bf kd hg nu dg ng tk n lit h t s g kn lo lf nm (13 + k) (by omega) (by omega)) gL_isSo_L_count rfl rfl rfl (by decide +kernel) (k_room hR (by decide)) ⟨Nat.zero_le _, Nat.zero_le _⟩ rfl rfl (Nat.le_of_ble_eq_true rfl) (k_pre) (k_pre.symm) dL_isSo_423 rfl ?_
        refine k_sti (show (xTc sn ln n lit h t s g kn lo lf (13 + k) : Int32) = gM k from (hTc (13 + k) (by omega)).trans (mTc_g (by omega))) ?_
        refine k_aload_n (q := 427) C 2 dL_isSo_426 rfl rfl ?_
        refine k_iload (q := 429) C 10 dL_isSo_427 rfl rfl ?_
        refine k_iald (q := 430) C 0 rfl (vp_in_nI (n := k) (by omega) (by decide)) dL_isSo_429 rfl ?_
        refine k_sti (show ((qSt nM oM sM gM knM loM lfM) (nI k).toNatClampNeg : Int32) = (qSt nM oM sM gM knM loM lfM) k from congrArg (qSt nM oM sM gM knM loM lfM) (nI_clamp (n := k) (by omega))) ?_
        refine k_sti (show ((qSt nM oM sM gM knM loM lfM) k : Int32) = gM k from mSt_g (k := k) (by omega)) ?_
        refine k_icmp_ne (tgt := 461) (q := 433) C dL_isSo_430 (by decide) rfl ?_ ?_
        · exact fun c_430 => absurd rfl c_430
        · intro c_430
          refine k_aload_n (q := 434) C 0 dL_isSo_433 rfl rfl ?_
          refine k_iload (q := 436) C 10 dL_isSo_434 rfl rfl ?_
          refine k_callSIw (n := 2) (q := 439) (pre := (wLa e cy (qSt nM oM sM gM knM loM lfM) hM tM lM (lBm hM tM (gM 1) (lBm hM tM (nI (lHz oM hM tM gM nM)) (lBm hM tM (nI (min ((lHz oM hM tM gM nM) + 1) 1000)) (lBm hM tM 0 bM nM) nM) nM) nM) (upd (upd (upd (upd rM 0 (mRn hM nM (sMeet gM (sM 0) (sM 1)) (mC (sClose (mLit oM) hM tM sM gM) (mD hM sM gM) nM) 0)) 1 (mRn hM nM (sMeet gM (sM 0) (sM 1)) (mC (sClose (mLit oM) hM tM sM gM) (mD hM sM gM) nM) 1)) 2 (mRn hM nM (sMeet gM (sM 0) (sM 1)) (mC (sClose (mLit oM) hM tM sM gM) (mD hM sM gM) nM) 2)) 3 (mRn hM nM (sMeet gM (sM 0) (sM 1)) (mC (sClose (mLit oM) hM tM sM gM) (mD hM sM gM) nM) 3)))) (post := ([] : va_W)) (w2 := ((wLa e cy (qSt nM oM sM gM knM loM lfM) hM tM lM (lBm hM tM (gM 1) (lBm hM tM (nI (lHz oM hM tM gM nM)) (lBm hM tM (nI (min ((lHz oM hM tM gM nM) + 1) 1000)) (lBm hM tM 0 bM nM) nM) nM) nM) (upd (upd (upd (upd rM 0 (mRn hM nM (sMeet gM (sM 0) (sM 1)) (mC (sClose (mLit oM) hM tM sM gM) (mD hM sM gM) nM) 0)) 1 (mRn hM nM (sMeet gM (sM 0) (sM 1)) (mC (sClose (mLit oM) hM tM sM gM) (mD hM sM gM) nM) 1)) 2 (mRn hM nM (sMeet gM (sM 0) (sM 1)) (mC (sClose (mLit oM) hM tM sM gM) (mD hM sM gM) nM) 2)) 3 (mRn hM nM (sMeet gM (sM 0) (sM 1)) (mC (sClose (mLit oM) hM tM sM gM) (mD hM sM gM) nM) 3))) ++ ((wXo b cy (a 0) r nx sn ln (svOf sk) (kpOf sk) ik bf ++ wRd r kd hg nu dg ng tk) ++ (wSky a cy n lit h t s g kn lo lf nm ++ wOth sk cy S)))) (As := [.ref (b 0), .int (nI k)]) (rest := []) C (c_L_reading cy a b r nx sn ln sk S ik bf kd hg nu dg ng tk n lit h t s g kn lo lf nm (nI k) (by omega) (w03 (by omega))) gL_isSo_L_reading rfl rfl rfl (by decide +kernel) (k_room hR (by decide)) ⟨Nat.zero_le _, Nat.zero_le _⟩ rfl rfl (Nat.le_of_ble_eq_true rfl) (k_pre) (k_pre.symm) dL_isSo_436 rfl ?_
          refine k_sti (show (sRn lit h t s g n (nI k) : Int32) = mRn hM nM (sMeet gM (sM 0) (sM 1)) (mC (sClose (mLit oM) hM tM sM gM) (mD hM sM gM) nM) k from by rw [e1, e2, cg_Rn hn eH eT eS eG]; exact sRn_m (by omega) hn hs0 hs1 hg0 hg3) ?_
          have J_439 : kG X 19 0 0 ((wLa e cy (qSt nM oM sM gM knM loM lfM) hM tM lM (lBm hM tM (gM 1) (lBm hM tM (nI (lHz oM hM tM gM nM)) (lBm hM tM (nI (min ((lHz oM hM tM gM nM) + 1) 1000)) (lBm hM tM 0 bM nM) nM) nM) nM) (upd (upd (upd (upd rM 0 (mRn hM nM (sMeet gM (sM 0) (sM 1)) (mC (sClose (mLit oM) hM tM sM gM) (mD hM sM gM) nM) 0)) 1 (mRn hM nM (sMeet gM (sM 0) (sM 1)) (mC (sClose (mLit oM) hM tM sM gM) (mD hM sM gM) nM) 1)) 2 (mRn hM nM (sMeet gM (sM 0) (sM 1)) (mC (sClose (mLit oM) hM tM sM gM) (mD hM sM gM) nM) 2)) 3 (mRn hM nM (sMeet gM (sM 0) (sM 1)) (mC (sClose (mLit oM) hM tM sM gM) (mD hM sM gM) nM) 3))) ++ ((wXo b cy (a 0) r nx sn ln (svOf sk) (kpOf sk) ik bf ++ wRd r kd hg nu dg ng tk) ++ (wSky a cy n lit h t s g kn lo lf nm ++ wOth sk cy S))) 454 [(0, .ref (b 0)), (1, .int x), (2, .ref (e 0)), (3, .ref (e 1)), (4, .ref (e 2)), (5, .ref (e 3)), (6, .ref (e 4)), (7, .ref (e 5)), (12, .int 1), (13, .int (bI (lIs (sMeet gM (sM 0) (sM 1)) (mC (sClose (mLit oM) hM tM sM gM) (mD hM sM gM) nM)))), (14, .int (nI k))] [.int (mRn hM nM (sMeet gM (sM 0) (sM 1)) (mC (sClose (mLit oM) hM tM sM gM) (mD hM sM gM) nM) k), .int (mRn hM nM (sMeet gM (sM 0) (sM 1)) (mC (sClose (mLit oM) hM tM sM gM) (mD hM sM gM) nM) k)] := by
            refine k_icmp_ne (tgt := 461) (q := 457) C dL_isSo_454 (by decide) rfl ?_ ?_
            · exact fun c_454 => absurd rfl c_454
            · intro c_454
              refine k_iconst (q := 458) (v := 1) C dL_isSo_457 (by decide) rfl ?_
              refine k_goto (q := 462) C dL_isSo_458 (by decide) ?_
              refine k_istore (q := 464) (fr2 := [(12, .int 1), (0, .ref (b 0)), (1, .int x), (2, .ref (e 0)), (3, .ref (e 1)), (4, .ref (e 2)), (5, .ref (e 3)), (6, .ref (e 4)), (7, .ref (e 5)), (13, .int (bI (lIs (sMeet gM (sM 0) (sM 1)) (mC (sClose (mLit oM) hM tM sM gM) (mD hM sM gM) nM)))), (14, .int (nI k))]) C dL_isSo_462 (by decide) rfl rfl ?_
              refine k_iinc (q := 467) (v := nI (k + 1)) (fr2 := [(14, .int (nI (k + 1))), (12, .int 1), (0, .ref (b 0)), (1, .int x), (2, .ref (e 0)), (3, .ref (e 1)), (4, .ref (e 2)), (5, .ref (e 3)), (6, .ref (e 4)), (7, .ref (e 5)), (13, .int (bI (lIs (sMeet gM (sM 0) (sM 1)) (mC (sClose (mLit oM) hM tM sM gM) (mD hM sM gM) nM))))]) C 10 dL_isSo_464 rfl (nI_add k 1) (by decide) rfl rfl ?_
              refine k_goto (q := 406) C dL_isSo_467 (by decide) ?_
              refine k_fr (fr2 := [(0, .ref (b 0)), (1, .int x), (2, .ref (e 0)), (3, .ref (e 1)), (4, .ref (e 2)), (5, .ref (e 3)), (6, .ref (e 4)), (7, .ref (e 5)), (12, .int 1), (13, .int (bI (lIs (sMeet gM (sM 0) (sM 1)) (mC (sClose (mLit oM) hM tM sM gM) (mD hM sM gM) nM)))), (14, .int (nI (k + 1)))]) ⟨[2, 3, 4, 5, 6, 7, 8, 9, 1, 10, 0], rfl⟩ ?_
              exact ih (k + 1) (by omega) (by omega)
          refine k_iload (q := 441) C 9 dL_isSo_439 rfl rfl ?_
          refine k_ifB_eq (tgt := 452) (q := 444) C dL_isSo_441 (by decide) rfl ?_ ?_
          · intro c_441
            refine k_ldc (q := 454) (v := -99999) C (List.mem_of_getElem? (i := 1) rfl) dL_isSo_452 rfl ?_
            exact k_sti (show (-99999 : Int32) = mRn hM nM (sMeet gM (sM 0) (sM 1)) (mC (sClose (mLit oM) hM tM sM gM) (mD hM sM gM) nM) k from (mRn_no c_441).symm) J_439
          · intro c_441
            refine k_aload (q := 446) C 7 dL_isSo_444 rfl rfl ?_
            refine k_iload (q := 448) C 10 dL_isSo_446 rfl rfl ?_
            refine k_iald (q := 449) C 5 rfl (vp_in_nI (n := k) (by omega) (by decide)) dL_isSo_448 rfl ?_
            refine k_sti (show ((upd (upd (upd (upd rM 0 (mRn hM nM (sMeet gM (sM 0) (sM 1)) (mC (sClose (mLit oM) hM tM sM gM) (mD hM sM gM) nM) 0)) 1 (mRn hM nM (sMeet gM (sM 0) (sM 1)) (mC (sClose (mLit oM) hM tM sM gM) (mD hM sM gM) nM) 1)) 2 (mRn hM nM (sMeet gM (sM 0) (sM 1)) (mC (sClose (mLit oM) hM tM sM gM) (mD hM sM gM) nM) 2)) 3 (mRn hM nM (sMeet gM (sM 0) (sM 1)) (mC (sClose (mLit oM) hM tM sM gM) (mD hM sM gM) nM) 3)) (nI k).toNatClampNeg : Int32) = (upd (upd (upd (upd rM 0 (mRn hM nM (sMeet gM (sM 0) (sM 1)) (mC (sClose (mLit oM) hM tM sM gM) (mD hM sM gM) nM) 0)) 1 (mRn hM nM (sMeet gM (sM 0) (sM 1)) (mC (sClose (mLit oM) hM tM sM gM) (mD hM sM gM) nM) 1)) 2 (mRn hM nM (sMeet gM (sM 0) (sM 1)) (mC (sClose (mLit oM) hM tM sM gM) (mD hM sM gM) nM) 2)) 3 (mRn hM nM (sMeet gM (sM 0) (sM 1)) (mC (sClose (mLit oM) hM tM sM gM) (mD hM sM gM) nM) 3)) k from congrArg (upd (upd (upd (upd rM 0 (mRn hM nM (sMeet gM (sM 0) (sM 1)) (mC (sClose (mLit oM) hM tM sM gM) (mD hM sM gM) nM) 0)) 1 (mRn hM nM (sMeet gM (sM 0) (sM 1)) (mC (sClose (mLit oM) hM tM sM gM) (mD hM sM gM) nM) 1)) 2 (mRn hM nM (sMeet gM (sM 0) (sM 1)) (mC (sClose (mLit oM) hM tM sM gM) (mD hM sM gM) nM) 2)) 3 (mRn hM nM (sMeet gM (sM 0) (sM 1)) (mC (sClose (mLit oM) hM tM sM gM) (mD hM sM gM) nM) 3)) (nI_clamp (n := k) (by omega))) ?_
            refine k_goto (q := 454) C dL_isSo_449 (by decide) ?_
            exact k_sti (show ((upd (upd (upd (upd rM 0 (mRn hM nM (sMeet gM (sM 0) (sM 1)) (mC (sClose (mLit oM) hM tM sM gM) (mD hM sM gM) nM) 0)) 1 (mRn hM nM (sMeet gM (sM 0) (sM 1)) (mC (sClose (mLit oM) hM tM sM gM) (mD hM sM gM) nM) 1)) 2 (mRn hM nM (sMeet gM (sM 0) (sM 1)) (mC (sClose (mLit oM) hM tM sM gM) (mD hM sM gM) nM) 2)) 3 (mRn hM nM (sMeet gM (sM 0) (sM 1)) (mC (sClose (mLit oM) hM tM sM gM) (mD hM sM gM) nM) 3)) k : Int32) = mRn hM nM (sMeet gM (sM 0) (sM 1)) (mC (sClose (mLit oM) hM tM sM gM) (mD hM sM gM) nM) k from rout_at (by omega)) J_439
set_option maxHeartbeats 4000000 in
set_option maxRecDepth 100000 in
theorem lp_L_isSo_145 (cy : Nat → ClassId) (e : Nat → Nat) (nM : Nat) (oM : Nat → Int32) (sM : Nat → Int32) (gM : Nat → Int32) (knM : Nat) (loM : Int32) (lfM : Int32) (hM : Nat → Int32) (tM : Nat → Int32) (lM : Nat → Int32) (bM : Nat → Int32) (rM : Nat → Int32) (a : Nat → Nat) (b : Nat → Nat) (r : Nat) (nx : Nat) (sn : Nat) (ln : Nat) (sk : Nat → Nat → Nat) (S : Nat → CK) (ik : Nat → Int32) (bf : Nat → Nat) (kd : Nat) (hg : Nat) (nu : Nat) (dg : Nat) (ng : Bool) (tk : Bool) (n : Nat) (lit : Int32) (h : Nat → Int32) (t : Nat → Int32) (s : Nat → Int32) (g : Nat → Int32) (kn : Nat) (lo : Int32) (lf : Int32) (nm : Nat → Int32) (x : Int32)  (hR0 : sRel ((n, lit, h, t, s, g, kn, lo, lf, nm) : CK) ((nM, oM, hM, tM, sM, gM, knM, loM, lfM, lM) : SK)) (hU : sUpw hM nM) (X : kX) (hR : xR X = rm_L_isSo) (C : kC X 19 RL cL_isSo wsL_isSo cy) (E : kG X 19 0 0 ((wLa e cy (qSt nM oM sM gM knM loM lfM) hM tM lM (lBm hM tM (gM 1) (lBm hM tM (nI (lHz oM hM tM gM nM)) (lBm hM tM (nI (min ((lHz oM hM tM gM nM) + 1) 1000)) (lBm hM tM 0 bM nM) nM) nM) nM) (upd (upd (upd (upd rM 0 (mRn hM nM (sMeet gM (sM 0) (sM 1)) (mC (sClose (mLit oM) hM tM sM gM) (mD hM sM gM) nM) 0)) 1 (mRn hM nM (sMeet gM (sM 0) (sM 1)) (mC (sClose (mLit oM) hM tM sM gM) (mD hM sM gM) nM) 1)) 2 (mRn hM nM (sMeet gM (sM 0) (sM 1)) (mC (sClose (mLit oM) hM tM sM gM) (mD hM sM gM) nM) 2)) 3 (mRn hM nM (sMeet gM (sM 0) (sM 1)) (mC (sClose (mLit oM) hM tM sM gM) (mD hM sM gM) nM) 3))) ++ ((wXo b cy (a 0) r nx sn ln (svOf sk) (kpOf sk) ik bf ++ wRd r kd hg nu dg ng tk) ++ (wSky a cy n lit h t s g kn lo lf nm ++ wOth sk cy S))) 613 [(12, .int 1), (16, .int (mEs lM knM)), (17, .int (nI (mEm lM knM))), (0, .ref (b 0)), (1, .int x), (2, .ref (e 0)), (3, .ref (e 1)), (4, .ref (e 2)), (5, .ref (e 3)), (6, .ref (e 4)), (7, .ref (e 5))] []) : ∀ (fu : Nat) (k : Nat), nM - k < fu → (k ≤ nM) → kG X 19 0 0 ((wLa e cy (qSt nM oM sM gM knM loM lfM) hM tM lM (lBm hM tM (gM 1) (lBm hM tM (nI (lHz oM hM tM gM nM)) (lBm hM tM (nI (min ((lHz oM hM tM gM nM) + 1) 1000)) (lBm hM tM 0 bM nM) nM) nM) nM) rM) ++ ((wXo b cy (a 0) r nx sn ln (svOf sk) (kpOf sk) ik bf ++ wRd r kd hg nu dg ng tk) ++ (wSky a cy n lit h t s g kn lo lf nm ++ wOth sk cy S))) 145 [(0, .ref (b 0)), (1, .int x), (2, .ref (e 0)), (3, .ref (e 1)), (4, .ref (e 2)), (5, .ref (e 3)), (6, .ref (e 4)), (7, .ref (e 5)), (8, .int (nI (sCnt (sPair (mLit oM) hM tM gM) k))), (9, .int (nI (sCnt (sClose (mLit oM) hM tM sM gM) k))), (12, .int 1), (13, .int (nI k))] [] := by
  intro fu
  induction fu with
  | zero => intro k hfu; exact absurd hfu (Nat.not_lt_zero _)
  | succ fu ih =>
    intro k hfu hk9
    obtain ⟨⟨hn, ho, hs0, hs1, hk, hh, ht, hg0, hg1, hg2, hg3⟩, e1, e2, eH, eT, eS, eG, eK, eLo, eLf, eN, eO⟩ := id hR0
    have hn : nM ≤ 6 := hn
    have ho : mBin oM := ho
    have hs0 : sOk (sM 0) := hs0
    have hs1 : sOk (sM 1) := hs1
    have hk : knM ≤ 8 := hk
    have hh : ∀ i, i < nM → 50 ≤ (hM i).toInt ∧ (hM i).toInt ≤ 3000 := hh
    have hg0 : 50 ≤ (gM 0).toInt ∧ (gM 0).toInt ≤ 1000 := hg0
    have hg3 : 0 ≤ (gM 3).toInt ∧ (gM 3).toInt ≤ 100 := hg3
    have e1 : n = nM := e1
    have e2 : lit = mLit oM := e2
    have eH : ∀ i, i < nM → h i = hM i := eH
    have eT : ∀ i, i < nM → t i = tM i := eT
    have eS : ∀ i, i < 2 → s i = sM i := eS
    have eG : ∀ i, i < 4 → g i = gM i := eG
    have eK : kn = knM := eK
    have eLo : lo = loM := eLo
    have eLf : lf = lfM := eLf
    have eN : ∀ i, i < 32 → nm i = lM i := eN
    have ht : ∀ i, i < nM → 1 ≤ (tM i).toInt ∧ (tM i).toInt ≤ 100 := ht
    have hg1 : 0 ≤ (gM 1).toInt ∧ (gM 1).toInt ≤ 1000 := hg1
    have hTc : ∀ w : Nat, w ≤ 16 → xTc sn ln n lit h t s g kn lo lf w = mTc sn ln nM oM hM tM sM gM knM loM lfM w := fun w hw => by
      rw [e1, e2, eK, eLo, eLf, cg_Tc hn hw eH eT eS eG]; exact xTc_m hn ho
    refine k_iload (q := 147) C 11 dL_isSo_145 rfl rfl ?_
    refine k_aload_n (q := 148) C 2 dL_isSo_147 rfl rfl ?_
    refine k_bipush (q := 150) (v := 8) C dL_isSo_148 (by decide +kernel) rfl ?_
    refine k_iald (q := 151) C 0 rfl (vp_in_nI (n := 8) (by decide) (by decide)) dL_isSo_150 rfl ?_
    refine k_sti (show ((qSt nM oM sM gM knM loM lfM) (8 : Int32).toNatClampNeg : Int32) = (qSt nM oM sM gM knM loM lfM) 8 from congrArg (qSt nM oM sM gM knM loM lfM) (nI_clamp (n := 8) (by decide))) ?_
    refine k_sti (show ((qSt nM oM sM gM knM loM lfM) 8 : Int32) = nI nM from rfl) ?_
    refine k_nicmp_ge (a := k) (b := nM)  (tgt := 216) (q := 154) C dL_isSo_151 (by decide) rfl (by omega) (by omega) ?_ ?_
    · intro c_151
      have hke : k = nM := by omega
      have hcp := sCnt_le (sPair (mLit oM) hM tM gM) nM
      have hcc := sCnt_le (sClose (mLit oM) hM tM sM gM) nM
      obtain rfl : nM = k := hke.symm
      refine k_iload (q := 218) C 10 dL_isSo_216 rfl rfl ?_
      refine k_if_eq (tgt := 389) (q := 221) C dL_isSo_218 (by decide) rfl ?_ ?_
      · exact fun c_218 => absurd c_218 (by decide)
      · intro c_218
        refine k_aload_n (q := 222) C 0 dL_isSo_221 rfl rfl ?_
        refine k_iconst (q := 223) (v := 0) C dL_isSo_222 (by decide) rfl ?_
        refine k_callSIw (n := 2) (q := 226) (pre := (wLa e cy (qSt nM oM sM gM knM loM lfM) hM tM lM (lBm hM tM (gM 1) (lBm hM tM (nI (lHz oM hM tM gM nM)) (lBm hM tM (nI (min ((lHz oM hM tM gM nM) + 1) 1000)) (lBm hM tM 0 bM nM) nM) nM) nM) rM)) (post := ([] : va_W)) (w2 := ((wLa e cy (qSt nM oM sM gM knM loM lfM) hM tM lM (lBm hM tM (gM 1) (lBm hM tM (nI (lHz oM hM tM gM nM)) (lBm hM tM (nI (min ((lHz oM hM tM gM nM) + 1) 1000)) (lBm hM tM 0 bM nM) nM) nM) nM) rM) ++ ((wXo b cy (a 0) r nx sn ln (svOf sk) (kpOf sk) ik bf ++ wRd r kd hg nu dg ng tk) ++ (wSky a cy n lit h t s g kn lo lf nm ++ wOth sk cy S)))) (As := [.ref (b 0), .int 0]) (rest := []) C (c_L_count cy a b r nx sn ln sk S ik bf kd hg nu dg ng tk n lit h t s g kn lo lf nm 0 (by omega) (by decide)) gL_isSo_L_count rfl rfl rfl (by decide +kernel) (k_room hR (by decide)) ⟨Nat.zero_le _, Nat.zero_le _⟩ rfl rfl (Nat.le_of_ble_eq_true rfl) (k_pre) (k_pre.symm) dL_isSo_223 rfl ?_
        refine k_sti (show (xTc sn ln n lit h t s g kn lo lf 0 : Int32) = nI nM from hTc 0 (by decide)) ?_
        refine k_aload_n (q := 227) C 2 dL_isSo_226 rfl rfl ?_
        refine k_bipush (q := 229) (v := 8) C dL_isSo_227 (by decide +kernel) rfl ?_
        refine k_iald (q := 230) C 0 rfl (vp_in_nI (n := 8) (by decide) (by decide)) dL_isSo_229 rfl ?_
        refine k_sti (show ((qSt nM oM sM gM knM loM lfM) (8 : Int32).toNatClampNeg : Int32) = (qSt nM oM sM gM knM loM lfM) 8 from congrArg (qSt nM oM sM gM knM loM lfM) (nI_clamp (n := 8) (by decide))) ?_
        refine k_sti (show ((qSt nM oM sM gM knM loM lfM) 8 : Int32) = nI nM from rfl) ?_
        refine k_nicmp_ne (a := nM) (b := nM)  (tgt := 389) (q := 233) C dL_isSo_230 (by decide) rfl (by omega) (by omega) ?_ ?_
        · exact fun c_230 => absurd rfl c_230
        · intro c_230
          refine k_aload_n (q := 234) C 0 dL_isSo_233 rfl rfl ?_
          refine k_iconst (q := 235) (v := 1) C dL_isSo_234 (by decide) rfl ?_
          refine k_callSIw (n := 2) (q := 238) (pre := (wLa e cy (qSt nM oM sM gM knM loM lfM) hM tM lM (lBm hM tM (gM 1) (lBm hM tM (nI (lHz oM hM tM gM nM)) (lBm hM tM (nI (min ((lHz oM hM tM gM nM) + 1) 1000)) (lBm hM tM 0 bM nM) nM) nM) nM) rM)) (post := ([] : va_W)) (w2 := ((wLa e cy (qSt nM oM sM gM knM loM lfM) hM tM lM (lBm hM tM (gM 1) (lBm hM tM (nI (lHz oM hM tM gM nM)) (lBm hM tM (nI (min ((lHz oM hM tM gM nM) + 1) 1000)) (lBm hM tM 0 bM nM) nM) nM) nM) rM) ++ ((wXo b cy (a 0) r nx sn ln (svOf sk) (kpOf sk) ik bf ++ wRd r kd hg nu dg ng tk) ++ (wSky a cy n lit h t s g kn lo lf nm ++ wOth sk cy S)))) (As := [.ref (b 0), .int 1]) (rest := []) C (c_L_count cy a b r nx sn ln sk S ik bf kd hg nu dg ng tk n lit h t s g kn lo lf nm 1 (by omega) (by decide)) gL_isSo_L_count rfl rfl rfl (by decide +kernel) (k_room hR (by decide)) ⟨Nat.zero_le _, Nat.zero_le _⟩ rfl rfl (Nat.le_of_ble_eq_true rfl) (k_pre) (k_pre.symm) dL_isSo_235 rfl ?_
          refine k_sti (show (xTc sn ln n lit h t s g kn lo lf 1 : Int32) = sM 0 from hTc 1 (by decide)) ?_
          refine k_aload_n (q := 239) C 2 dL_isSo_238 rfl rfl ?_
          refine k_iconst (q := 240) (v := 4) C dL_isSo_239 (by decide) rfl ?_
          refine k_iald (q := 241) C 0 rfl (vp_in_nI (n := 4) (by decide) (by decide)) dL_isSo_240 rfl ?_
          refine k_sti (show ((qSt nM oM sM gM knM loM lfM) (4 : Int32).toNatClampNeg : Int32) = (qSt nM oM sM gM knM loM lfM) 4 from congrArg (qSt nM oM sM gM knM loM lfM) (nI_clamp (n := 4) (by decide))) ?_
          refine k_sti (show ((qSt nM oM sM gM knM loM lfM) 4 : Int32) = sM 0 from mSt_s (k := 0) (by decide)) ?_
          refine k_icmp_ne (tgt := 389) (q := 244) C dL_isSo_241 (by decide) rfl ?_ ?_
          · exact fun c_241 => absurd rfl c_241
          · intro c_241
            refine k_aload_n (q := 245) C 0 dL_isSo_244 rfl rfl ?_
            refine k_iconst (q := 246) (v := 2) C dL_isSo_245 (by decide) rfl ?_
            refine k_callSIw (n := 2) (q := 249) (pre := (wLa e cy (qSt nM oM sM gM knM loM lfM) hM tM lM (lBm hM tM (gM 1) (lBm hM tM (nI (lHz oM hM tM gM nM)) (lBm hM tM (nI (min ((lHz oM hM tM gM nM) + 1) 1000)) (lBm hM tM 0 bM nM) nM) nM) nM) rM)) (post := ([] : va_W)) (w2 := ((wLa e cy (qSt nM oM sM gM knM loM lfM) hM tM lM (lBm hM tM (gM 1) (lBm hM tM (nI (lHz oM hM tM gM nM)) (lBm hM tM (nI (min ((lHz oM hM tM gM nM) + 1) 1000)) (lBm hM tM 0 bM nM) nM) nM) nM) rM) ++ ((wXo b cy (a 0) r nx sn ln (svOf sk) (kpOf sk) ik bf ++ wRd r kd hg nu dg ng tk) ++ (wSky a cy n lit h t s g kn lo lf nm ++ wOth sk cy S)))) (As := [.ref (b 0), .int 2]) (rest := []) C (c_L_count cy a b r nx sn ln sk S ik bf kd hg nu dg ng tk n lit h t s g kn lo lf nm 2 (by omega) (by decide)) gL_isSo_L_count rfl rfl rfl (by decide +kernel) (k_room hR (by decide)) ⟨Nat.zero_le _, Nat.zero_le _⟩ rfl rfl (Nat.le_of_ble_eq_true rfl) (k_pre) (k_pre.symm) dL_isSo_246 rfl ?_
            refine k_sti (show (xTc sn ln n lit h t s g kn lo lf 2 : Int32) = sM 1 from hTc 2 (by decide)) ?_
            refine k_aload_n (q := 250) C 2 dL_isSo_249 rfl rfl ?_
            refine k_iconst (q := 251) (v := 5) C dL_isSo_250 (by decide) rfl ?_
            refine k_iald (q := 252) C 0 rfl (vp_in_nI (n := 5) (by decide) (by decide)) dL_isSo_251 rfl ?_
            refine k_sti (show ((qSt nM oM sM gM knM loM lfM) (5 : Int32).toNatClampNeg : Int32) = (qSt nM oM sM gM knM loM lfM) 5 from congrArg (qSt nM oM sM gM knM loM lfM) (nI_clamp (n := 5) (by decide))) ?_
            refine k_sti (show ((qSt nM oM sM gM knM loM lfM) 5 : Int32) = sM 1 from mSt_s (k := 1) (by decide)) ?_
            refine k_icmp_ne (tgt := 389) (q := 255) C dL_isSo_252 (by decide) rfl ?_ ?_
            · exact fun c_252 => absurd rfl c_252
            · intro c_252
              refine k_aload_n (q := 256) C 0 dL_isSo_255 rfl rfl ?_
              refine k_iconst (q := 257) (v := 3) C dL_isSo_256 (by decide) rfl ?_
              refine k_callSIw (n := 2) (q := 260) (pre := (wLa e cy (qSt nM oM sM gM knM loM lfM) hM tM lM (lBm hM tM (gM 1) (lBm hM tM (nI (lHz oM hM tM gM nM)) (lBm hM tM (nI (min ((lHz oM hM tM gM nM) + 1) 1000)) (lBm hM tM 0 bM nM) nM) nM) nM) rM)) (post := ([] : va_W)) (w2 := ((wLa e cy (qSt nM oM sM gM knM loM lfM) hM tM lM (lBm hM tM (gM 1) (lBm hM tM (nI (lHz oM hM tM gM nM)) (lBm hM tM (nI (min ((lHz oM hM tM gM nM) + 1) 1000)) (lBm hM tM 0 bM nM) nM) nM) nM) rM) ++ ((wXo b cy (a 0) r nx sn ln (svOf sk) (kpOf sk) ik bf ++ wRd r kd hg nu dg ng tk) ++ (wSky a cy n lit h t s g kn lo lf nm ++ wOth sk cy S)))) (As := [.ref (b 0), .int 3]) (rest := []) C (c_L_count cy a b r nx sn ln sk S ik bf kd hg nu dg ng tk n lit h t s g kn lo lf nm 3 (by omega) (by decide)) gL_isSo_L_count rfl rfl rfl (by decide +kernel) (k_room hR (by decide)) ⟨Nat.zero_le _, Nat.zero_le _⟩ rfl rfl (Nat.le_of_ble_eq_true rfl) (k_pre) (k_pre.symm) dL_isSo_257 rfl ?_
              refine k_sti (show (xTc sn ln n lit h t s g kn lo lf 3 : Int32) = oM 0 + 2 * oM 1 from hTc 3 (by decide)) ?_
              refine k_aload_n (q := 261) C 2 dL_isSo_260 rfl rfl ?_
              refine k_bipush (q := 263) (v := 6) C dL_isSo_261 (by decide +kernel) rfl ?_
              refine k_iald (q := 264) C 0 rfl (vp_in_nI (n := 6) (by decide) (by decide)) dL_isSo_263 rfl ?_
              refine k_sti (show ((qSt nM oM sM gM knM loM lfM) (6 : Int32).toNatClampNeg : Int32) = (qSt nM oM sM gM knM loM lfM) 6 from congrArg (qSt nM oM sM gM knM loM lfM) (nI_clamp (n := 6) (by decide))) ?_
              refine k_sti (show ((qSt nM oM sM gM knM loM lfM) 6 : Int32) = oM 0 from mSt_o (k := 0) (by decide)) ?_
              refine k_iconst (q := 265) (v := 2) C dL_isSo_264 (by decide) rfl ?_
              refine k_aload_n (q := 266) C 2 dL_isSo_265 rfl rfl ?_
              refine k_bipush (q := 268) (v := 7) C dL_isSo_266 (by decide +kernel) rfl ?_
              refine k_iald (q := 269) C 0 rfl (vp_in_nI (n := 7) (by decide) (by decide)) dL_isSo_268 rfl ?_
              refine k_sti (show ((qSt nM oM sM gM knM loM lfM) (7 : Int32).toNatClampNeg : Int32) = (qSt nM oM sM gM knM loM lfM) 7 from congrArg (qSt nM oM sM gM knM loM lfM) (nI_clamp (n := 7) (by decide))) ?_
              refine k_sti (show ((qSt nM oM sM gM knM loM lfM) 7 : Int32) = oM 1 from mSt_o (k := 1) (by decide)) ?_
              refine k_imul (q := 270) C dL_isSo_269 rfl ?_
              refine k_iadd (q := 271) C dL_isSo_270 rfl ?_
              refine k_icmp_ne (tgt := 389) (q := 274) C dL_isSo_271 (by decide) rfl ?_ ?_
              · exact fun c_271 => absurd rfl c_271
              · intro c_271
                refine k_aload_n (q := 275) C 0 dL_isSo_274 rfl rfl ?_
                refine k_iconst (q := 276) (v := 4) C dL_isSo_275 (by decide) rfl ?_
                refine k_callSIw (n := 2) (q := 279) (pre := (wLa e cy (qSt nM oM sM gM knM loM lfM) hM tM lM (lBm hM tM (gM 1) (lBm hM tM (nI (lHz oM hM tM gM nM)) (lBm hM tM (nI (min ((lHz oM hM tM gM nM) + 1) 1000)) (lBm hM tM 0 bM nM) nM) nM) nM) rM)) (post := ([] : va_W)) (w2 := ((wLa e cy (qSt nM oM sM gM knM loM lfM) hM tM lM (lBm hM tM (gM 1) (lBm hM tM (nI (lHz oM hM tM gM nM)) (lBm hM tM (nI (min ((lHz oM hM tM gM nM) + 1) 1000)) (lBm hM tM 0 bM nM) nM) nM) nM) rM) ++ ((wXo b cy (a 0) r nx sn ln (svOf sk) (kpOf sk) ik bf ++ wRd r kd hg nu dg ng tk) ++ (wSky a cy n lit h t s g kn lo lf nm ++ wOth sk cy S)))) (As := [.ref (b 0), .int 4]) (rest := []) C (c_L_count cy a b r nx sn ln sk S ik bf kd hg nu dg ng tk n lit h t s g kn lo lf nm 4 (by omega) (by decide)) gL_isSo_L_count rfl rfl rfl (by decide +kernel) (k_room hR (by decide)) ⟨Nat.zero_le _, Nat.zero_le _⟩ rfl rfl (Nat.le_of_ble_eq_true rfl) (k_pre) (k_pre.symm) dL_isSo_276 rfl ?_
                refine k_sti (show (xTc sn ln n lit h t s g kn lo lf 4 : Int32) = sMeet gM (sM 0) (sM 1) from hTc 4 (by decide)) ?_
                have J_279 : kG X 19 0 0 ((wLa e cy (qSt nM oM sM gM knM loM lfM) hM tM lM (lBm hM tM (gM 1) (lBm hM tM (nI (lHz oM hM tM gM nM)) (lBm hM tM (nI (min ((lHz oM hM tM gM nM) + 1) 1000)) (lBm hM tM 0 bM nM) nM) nM) nM) rM) ++ ((wXo b cy (a 0) r nx sn ln (svOf sk) (kpOf sk) ik bf ++ wRd r kd hg nu dg ng tk) ++ (wSky a cy n lit h t s g kn lo lf nm ++ wOth sk cy S))) 307 [(0, .ref (b 0)), (1, .int x), (2, .ref (e 0)), (3, .ref (e 1)), (4, .ref (e 2)), (5, .ref (e 3)), (6, .ref (e 4)), (7, .ref (e 5)), (8, .int (nI (sCnt (sPair (mLit oM) hM tM gM) nM))), (9, .int (nI (sCnt (sClose (mLit oM) hM tM sM gM) nM))), (12, .int 1), (13, .int (nI nM))] [.int (sMeet gM (sM 0) (sM 1)), .int (sMeet gM (sM 0) (sM 1))] := by
                  refine k_icmp_ne (tgt := 389) (q := 310) C dL_isSo_307 (by decide) rfl ?_ ?_
                  · exact fun c_307 => absurd rfl c_307
                  · intro c_307
                    refine k_aload_n (q := 311) C 0 dL_isSo_310 rfl rfl ?_
                    refine k_iconst (q := 312) (v := 5) C dL_isSo_311 (by decide) rfl ?_
                    refine k_callSIw (n := 2) (q := 315) (pre := (wLa e cy (qSt nM oM sM gM knM loM lfM) hM tM lM (lBm hM tM (gM 1) (lBm hM tM (nI (lHz oM hM tM gM nM)) (lBm hM tM (nI (min ((lHz oM hM tM gM nM) + 1) 1000)) (lBm hM tM 0 bM nM) nM) nM) nM) rM)) (post := ([] : va_W)) (w2 := ((wLa e cy (qSt nM oM sM gM knM loM lfM) hM tM lM (lBm hM tM (gM 1) (lBm hM tM (nI (lHz oM hM tM gM nM)) (lBm hM tM (nI (min ((lHz oM hM tM gM nM) + 1) 1000)) (lBm hM tM 0 bM nM) nM) nM) nM) rM) ++ ((wXo b cy (a 0) r nx sn ln (svOf sk) (kpOf sk) ik bf ++ wRd r kd hg nu dg ng tk) ++ (wSky a cy n lit h t s g kn lo lf nm ++ wOth sk cy S)))) (As := [.ref (b 0), .int 5]) (rest := []) C (c_L_count cy a b r nx sn ln sk S ik bf kd hg nu dg ng tk n lit h t s g kn lo lf nm 5 (by omega) (by decide)) gL_isSo_L_count rfl rfl rfl (by decide +kernel) (k_room hR (by decide)) ⟨Nat.zero_le _, Nat.zero_le _⟩ rfl rfl (Nat.le_of_ble_eq_true rfl) (k_pre) (k_pre.symm) dL_isSo_312 rfl ?_
                    refine k_sti (show (xTc sn ln n lit h t s g kn lo lf 5 : Int32) = mSpots oM hM tM gM (gM 1) nM from hTc 5 (by decide)) ?_
                    refine k_aload_n (q := 316) C 2 dL_isSo_315 rfl rfl ?_
                    refine k_aload (q := 318) C 6 dL_isSo_316 rfl rfl ?_
                    refine k_callSI (n := 2) (q := 321) (pre := ([] : va_W)) (post := ((wXo b cy (a 0) r nx sn ln (svOf sk) (kpOf sk) ik bf ++ wRd r kd hg nu dg ng tk) ++ (wSky a cy n lit h t s g kn lo lf nm ++ wOth sk cy S))) (w2 := ((wLa e cy (qSt nM oM sM gM knM loM lfM) hM tM lM (lBm hM tM (gM 1) (lBm hM tM (nI (lHz oM hM tM gM nM)) (lBm hM tM (nI (min ((lHz oM hM tM gM nM) + 1) 1000)) (lBm hM tM 0 bM nM) nM) nM) nM) rM) ++ ((wXo b cy (a 0) r nx sn ln (svOf sk) (kpOf sk) ik bf ++ wRd r kd hg nu dg ng tk) ++ (wSky a cy n lit h t s g kn lo lf nm ++ wOth sk cy S)))) (As := [.ref (e 0), .ref (e 4)]) (rest := [.int (mSpots oM hM tM gM (gM 1) nM)]) C (c_L_seenAll cy e nM oM sM gM knM loM lfM hM tM lM (lBm hM tM (gM 1) (lBm hM tM (nI (lHz oM hM tM gM nM)) (lBm hM tM (nI (min ((lHz oM hM tM gM nM) + 1) 1000)) (lBm hM tM 0 bM nM) nM) nM) nM) rM (gM 1) hn (lBm_ok _ _ _ _ _)) gL_isSo_L_seenAll rfl rfl rfl (by decide +kernel) (k_room hR (by decide)) ⟨Nat.zero_le _, Nat.zero_le _⟩  rfl rfl (Nat.le_of_ble_eq_true rfl) (rfl) (rfl) dL_isSo_318 rfl ?_
                    refine k_icmp_ne (tgt := 389) (q := 324) C dL_isSo_321 (by decide) rfl ?_ ?_
                    · exact fun c_321 => absurd rfl c_321
                    · intro c_321
                      refine k_aload_n (q := 325) C 0 dL_isSo_324 rfl rfl ?_
                      refine k_bipush (q := 327) (v := 6) C dL_isSo_325 (by decide +kernel) rfl ?_
                      refine k_callSIw (n := 2) (q := 330) (pre := (wLa e cy (qSt nM oM sM gM knM loM lfM) hM tM lM (lBm hM tM (gM 1) (lBm hM tM (nI (lHz oM hM tM gM nM)) (lBm hM tM (nI (min ((lHz oM hM tM gM nM) + 1) 1000)) (lBm hM tM 0 bM nM) nM) nM) nM) rM)) (post := ([] : va_W)) (w2 := ((wLa e cy (qSt nM oM sM gM knM loM lfM) hM tM lM (lBm hM tM (gM 1) (lBm hM tM (nI (lHz oM hM tM gM nM)) (lBm hM tM (nI (min ((lHz oM hM tM gM nM) + 1) 1000)) (lBm hM tM 0 bM nM) nM) nM) nM) rM) ++ ((wXo b cy (a 0) r nx sn ln (svOf sk) (kpOf sk) ik bf ++ wRd r kd hg nu dg ng tk) ++ (wSky a cy n lit h t s g kn lo lf nm ++ wOth sk cy S)))) (As := [.ref (b 0), .int 6]) (rest := []) C (c_L_count cy a b r nx sn ln sk S ik bf kd hg nu dg ng tk n lit h t s g kn lo lf nm 6 (by omega) (by decide)) gL_isSo_L_count rfl rfl rfl (by decide +kernel) (k_room hR (by decide)) ⟨Nat.zero_le _, Nat.zero_le _⟩ rfl rfl (Nat.le_of_ble_eq_true rfl) (k_pre) (k_pre.symm) dL_isSo_327 rfl ?_
                      refine k_sti (show (xTc sn ln n lit h t s g kn lo lf 6 : Int32) = nI (sCnt (sPair (mLit oM) hM tM gM) nM) from hTc 6 (by decide)) ?_
                      refine k_iload (q := 332) C 8 dL_isSo_330 rfl rfl ?_
                      refine k_nicmp_ne (a := sCnt (sPair (mLit oM) hM tM gM) nM) (b := sCnt (sPair (mLit oM) hM tM gM) nM)  (tgt := 389) (q := 335) C dL_isSo_332 (by decide) rfl (by omega) (by omega) ?_ ?_
                      · exact fun c_332 => absurd rfl c_332
                      · intro c_332
                        refine k_aload_n (q := 336) C 0 dL_isSo_335 rfl rfl ?_
                        refine k_bipush (q := 338) (v := 7) C dL_isSo_336 (by decide +kernel) rfl ?_
                        refine k_callSIw (n := 2) (q := 341) (pre := (wLa e cy (qSt nM oM sM gM knM loM lfM) hM tM lM (lBm hM tM (gM 1) (lBm hM tM (nI (lHz oM hM tM gM nM)) (lBm hM tM (nI (min ((lHz oM hM tM gM nM) + 1) 1000)) (lBm hM tM 0 bM nM) nM) nM) nM) rM)) (post := ([] : va_W)) (w2 := ((wLa e cy (qSt nM oM sM gM knM loM lfM) hM tM lM (lBm hM tM (gM 1) (lBm hM tM (nI (lHz oM hM tM gM nM)) (lBm hM tM (nI (min ((lHz oM hM tM gM nM) + 1) 1000)) (lBm hM tM 0 bM nM) nM) nM) nM) rM) ++ ((wXo b cy (a 0) r nx sn ln (svOf sk) (kpOf sk) ik bf ++ wRd r kd hg nu dg ng tk) ++ (wSky a cy n lit h t s g kn lo lf nm ++ wOth sk cy S)))) (As := [.ref (b 0), .int 7]) (rest := []) C (c_L_count cy a b r nx sn ln sk S ik bf kd hg nu dg ng tk n lit h t s g kn lo lf nm 7 (by omega) (by decide)) gL_isSo_L_count rfl rfl rfl (by decide +kernel) (k_room hR (by decide)) ⟨Nat.zero_le _, Nat.zero_le _⟩ rfl rfl (Nat.le_of_ble_eq_true rfl) (k_pre) (k_pre.symm) dL_isSo_338 rfl ?_
                        refine k_sti (show (xTc sn ln n lit h t s g kn lo lf 7 : Int32) = nI (sCnt (sClose (mLit oM) hM tM sM gM) nM) from hTc 7 (by decide)) ?_
                        refine k_iload (q := 343) C 9 dL_isSo_341 rfl rfl ?_
                        refine k_nicmp_ne (a := sCnt (sClose (mLit oM) hM tM sM gM) nM) (b := sCnt (sClose (mLit oM) hM tM sM gM) nM)  (tgt := 389) (q := 346) C dL_isSo_343 (by decide) rfl (by omega) (by omega) ?_ ?_
                        · exact fun c_343 => absurd rfl c_343
                        · intro c_343
                          refine k_aload_n (q := 347) C 0 dL_isSo_346 rfl rfl ?_
                          refine k_bipush (q := 349) (v := 8) C dL_isSo_347 (by decide +kernel) rfl ?_
                          refine k_callSIw (n := 2) (q := 352) (pre := (wLa e cy (qSt nM oM sM gM knM loM lfM) hM tM lM (lBm hM tM (gM 1) (lBm hM tM (nI (lHz oM hM tM gM nM)) (lBm hM tM (nI (min ((lHz oM hM tM gM nM) + 1) 1000)) (lBm hM tM 0 bM nM) nM) nM) nM) rM)) (post := ([] : va_W)) (w2 := ((wLa e cy (qSt nM oM sM gM knM loM lfM) hM tM lM (lBm hM tM (gM 1) (lBm hM tM (nI (lHz oM hM tM gM nM)) (lBm hM tM (nI (min ((lHz oM hM tM gM nM) + 1) 1000)) (lBm hM tM 0 bM nM) nM) nM) nM) rM) ++ ((wXo b cy (a 0) r nx sn ln (svOf sk) (kpOf sk) ik bf ++ wRd r kd hg nu dg ng tk) ++ (wSky a cy n lit h t s g kn lo lf nm ++ wOth sk cy S)))) (As := [.ref (b 0), .int 8]) (rest := []) C (c_L_count cy a b r nx sn ln sk S ik bf kd hg nu dg ng tk n lit h t s g kn lo lf nm 8 (by omega) (by decide)) gL_isSo_L_count rfl rfl rfl (by decide +kernel) (k_room hR (by decide)) ⟨Nat.zero_le _, Nat.zero_le _⟩ rfl rfl (Nat.le_of_ble_eq_true rfl) (k_pre) (k_pre.symm) dL_isSo_349 rfl ?_
                          refine k_sti (show (xTc sn ln n lit h t s g kn lo lf 8 : Int32) = nI knM from hTc 8 (by decide)) ?_
                          refine k_aload_n (q := 353) C 2 dL_isSo_352 rfl rfl ?_
                          refine k_bipush (q := 355) (v := 9) C dL_isSo_353 (by decide +kernel) rfl ?_
                          refine k_iald (q := 356) C 0 rfl (vp_in_nI (n := 9) (by decide) (by decide)) dL_isSo_355 rfl ?_
                          refine k_sti (show ((qSt nM oM sM gM knM loM lfM) (9 : Int32).toNatClampNeg : Int32) = (qSt nM oM sM gM knM loM lfM) 9 from congrArg (qSt nM oM sM gM knM loM lfM) (nI_clamp (n := 9) (by decide))) ?_
                          refine k_sti (show ((qSt nM oM sM gM knM loM lfM) 9 : Int32) = nI knM from rfl) ?_
                          refine k_nicmp_ne (a := knM) (b := knM)  (tgt := 389) (q := 359) C dL_isSo_356 (by decide) rfl (by omega) (by omega) ?_ ?_
                          · exact fun c_356 => absurd rfl c_356
                          · intro c_356
                            refine k_aload_n (q := 360) C 0 dL_isSo_359 rfl rfl ?_
                            refine k_bipush (q := 362) (v := 9) C dL_isSo_360 (by decide +kernel) rfl ?_
                            refine k_callSIw (n := 2) (q := 365) (pre := (wLa e cy (qSt nM oM sM gM knM loM lfM) hM tM lM (lBm hM tM (gM 1) (lBm hM tM (nI (lHz oM hM tM gM nM)) (lBm hM tM (nI (min ((lHz oM hM tM gM nM) + 1) 1000)) (lBm hM tM 0 bM nM) nM) nM) nM) rM)) (post := ([] : va_W)) (w2 := ((wLa e cy (qSt nM oM sM gM knM loM lfM) hM tM lM (lBm hM tM (gM 1) (lBm hM tM (nI (lHz oM hM tM gM nM)) (lBm hM tM (nI (min ((lHz oM hM tM gM nM) + 1) 1000)) (lBm hM tM 0 bM nM) nM) nM) nM) rM) ++ ((wXo b cy (a 0) r nx sn ln (svOf sk) (kpOf sk) ik bf ++ wRd r kd hg nu dg ng tk) ++ (wSky a cy n lit h t s g kn lo lf nm ++ wOth sk cy S)))) (As := [.ref (b 0), .int 9]) (rest := []) C (c_L_count cy a b r nx sn ln sk S ik bf kd hg nu dg ng tk n lit h t s g kn lo lf nm 9 (by omega) (by decide)) gL_isSo_L_count rfl rfl rfl (by decide +kernel) (k_room hR (by decide)) ⟨Nat.zero_le _, Nat.zero_le _⟩ rfl rfl (Nat.le_of_ble_eq_true rfl) (k_pre) (k_pre.symm) dL_isSo_362 rfl ?_
                            refine k_sti (show (xTc sn ln n lit h t s g kn lo lf 9 : Int32) = loM from hTc 9 (by decide)) ?_
                            refine k_aload_n (q := 366) C 2 dL_isSo_365 rfl rfl ?_
                            refine k_bipush (q := 368) (v := 10) C dL_isSo_366 (by decide +kernel) rfl ?_
                            refine k_iald (q := 369) C 0 rfl (vp_in_nI (n := 10) (by decide) (by decide)) dL_isSo_368 rfl ?_
                            refine k_sti (show ((qSt nM oM sM gM knM loM lfM) (10 : Int32).toNatClampNeg : Int32) = (qSt nM oM sM gM knM loM lfM) 10 from congrArg (qSt nM oM sM gM knM loM lfM) (nI_clamp (n := 10) (by decide))) ?_
                            refine k_sti (show ((qSt nM oM sM gM knM loM lfM) 10 : Int32) = loM from rfl) ?_
                            refine k_icmp_ne (tgt := 389) (q := 372) C dL_isSo_369 (by decide) rfl ?_ ?_
                            · exact fun c_369 => absurd rfl c_369
                            · intro c_369
                              refine k_aload_n (q := 373) C 0 dL_isSo_372 rfl rfl ?_
                              refine k_bipush (q := 375) (v := 10) C dL_isSo_373 (by decide +kernel) rfl ?_
                              refine k_callSIw (n := 2) (q := 378) (pre := (wLa e cy (qSt nM oM sM gM knM loM lfM) hM tM lM (lBm hM tM (gM 1) (lBm hM tM (nI (lHz oM hM tM gM nM)) (lBm hM tM (nI (min ((lHz oM hM tM gM nM) + 1) 1000)) (lBm hM tM 0 bM nM) nM) nM) nM) rM)) (post := ([] : va_W)) (w2 := ((wLa e cy (qSt nM oM sM gM knM loM lfM) hM tM lM (lBm hM tM (gM 1) (lBm hM tM (nI (lHz oM hM tM gM nM)) (lBm hM tM (nI (min ((lHz oM hM tM gM nM) + 1) 1000)) (lBm hM tM 0 bM nM) nM) nM) nM) rM) ++ ((wXo b cy (a 0) r nx sn ln (svOf sk) (kpOf sk) ik bf ++ wRd r kd hg nu dg ng tk) ++ (wSky a cy n lit h t s g kn lo lf nm ++ wOth sk cy S)))) (As := [.ref (b 0), .int 10]) (rest := []) C (c_L_count cy a b r nx sn ln sk S ik bf kd hg nu dg ng tk n lit h t s g kn lo lf nm 10 (by omega) (by decide)) gL_isSo_L_count rfl rfl rfl (by decide +kernel) (k_room hR (by decide)) ⟨Nat.zero_le _, Nat.zero_le _⟩ rfl rfl (Nat.le_of_ble_eq_true rfl) (k_pre) (k_pre.symm) dL_isSo_375 rfl ?_
                              refine k_sti (show (xTc sn ln n lit h t s g kn lo lf 10 : Int32) = lfM from hTc 10 (by decide)) ?_
                              refine k_aload_n (q := 379) C 2 dL_isSo_378 rfl rfl ?_
                              refine k_bipush (q := 381) (v := 11) C dL_isSo_379 (by decide +kernel) rfl ?_
                              refine k_iald (q := 382) C 0 rfl (vp_in_nI (n := 11) (by decide) (by decide)) dL_isSo_381 rfl ?_
                              refine k_sti (show ((qSt nM oM sM gM knM loM lfM) (11 : Int32).toNatClampNeg : Int32) = (qSt nM oM sM gM knM loM lfM) 11 from congrArg (qSt nM oM sM gM knM loM lfM) (nI_clamp (n := 11) (by decide))) ?_
                              refine k_sti (show ((qSt nM oM sM gM knM loM lfM) 11 : Int32) = lfM from rfl) ?_
                              refine k_icmp_ne (tgt := 389) (q := 385) C dL_isSo_382 (by decide) rfl ?_ ?_
                              · exact fun c_382 => absurd rfl c_382
                              · intro c_382
                                refine k_iconst (q := 386) (v := 1) C dL_isSo_385 (by decide) rfl ?_
                                refine k_goto (q := 390) C dL_isSo_386 (by decide) ?_
                                refine k_istore (q := 392) (fr2 := [(12, .int 1), (0, .ref (b 0)), (1, .int x), (2, .ref (e 0)), (3, .ref (e 1)), (4, .ref (e 2)), (5, .ref (e 3)), (6, .ref (e 4)), (7, .ref (e 5)), (8, .int (nI (sCnt (sPair (mLit oM) hM tM gM) nM))), (9, .int (nI (sCnt (sClose (mLit oM) hM tM sM gM) nM))), (13, .int (nI nM))]) C dL_isSo_390 (by decide) rfl rfl ?_
                                refine k_aload_n (q := 393) C 3 dL_isSo_392 rfl rfl ?_
                                refine k_aload_n (q := 394) C 4 dL_isSo_393 rfl rfl ?_
                                refine k_aload (q := 396) C 7 dL_isSo_394 rfl rfl ?_
                                refine k_aload (q := 398) C 8 dL_isSo_396 rfl rfl ?_
                                refine k_callSI (n := 4) (q := 401) (pre := ([] : va_W)) (post := ((wXo b cy (a 0) r nx sn ln (svOf sk) (kpOf sk) ik bf ++ wRd r kd hg nu dg ng tk) ++ (wSky a cy n lit h t s g kn lo lf nm ++ wOth sk cy S))) (w2 := ((wLa e cy (qSt nM oM sM gM knM loM lfM) hM tM lM (lBm hM tM (gM 1) (lBm hM tM (nI (lHz oM hM tM gM nM)) (lBm hM tM (nI (min ((lHz oM hM tM gM nM) + 1) 1000)) (lBm hM tM 0 bM nM) nM) nM) nM) (upd (upd (upd (upd rM 0 (mRn hM nM (sMeet gM (sM 0) (sM 1)) (mC (sClose (mLit oM) hM tM sM gM) (mD hM sM gM) nM) 0)) 1 (mRn hM nM (sMeet gM (sM 0) (sM 1)) (mC (sClose (mLit oM) hM tM sM gM) (mD hM sM gM) nM) 1)) 2 (mRn hM nM (sMeet gM (sM 0) (sM 1)) (mC (sClose (mLit oM) hM tM sM gM) (mD hM sM gM) nM) 2)) 3 (mRn hM nM (sMeet gM (sM 0) (sM 1)) (mC (sClose (mLit oM) hM tM sM gM) (mD hM sM gM) nM) 3))) ++ ((wXo b cy (a 0) r nx sn ln (svOf sk) (kpOf sk) ik bf ++ wRd r kd hg nu dg ng tk) ++ (wSky a cy n lit h t s g kn lo lf nm ++ wOth sk cy S)))) (As := [.ref (e 0), .ref (e 1), .ref (e 4), .ref (e 5)]) (rest := []) C (c_L_reads cy e nM oM sM gM knM loM lfM hM tM lM (lBm hM tM (gM 1) (lBm hM tM (nI (lHz oM hM tM gM nM)) (lBm hM tM (nI (min ((lHz oM hM tM gM nM) + 1) 1000)) (lBm hM tM 0 bM nM) nM) nM) nM) rM hn (lBm_ok _ _ _ _ _) ho hs0 hs1 hg0) gL_isSo_L_reads rfl rfl rfl (by decide +kernel) (k_room hR (by decide)) ⟨Nat.zero_le _, Nat.zero_le _⟩  rfl rfl (Nat.le_of_ble_eq_true rfl) (rfl) (rfl) dL_isSo_398 rfl ?_
                                refine k_istore (q := 403) (fr2 := [(13, .int (bI (lIs (sMeet gM (sM 0) (sM 1)) (mC (sClose (mLit oM) hM tM sM gM) (mD hM sM gM) nM)))), (12, .int 1), (0, .ref (b 0)), (1, .int x), (2, .ref (e 0)), (3, .ref (e 1)), (4, .ref (e 2)), (5, .ref (e 3)), (6, .ref (e 4)), (7, .ref (e 5)), (8, .int (nI (sCnt (sPair (mLit oM) hM tM gM) nM))), (9, .int (nI (sCnt (sClose (mLit oM) hM tM sM gM) nM)))]) C dL_isSo_401 (by decide) rfl rfl ?_
                                refine k_iconst (q := 404) (v := 0) C dL_isSo_403 (by decide) rfl ?_
                                refine k_istore (q := 406) (fr2 := [(14, .int 0), (13, .int (bI (lIs (sMeet gM (sM 0) (sM 1)) (mC (sClose (mLit oM) hM tM sM gM) (mD hM sM gM) nM)))), (12, .int 1), (0, .ref (b 0)), (1, .int x), (2, .ref (e 0)), (3, .ref (e 1)), (4, .ref (e 2)), (5, .ref (e 3)), (6, .ref (e 4)), (7, .ref (e 5)), (8, .int (nI (sCnt (sPair (mLit oM) hM tM gM) nM))), (9, .int (nI (sCnt (sClose (mLit oM) hM tM sM gM) nM)))]) C dL_isSo_404 (by decide) rfl rfl ?_
                                refine k_fr (fr2 := [(0, .ref (b 0)), (1, .int x), (2, .ref (e 0)), (3, .ref (e 1)), (4, .ref (e 2)), (5, .ref (e 3)), (6, .ref (e 4)), (7, .ref (e 5)), (12, .int 1), (13, .int (bI (lIs (sMeet gM (sM 0) (sM 1)) (mC (sClose (mLit oM) hM tM sM gM) (mD hM sM gM) nM)))), (14, .int 0)]) ⟨[3, 4, 5, 6, 7, 8, 9, 10, 2, 1, 0], rfl⟩ ?_
                                exact lp_L_isSo_406 cy e nM oM sM gM knM loM lfM hM tM lM bM rM a b r nx sn ln sk S ik bf kd hg nu dg ng tk n lit h t s g kn lo lf nm x hR0 hU X hR C E _ 0 (Nat.lt_succ_self _) (Nat.zero_le _)
                refine k_aload_n (q := 280) C 2 dL_isSo_279 rfl rfl ?_
                refine k_iconst (q := 281) (v := 4) C dL_isSo_280 (by decide) rfl ?_
                refine k_iald (q := 282) C 0 rfl (vp_in_nI (n := 4) (by decide) (by decide)) dL_isSo_281 rfl ?_
                refine k_sti (show ((qSt nM oM sM gM knM loM lfM) (4 : Int32).toNatClampNeg : Int32) = (qSt nM oM sM gM knM loM lfM) 4 from congrArg (qSt nM oM sM gM knM loM lfM) (nI_clamp (n := 4) (by decide))) ?_
                refine k_sti (show ((qSt nM oM sM gM knM loM lfM) 4 : Int32) = sM 0 from mSt_s (k := 0) (by decide)) ?_
                refine k_aload_n (q := 283) C 2 dL_isSo_282 rfl rfl ?_
                refine k_iconst (q := 284) (v := 5) C dL_isSo_283 (by decide) rfl ?_
                refine k_iald (q := 285) C 0 rfl (vp_in_nI (n := 5) (by decide) (by decide)) dL_isSo_284 rfl ?_
                refine k_sti (show ((qSt nM oM sM gM knM loM lfM) (5 : Int32).toNatClampNeg : Int32) = (qSt nM oM sM gM knM loM lfM) 5 from congrArg (qSt nM oM sM gM knM loM lfM) (nI_clamp (n := 5) (by decide))) ?_
                refine k_sti (show ((qSt nM oM sM gM knM loM lfM) 5 : Int32) = sM 1 from mSt_s (k := 1) (by decide)) ?_
                refine k_icmp_le (tgt := 305) (q := 288) C dL_isSo_285 (by decide) rfl ?_ ?_
                · intro c_285
                  refine k_ldc (q := 307) (v := -99999) C (List.mem_of_getElem? (i := 1) rfl) dL_isSo_305 rfl ?_
                  exact k_sti (show (-99999 : Int32) = sMeet gM (sM 0) (sM 1) from (if_neg (Int32.not_lt.mpr c_285)).symm) J_279
                · intro c_285
                  have c_285 := Int32.not_le.mp c_285
                  refine k_bipush (q := 290) (v := 10) C dL_isSo_288 (by decide +kernel) rfl ?_
                  refine k_aload_n (q := 291) C 2 dL_isSo_290 rfl rfl ?_
                  refine k_iconst (q := 292) (v := 0) C dL_isSo_291 (by decide) rfl ?_
                  refine k_iald (q := 293) C 0 rfl (vp_in_nI (n := 0) (by decide) (by decide)) dL_isSo_292 rfl ?_
                  refine k_sti (show ((qSt nM oM sM gM knM loM lfM) (0 : Int32).toNatClampNeg : Int32) = (qSt nM oM sM gM knM loM lfM) 0 from congrArg (qSt nM oM sM gM knM loM lfM) (nI_clamp (n := 0) (by decide))) ?_
                  refine k_sti (show ((qSt nM oM sM gM knM loM lfM) 0 : Int32) = gM 0 from mSt_g (k := 0) (by decide)) ?_
                  refine k_imul (q := 294) C dL_isSo_293 rfl ?_
                  refine k_aload_n (q := 295) C 2 dL_isSo_294 rfl rfl ?_
                  refine k_iconst (q := 296) (v := 4) C dL_isSo_295 (by decide) rfl ?_
                  refine k_iald (q := 297) C 0 rfl (vp_in_nI (n := 4) (by decide) (by decide)) dL_isSo_296 rfl ?_
                  refine k_sti (show ((qSt nM oM sM gM knM loM lfM) (4 : Int32).toNatClampNeg : Int32) = (qSt nM oM sM gM knM loM lfM) 4 from congrArg (qSt nM oM sM gM knM loM lfM) (nI_clamp (n := 4) (by decide))) ?_
                  refine k_sti (show ((qSt nM oM sM gM knM loM lfM) 4 : Int32) = sM 0 from mSt_s (k := 0) (by decide)) ?_
                  refine k_aload_n (q := 298) C 2 dL_isSo_297 rfl rfl ?_
                  refine k_iconst (q := 299) (v := 5) C dL_isSo_298 (by decide) rfl ?_
                  refine k_iald (q := 300) C 0 rfl (vp_in_nI (n := 5) (by decide) (by decide)) dL_isSo_299 rfl ?_
                  refine k_sti (show ((qSt nM oM sM gM knM loM lfM) (5 : Int32).toNatClampNeg : Int32) = (qSt nM oM sM gM knM loM lfM) 5 from congrArg (qSt nM oM sM gM knM loM lfM) (nI_clamp (n := 5) (by decide))) ?_
                  refine k_sti (show ((qSt nM oM sM gM knM loM lfM) 5 : Int32) = sM 1 from mSt_s (k := 1) (by decide)) ?_
                  refine k_isub (q := 301) C dL_isSo_300 rfl ?_
                  refine k_idiv (q := 302) C dL_isSo_301 (k_ne_sub c_285) rfl ?_
                  refine k_goto (q := 307) C dL_isSo_302 (by decide) ?_
                  exact k_sti (show ((10 * (gM 0)) / ((sM 0) - (sM 1)) : Int32) = sMeet gM (sM 0) (sM 1) from (if_pos c_285).symm) J_279
    · intro c_151
      refine k_iload (q := 156) C 8 dL_isSo_154 rfl rfl ?_
      have J_156 : kG X 19 0 0 ((wLa e cy (qSt nM oM sM gM knM loM lfM) hM tM lM (lBm hM tM (gM 1) (lBm hM tM (nI (lHz oM hM tM gM nM)) (lBm hM tM (nI (min ((lHz oM hM tM gM nM) + 1) 1000)) (lBm hM tM 0 bM nM) nM) nM) nM) rM) ++ ((wXo b cy (a 0) r nx sn ln (svOf sk) (kpOf sk) ik bf ++ wRd r kd hg nu dg ng tk) ++ (wSky a cy n lit h t s g kn lo lf nm ++ wOth sk cy S))) 185 [(0, .ref (b 0)), (1, .int x), (2, .ref (e 0)), (3, .ref (e 1)), (4, .ref (e 2)), (5, .ref (e 3)), (6, .ref (e 4)), (7, .ref (e 5)), (8, .int (nI (sCnt (sPair (mLit oM) hM tM gM) k))), (9, .int (nI (sCnt (sClose (mLit oM) hM tM sM gM) k))), (12, .int 1), (13, .int (nI k))] [.int (nI (if sPair (mLit oM) hM tM gM k = true then 1 else 0)), .int (nI (sCnt (sPair (mLit oM) hM tM gM) k))] := by
        refine k_iadd (q := 186) C dL_isSo_185 rfl ?_
        refine k_sti (show ((nI (sCnt (sPair (mLit oM) hM tM gM) k)) + (nI (if sPair (mLit oM) hM tM gM k = true then 1 else 0)) : Int32) = nI (sCnt (sPair (mLit oM) hM tM gM) k + (if sPair (mLit oM) hM tM gM k = true then 1 else 0)) from nI_add (sCnt (sPair (mLit oM) hM tM gM) k) (if sPair (mLit oM) hM tM gM k = true then 1 else 0)) ?_
        refine k_istore (q := 188) (fr2 := [(8, .int (nI (sCnt (sPair (mLit oM) hM tM gM) k + (if sPair (mLit oM) hM tM gM k = true then 1 else 0)))), (0, .ref (b 0)), (1, .int x), (2, .ref (e 0)), (3, .ref (e 1)), (4, .ref (e 2)), (5, .ref (e 3)), (6, .ref (e 4)), (7, .ref (e 5)), (9, .int (nI (sCnt (sClose (mLit oM) hM tM sM gM) k))), (12, .int 1), (13, .int (nI k))]) C dL_isSo_186 (by decide) rfl rfl ?_
        refine k_iload (q := 190) C 9 dL_isSo_188 rfl rfl ?_
        refine k_iload (q := 192) C 11 dL_isSo_190 rfl rfl ?_
        refine k_aload_n (q := 193) C 3 dL_isSo_192 rfl rfl ?_
        refine k_aload_n (q := 194) C 4 dL_isSo_193 rfl rfl ?_
        refine k_aload (q := 196) C 7 dL_isSo_194 rfl rfl ?_
        refine k_callSI (n := 4) (q := 199) (pre := ([] : va_W)) (post := ((wXo b cy (a 0) r nx sn ln (svOf sk) (kpOf sk) ik bf ++ wRd r kd hg nu dg ng tk) ++ (wSky a cy n lit h t s g kn lo lf nm ++ wOth sk cy S))) (w2 := ((wLa e cy (qSt nM oM sM gM knM loM lfM) hM tM lM (lBm hM tM (gM 1) (lBm hM tM (nI (lHz oM hM tM gM nM)) (lBm hM tM (nI (min ((lHz oM hM tM gM nM) + 1) 1000)) (lBm hM tM 0 bM nM) nM) nM) nM) rM) ++ ((wXo b cy (a 0) r nx sn ln (svOf sk) (kpOf sk) ik bf ++ wRd r kd hg nu dg ng tk) ++ (wSky a cy n lit h t s g kn lo lf nm ++ wOth sk cy S)))) (As := [.int (nI k), .ref (e 0), .ref (e 1), .ref (e 4)]) (rest := [.int (nI (sCnt (sClose (mLit oM) hM tM sM gM) k))]) C (c_L_close cy e nM oM sM gM knM loM lfM hM tM lM (lBm hM tM (gM 1) (lBm hM tM (nI (lHz oM hM tM gM nM)) (lBm hM tM (nI (min ((lHz oM hM tM gM nM) + 1) 1000)) (lBm hM tM 0 bM nM) nM) nM) nM) rM k hn c_151 (lBm_ok _ _ _ _ _) ho) gL_isSo_L_close rfl rfl rfl (by decide +kernel) (k_room hR (by decide)) ⟨Nat.zero_le _, Nat.zero_le _⟩  rfl rfl (Nat.le_of_ble_eq_true rfl) (rfl) (rfl) dL_isSo_196 rfl ?_
        have J_199 : kG X 19 0 0 ((wLa e cy (qSt nM oM sM gM knM loM lfM) hM tM lM (lBm hM tM (gM 1) (lBm hM tM (nI (lHz oM hM tM gM nM)) (lBm hM tM (nI (min ((lHz oM hM tM gM nM) + 1) 1000)) (lBm hM tM 0 bM nM) nM) nM) nM) rM) ++ ((wXo b cy (a 0) r nx sn ln (svOf sk) (kpOf sk) ik bf ++ wRd r kd hg nu dg ng tk) ++ (wSky a cy n lit h t s g kn lo lf nm ++ wOth sk cy S))) 207 [(8, .int (nI (sCnt (sPair (mLit oM) hM tM gM) k + (if sPair (mLit oM) hM tM gM k = true then 1 else 0)))), (0, .ref (b 0)), (1, .int x), (2, .ref (e 0)), (3, .ref (e 1)), (4, .ref (e 2)), (5, .ref (e 3)), (6, .ref (e 4)), (7, .ref (e 5)), (9, .int (nI (sCnt (sClose (mLit oM) hM tM sM gM) k))), (12, .int 1), (13, .int (nI k))] [.int (nI (if sClose (mLit oM) hM tM sM gM k = true then 1 else 0)), .int (nI (sCnt (sClose (mLit oM) hM tM sM gM) k))] := by
          refine k_iadd (q := 208) C dL_isSo_207 rfl ?_
          refine k_sti (show ((nI (sCnt (sClose (mLit oM) hM tM sM gM) k)) + (nI (if sClose (mLit oM) hM tM sM gM k = true then 1 else 0)) : Int32) = nI (sCnt (sClose (mLit oM) hM tM sM gM) k + (if sClose (mLit oM) hM tM sM gM k = true then 1 else 0)) from nI_add (sCnt (sClose (mLit oM) hM tM sM gM) k) (if sClose (mLit oM) hM tM sM gM k = true then 1 else 0)) ?_
          refine k_istore (q := 210) (fr2 := [(9, .int (nI (sCnt (sClose (mLit oM) hM tM sM gM) k + (if sClose (mLit oM) hM tM sM gM k = true then 1 else 0)))), (8, .int (nI (sCnt (sPair (mLit oM) hM tM gM) k + (if sPair (mLit oM) hM tM gM k = true then 1 else 0)))), (0, .ref (b 0)), (1, .int x), (2, .ref (e 0)), (3, .ref (e 1)), (4, .ref (e 2)), (5, .ref (e 3)), (6, .ref (e 4)), (7, .ref (e 5)), (12, .int 1), (13, .int (nI k))]) C dL_isSo_208 (by decide) rfl rfl ?_
          refine k_iinc (q := 213) (v := nI (k + 1)) (fr2 := [(13, .int (nI (k + 1))), (9, .int (nI (sCnt (sClose (mLit oM) hM tM sM gM) k + (if sClose (mLit oM) hM tM sM gM k = true then 1 else 0)))), (8, .int (nI (sCnt (sPair (mLit oM) hM tM gM) k + (if sPair (mLit oM) hM tM gM k = true then 1 else 0)))), (0, .ref (b 0)), (1, .int x), (2, .ref (e 0)), (3, .ref (e 1)), (4, .ref (e 2)), (5, .ref (e 3)), (6, .ref (e 4)), (7, .ref (e 5)), (12, .int 1)]) C 11 dL_isSo_210 rfl (nI_add k 1) (by decide) rfl rfl ?_
          refine k_goto (q := 145) C dL_isSo_213 (by decide) ?_
          refine k_fr (fr2 := [(0, .ref (b 0)), (1, .int x), (2, .ref (e 0)), (3, .ref (e 1)), (4, .ref (e 2)), (5, .ref (e 3)), (6, .ref (e 4)), (7, .ref (e 5)), (8, .int (nI (sCnt (sPair (mLit oM) hM tM gM) k + (if sPair (mLit oM) hM tM gM k = true then 1 else 0)))), (9, .int (nI (sCnt (sClose (mLit oM) hM tM sM gM) k + (if sClose (mLit oM) hM tM sM gM k = true then 1 else 0)))), (12, .int 1), (13, .int (nI (k + 1)))]) ⟨[3, 4, 5, 6, 7, 8, 9, 10, 2, 1, 11, 0], rfl⟩ ?_
          exact ih (k + 1) (by omega) (by omega)
        refine k_ifB_eq (tgt := 206) (q := 202) C dL_isSo_199 (by decide) rfl ?_ ?_
        · intro c_199
          refine k_iconst (q := 207) (v := 0) C dL_isSo_206 (by decide) rfl ?_
          exact k_sti (show (0 : Int32) = nI (if sClose (mLit oM) hM tM sM gM k = true then 1 else 0) from by rw [if_neg c_199]; rfl) J_199
        · intro c_199
          refine k_iconst (q := 203) (v := 1) C dL_isSo_202 (by decide) rfl ?_
          refine k_goto (q := 207) C dL_isSo_203 (by decide) ?_
          exact k_sti (show (1 : Int32) = nI (if sClose (mLit oM) hM tM sM gM k = true then 1 else 0) from by rw [if_pos c_199]; rfl) J_199
      refine k_iconst (q := 157) (v := 0) C dL_isSo_156 (by decide) rfl ?_
      refine k_iload (q := 159) C 11 dL_isSo_157 rfl rfl ?_
      refine k_aload_n (q := 160) C 2 dL_isSo_159 rfl rfl ?_
      refine k_aload (q := 162) C 6 dL_isSo_160 rfl rfl ?_
      refine k_callSI (n := 4) (q := 165) (pre := ([] : va_W)) (post := ((wXo b cy (a 0) r nx sn ln (svOf sk) (kpOf sk) ik bf ++ wRd r kd hg nu dg ng tk) ++ (wSky a cy n lit h t s g kn lo lf nm ++ wOth sk cy S))) (w2 := ((wLa e cy (qSt nM oM sM gM knM loM lfM) hM tM lM (lBm hM tM (gM 1) (lBm hM tM (nI (lHz oM hM tM gM nM)) (lBm hM tM (nI (min ((lHz oM hM tM gM nM) + 1) 1000)) (lBm hM tM 0 bM nM) nM) nM) nM) rM) ++ ((wXo b cy (a 0) r nx sn ln (svOf sk) (kpOf sk) ik bf ++ wRd r kd hg nu dg ng tk) ++ (wSky a cy n lit h t s g kn lo lf nm ++ wOth sk cy S)))) (As := [.int 0, .int (nI k), .ref (e 0), .ref (e 4)]) (rest := [.int (nI (sCnt (sPair (mLit oM) hM tM gM) k))]) C (c_L_seen cy e nM oM sM gM knM loM lfM hM tM lM (lBm hM tM (gM 1) (lBm hM tM (nI (lHz oM hM tM gM nM)) (lBm hM tM (nI (min ((lHz oM hM tM gM nM) + 1) 1000)) (lBm hM tM 0 bM nM) nM) nM) nM) rM 0 k (gM 1) (by decide) hn c_151 (lBm_ok _ _ _ _ _)) gL_isSo_L_seen rfl rfl rfl (by decide +kernel) (k_room hR (by decide)) ⟨Nat.zero_le _, Nat.zero_le _⟩  rfl rfl (Nat.le_of_ble_eq_true rfl) (rfl) (rfl) dL_isSo_162 rfl ?_
      refine k_ifB_eq (tgt := 184) (q := 168) C dL_isSo_165 (by decide) rfl ?_ ?_
      · intro c_165
        refine k_iconst (q := 185) (v := 0) C dL_isSo_184 (by decide) rfl ?_
        exact k_sti (show (0 : Int32) = nI (if sPair (mLit oM) hM tM gM k = true then 1 else 0) from by rw [if_neg (fun q => c_165 (mPair_1 ho q))]; rfl) J_156
      · intro c_165
        refine k_iconst (q := 169) (v := 1) C dL_isSo_168 (by decide) rfl ?_
        refine k_iload (q := 171) C 11 dL_isSo_169 rfl rfl ?_
        refine k_aload_n (q := 172) C 2 dL_isSo_171 rfl rfl ?_
        refine k_aload (q := 174) C 6 dL_isSo_172 rfl rfl ?_
        refine k_callSI (n := 4) (q := 177) (pre := ([] : va_W)) (post := ((wXo b cy (a 0) r nx sn ln (svOf sk) (kpOf sk) ik bf ++ wRd r kd hg nu dg ng tk) ++ (wSky a cy n lit h t s g kn lo lf nm ++ wOth sk cy S))) (w2 := ((wLa e cy (qSt nM oM sM gM knM loM lfM) hM tM lM (lBm hM tM (gM 1) (lBm hM tM (nI (lHz oM hM tM gM nM)) (lBm hM tM (nI (min ((lHz oM hM tM gM nM) + 1) 1000)) (lBm hM tM 0 bM nM) nM) nM) nM) rM) ++ ((wXo b cy (a 0) r nx sn ln (svOf sk) (kpOf sk) ik bf ++ wRd r kd hg nu dg ng tk) ++ (wSky a cy n lit h t s g kn lo lf nm ++ wOth sk cy S)))) (As := [.int 1, .int (nI k), .ref (e 0), .ref (e 4)]) (rest := [.int (nI (sCnt (sPair (mLit oM) hM tM gM) k))]) C (c_L_seen cy e nM oM sM gM knM loM lfM hM tM lM (lBm hM tM (gM 1) (lBm hM tM (nI (lHz oM hM tM gM nM)) (lBm hM tM (nI (min ((lHz oM hM tM gM nM) + 1) 1000)) (lBm hM tM 0 bM nM) nM) nM) nM) rM 1 k (gM 1) (by decide) hn c_151 (lBm_ok _ _ _ _ _)) gL_isSo_L_seen rfl rfl rfl (by decide +kernel) (k_room hR (by decide)) ⟨Nat.zero_le _, Nat.zero_le _⟩  rfl rfl (Nat.le_of_ble_eq_true rfl) (rfl) (rfl) dL_isSo_174 rfl ?_
        refine k_ifB_eq (tgt := 184) (q := 180) C dL_isSo_177 (by decide) rfl ?_ ?_
        · intro c_177
          refine k_iconst (q := 185) (v := 0) C dL_isSo_184 (by decide) rfl ?_
          exact k_sti (show (0 : Int32) = nI (if sPair (mLit oM) hM tM gM k = true then 1 else 0) from by rw [if_neg (fun q => c_177 (mPair_2 ho q))]; rfl) J_156
        · intro c_177
          refine k_iconst (q := 181) (v := 1) C dL_isSo_180 (by decide) rfl ?_
          refine k_goto (q := 185) C dL_isSo_181 (by decide) ?_
          exact k_sti (show (1 : Int32) = nI (if sPair (mLit oM) hM tM gM k = true then 1 else 0) from by rw [if_pos (mPair_i ho c_165 c_177)]; rfl) J_156
set_option maxHeartbeats 4000000 in
set_option maxRecDepth 100000 in
theorem isSo_A (cy : Nat → ClassId) (e : Nat → Nat) (nM : Nat) (oM : Nat → Int32) (sM : Nat → Int32) (gM : Nat → Int32) (knM : Nat) (loM : Int32) (lfM : Int32) (hM : Nat → Int32) (tM : Nat → Int32) (lM : Nat → Int32) (bM : Nat → Int32) (rM : Nat → Int32) (a : Nat → Nat) (b : Nat → Nat) (r : Nat) (nx : Nat) (sn : Nat) (ln : Nat) (sk : Nat → Nat → Nat) (S : Nat → CK) (ik : Nat → Int32) (bf : Nat → Nat) (kd : Nat) (hg : Nat) (nu : Nat) (dg : Nat) (ng : Bool) (tk : Bool) (n : Nat) (lit : Int32) (h : Nat → Int32) (t : Nat → Int32) (s : Nat → Int32) (g : Nat → Int32) (kn : Nat) (lo : Int32) (lf : Int32) (nm : Nat → Int32) (x : Int32)  (hR0 : sRel ((n, lit, h, t, s, g, kn, lo, lf, nm) : CK) ((nM, oM, hM, tM, sM, gM, knM, loM, lfM, lM) : SK)) (hU : sUpw hM nM) (X : kX) (hR : xR X = rm_L_isSo) (C : kC X 19 RL cL_isSo wsL_isSo cy) (E : kG X 19 0 0 ((wLa e cy (qSt nM oM sM gM knM loM lfM) hM tM lM (lBm hM tM (gM 1) (lBm hM tM (nI (lHz oM hM tM gM nM)) (lBm hM tM (nI (min ((lHz oM hM tM gM nM) + 1) 1000)) (lBm hM tM 0 bM nM) nM) nM) nM) (upd (upd (upd (upd rM 0 (mRn hM nM (sMeet gM (sM 0) (sM 1)) (mC (sClose (mLit oM) hM tM sM gM) (mD hM sM gM) nM) 0)) 1 (mRn hM nM (sMeet gM (sM 0) (sM 1)) (mC (sClose (mLit oM) hM tM sM gM) (mD hM sM gM) nM) 1)) 2 (mRn hM nM (sMeet gM (sM 0) (sM 1)) (mC (sClose (mLit oM) hM tM sM gM) (mD hM sM gM) nM) 2)) 3 (mRn hM nM (sMeet gM (sM 0) (sM 1)) (mC (sClose (mLit oM) hM tM sM gM) (mD hM sM gM) nM) 3))) ++ ((wXo b cy (a 0) r nx sn ln (svOf sk) (kpOf sk) ik bf ++ wRd r kd hg nu dg ng tk) ++ (wSky a cy n lit h t s g kn lo lf nm ++ wOth sk cy S))) 613 [(12, .int 1), (16, .int (mEs lM knM)), (17, .int (nI (mEm lM knM))), (0, .ref (b 0)), (1, .int x), (2, .ref (e 0)), (3, .ref (e 1)), (4, .ref (e 2)), (5, .ref (e 3)), (6, .ref (e 4)), (7, .ref (e 5))] []) : kG X 19 0 0 ((wLa e cy (qSt nM oM sM gM knM loM lfM) hM tM lM bM rM) ++ ((wXo b cy (a 0) r nx sn ln (svOf sk) (kpOf sk) ik bf ++ wRd r kd hg nu dg ng tk) ++ (wSky a cy n lit h t s g kn lo lf nm ++ wOth sk cy S))) 0 [(0, .ref (b 0)), (1, .int x), (2, .ref (e 0)), (3, .ref (e 1)), (4, .ref (e 2)), (5, .ref (e 3)), (6, .ref (e 4)), (7, .ref (e 5))] [] := by
  obtain ⟨⟨hn, ho, hs0, hs1, hk, hh, ht, hg0, hg1, hg2, hg3⟩, e1, e2, eH, eT, eS, eG, eK, eLo, eLf, eN, eO⟩ := id hR0
  have hn : nM ≤ 6 := hn
  have ho : mBin oM := ho
  have hs0 : sOk (sM 0) := hs0
  have hs1 : sOk (sM 1) := hs1
  have hk : knM ≤ 8 := hk
  have hh : ∀ i, i < nM → 50 ≤ (hM i).toInt ∧ (hM i).toInt ≤ 3000 := hh
  have hg0 : 50 ≤ (gM 0).toInt ∧ (gM 0).toInt ≤ 1000 := hg0
  have hg3 : 0 ≤ (gM 3).toInt ∧ (gM 3).toInt ≤ 100 := hg3
  have e1 : n = nM := e1
  have e2 : lit = mLit oM := e2
  have eH : ∀ i, i < nM → h i = hM i := eH
  have eT : ∀ i, i < nM → t i = tM i := eT
  have eS : ∀ i, i < 2 → s i = sM i := eS
  have eG : ∀ i, i < 4 → g i = gM i := eG
  have eK : kn = knM := eK
  have eLo : lo = loM := eLo
  have eLf : lf = lfM := eLf
  have eN : ∀ i, i < 32 → nm i = lM i := eN
  have ht : ∀ i, i < nM → 1 ≤ (tM i).toInt ∧ (tM i).toInt ≤ 100 := ht
  have hg1 : 0 ≤ (gM 1).toInt ∧ (gM 1).toInt ≤ 1000 := hg1
  have hMz : ∀ z, sBits (nI (sMask h t g z n)) * sBits lit = mSpots oM hM tM gM z nM := fun z => by
    rw [e1, e2, cg_Mask eH eT eG (Nat.le_refl _)]; exact mSpots_s ho nM hn
  obtain ⟨hz1, hz2, hz3⟩ := mHz_at (f := fun k => mSpots oM hM tM gM (nI k) nM) (all := mSpots oM hM tM gM 0 nM) rfl 1000
  have hz1 : (lHz oM hM tM gM nM) ≤ 1000 := hz1
  have hz2 : mSpots oM hM tM gM (nI (lHz oM hM tM gM nM)) nM = mSpots oM hM tM gM 0 nM := hz2
  have hz3 : (lHz oM hM tM gM nM) < 1000 → ¬ mSpots oM hM tM gM (nI ((lHz oM hM tM gM nM) + 1)) nM = mSpots oM hM tM gM 0 nM := hz3
  have hzi : ∀ k : Nat, k ≤ 1000 → 0 ≤ (nI k).toInt ∧ (nI k).toInt ≤ 1000 := fun k hk => by rw [nI_toInt (by omega)]; omega
  refine k_iconst (q := 1) (v := 0) C dL_isSo_0 (by decide) rfl ?_
  refine k_istore (q := 3) (fr2 := [(8, .int 0), (0, .ref (b 0)), (1, .int x), (2, .ref (e 0)), (3, .ref (e 1)), (4, .ref (e 2)), (5, .ref (e 3)), (6, .ref (e 4)), (7, .ref (e 5))]) C dL_isSo_1 (by decide) rfl rfl ?_
  refine k_iconst (q := 4) (v := 0) C dL_isSo_3 (by decide) rfl ?_
  refine k_istore (q := 6) (fr2 := [(9, .int 0), (8, .int 0), (0, .ref (b 0)), (1, .int x), (2, .ref (e 0)), (3, .ref (e 1)), (4, .ref (e 2)), (5, .ref (e 3)), (6, .ref (e 4)), (7, .ref (e 5))]) C dL_isSo_4 (by decide) rfl rfl ?_
  refine k_iconst (q := 7) (v := 0) C dL_isSo_6 (by decide) rfl ?_
  refine k_aload_n (q := 8) C 4 dL_isSo_7 rfl rfl ?_
  refine k_aload_n (q := 9) C 5 dL_isSo_8 rfl rfl ?_
  refine k_aload (q := 11) C 6 dL_isSo_9 rfl rfl ?_
  refine k_aload (q := 13) C 8 dL_isSo_11 rfl rfl ?_
  refine k_callSV (n := 5) (q := 16) (pre := ([] : va_W)) (post := ((wXo b cy (a 0) r nx sn ln (svOf sk) (kpOf sk) ik bf ++ wRd r kd hg nu dg ng tk) ++ (wSky a cy n lit h t s g kn lo lf nm ++ wOth sk cy S))) (w2 := ((wLa e cy (qSt nM oM sM gM knM loM lfM) hM tM lM (lBm hM tM 0 bM nM) rM) ++ ((wXo b cy (a 0) r nx sn ln (svOf sk) (kpOf sk) ik bf ++ wRd r kd hg nu dg ng tk) ++ (wSky a cy n lit h t s g kn lo lf nm ++ wOth sk cy S)))) (As := [.int 0, .ref (e 0), .ref (e 1), .ref (e 2), .ref (e 4)]) (rest := []) C (c_L_beams cy e nM oM sM gM knM loM lfM hM tM lM bM rM 0 hn) gL_isSo_L_beams rfl rfl rfl (by decide +kernel) (k_room hR (by decide)) ⟨Nat.zero_le _, Nat.zero_le _⟩  rfl rfl (Nat.le_of_ble_eq_true rfl) (rfl) (rfl) dL_isSo_13 rfl ?_
  refine k_aload_n (q := 17) C 4 dL_isSo_16 rfl rfl ?_
  refine k_aload (q := 19) C 8 dL_isSo_17 rfl rfl ?_
  refine k_callSI (n := 2) (q := 22) (pre := ([] : va_W)) (post := ((wXo b cy (a 0) r nx sn ln (svOf sk) (kpOf sk) ik bf ++ wRd r kd hg nu dg ng tk) ++ (wSky a cy n lit h t s g kn lo lf nm ++ wOth sk cy S))) (w2 := ((wLa e cy (qSt nM oM sM gM knM loM lfM) hM tM lM (lBm hM tM 0 bM nM) rM) ++ ((wXo b cy (a 0) r nx sn ln (svOf sk) (kpOf sk) ik bf ++ wRd r kd hg nu dg ng tk) ++ (wSky a cy n lit h t s g kn lo lf nm ++ wOth sk cy S)))) (As := [.ref (e 0), .ref (e 4)]) (rest := []) C (c_L_seenAll cy e nM oM sM gM knM loM lfM hM tM lM (lBm hM tM 0 bM nM) rM 0 hn (lBm_ok _ _ _ _ _)) gL_isSo_L_seenAll rfl rfl rfl (by decide +kernel) (k_room hR (by decide)) ⟨Nat.zero_le _, Nat.zero_le _⟩  rfl rfl (Nat.le_of_ble_eq_true rfl) (rfl) (rfl) dL_isSo_19 rfl ?_
  refine k_istore (q := 24) (fr2 := [(10, .int (mSpots oM hM tM gM 0 nM)), (9, .int 0), (8, .int 0), (0, .ref (b 0)), (1, .int x), (2, .ref (e 0)), (3, .ref (e 1)), (4, .ref (e 2)), (5, .ref (e 3)), (6, .ref (e 4)), (7, .ref (e 5))]) C dL_isSo_22 (by decide) rfl rfl ?_
  refine k_aload_n (q := 25) C 3 dL_isSo_24 rfl rfl ?_
  refine k_callVI (n := 0) (q := 28) (pre := (wLa e cy (qSt nM oM sM gM knM loM lfM) hM tM lM (lBm hM tM 0 bM nM) rM)) (post := ([] : va_W)) (w2 := ((wLa e cy (qSt nM oM sM gM knM loM lfM) hM tM lM (lBm hM tM 0 bM nM) rM) ++ ((wXo b cy (a 0) r nx sn ln (svOf sk) (kpOf sk) ik bf ++ wRd r kd hg nu dg ng tk) ++ (wSky a cy n lit h t s g kn lo lf nm ++ wOth sk cy S)))) (As := []) (rest := []) C (c_X3_clearEnough cy a b r nx sn ln (svOf sk) (kpOf sk) ik bf kd hg nu dg ng tk n lit h t s g kn lo lf nm (wOth sk cy S) (by omega)) gL_isSo_X3_clearEnough rfl rfl rfl (by decide +kernel) (k_room hR (by decide)) ⟨Nat.zero_le _, Nat.zero_le _⟩ (ci := 3) rfl 0 rfl rfl rfl (Nat.le_of_ble_eq_true rfl) (k_pre) (k_pre.symm) dL_isSo_25 rfl ?_
  refine k_sti (show (nI (mHz (fun k => sBits (nI (sMask h t g (nI k) n)) * sBits lit) (sBits (nI (sMask h t g 0 n)) * sBits lit) 1000) : Int32) = nI (lHz oM hM tM gM nM) from by rw [show (fun k => sBits (nI (sMask h t g (nI k) n)) * sBits lit) = fun k => mSpots oM hM tM gM (nI k) nM from funext fun k => hMz (nI k), hMz 0]; rfl) ?_
  refine k_istore (q := 30) (fr2 := [(11, .int (nI (lHz oM hM tM gM nM))), (10, .int (mSpots oM hM tM gM 0 nM)), (9, .int 0), (8, .int 0), (0, .ref (b 0)), (1, .int x), (2, .ref (e 0)), (3, .ref (e 1)), (4, .ref (e 2)), (5, .ref (e 3)), (6, .ref (e 4)), (7, .ref (e 5))]) C dL_isSo_28 (by decide) rfl rfl ?_
  have J_30 : kG X 19 0 0 ((wLa e cy (qSt nM oM sM gM knM loM lfM) hM tM lM (lBm hM tM 0 bM nM) rM) ++ ((wXo b cy (a 0) r nx sn ln (svOf sk) (kpOf sk) ik bf ++ wRd r kd hg nu dg ng tk) ++ (wSky a cy n lit h t s g kn lo lf nm ++ wOth sk cy S))) 48 [(11, .int (nI (lHz oM hM tM gM nM))), (10, .int (mSpots oM hM tM gM 0 nM)), (9, .int 0), (8, .int 0), (0, .ref (b 0)), (1, .int x), (2, .ref (e 0)), (3, .ref (e 1)), (4, .ref (e 2)), (5, .ref (e 3)), (6, .ref (e 4)), (7, .ref (e 5))] [.int (nI (min ((lHz oM hM tM gM nM) + 1) 1000))] := by
    refine k_aload_n (q := 49) C 6 dL_isSo_48 rfl rfl ?_
    refine k_aload_n (q := 50) C 7 dL_isSo_49 rfl rfl ?_
    refine k_aload (q := 52) C 8 dL_isSo_50 rfl rfl ?_
    refine k_aload (q := 54) C 10 dL_isSo_52 rfl rfl ?_
    refine k_callSV (n := 5) (q := 57) (pre := ([] : va_W)) (post := ((wXo b cy (a 0) r nx sn ln (svOf sk) (kpOf sk) ik bf ++ wRd r kd hg nu dg ng tk) ++ (wSky a cy n lit h t s g kn lo lf nm ++ wOth sk cy S))) (w2 := ((wLa e cy (qSt nM oM sM gM knM loM lfM) hM tM lM (lBm hM tM (nI (min ((lHz oM hM tM gM nM) + 1) 1000)) (lBm hM tM 0 bM nM) nM) rM) ++ ((wXo b cy (a 0) r nx sn ln (svOf sk) (kpOf sk) ik bf ++ wRd r kd hg nu dg ng tk) ++ (wSky a cy n lit h t s g kn lo lf nm ++ wOth sk cy S)))) (As := [.int (nI (min ((lHz oM hM tM gM nM) + 1) 1000)), .ref (e 0), .ref (e 1), .ref (e 2), .ref (e 4)]) (rest := []) C (c_L_beams cy e nM oM sM gM knM loM lfM hM tM lM (lBm hM tM 0 bM nM) rM (nI (min ((lHz oM hM tM gM nM) + 1) 1000)) hn) gL_isSo_L_beams rfl rfl rfl (by decide +kernel) (k_room hR (by decide)) ⟨Nat.zero_le _, Nat.zero_le _⟩  rfl rfl (Nat.le_of_ble_eq_true rfl) (rfl) (rfl) dL_isSo_54 rfl ?_
    have J_57 : kG X 19 0 0 ((wLa e cy (qSt nM oM sM gM knM loM lfM) hM tM lM (lBm hM tM (nI (min ((lHz oM hM tM gM nM) + 1) 1000)) (lBm hM tM 0 bM nM) nM) rM) ++ ((wXo b cy (a 0) r nx sn ln (svOf sk) (kpOf sk) ik bf ++ wRd r kd hg nu dg ng tk) ++ (wSky a cy n lit h t s g kn lo lf nm ++ wOth sk cy S))) 81 [(11, .int (nI (lHz oM hM tM gM nM))), (10, .int (mSpots oM hM tM gM 0 nM)), (9, .int 0), (8, .int 0), (0, .ref (b 0)), (1, .int x), (2, .ref (e 0)), (3, .ref (e 1)), (4, .ref (e 2)), (5, .ref (e 3)), (6, .ref (e 4)), (7, .ref (e 5))] [.int 1] := by
      refine k_istore (q := 83) (fr2 := [(12, .int 1), (11, .int (nI (lHz oM hM tM gM nM))), (10, .int (mSpots oM hM tM gM 0 nM)), (9, .int 0), (8, .int 0), (0, .ref (b 0)), (1, .int x), (2, .ref (e 0)), (3, .ref (e 1)), (4, .ref (e 2)), (5, .ref (e 3)), (6, .ref (e 4)), (7, .ref (e 5))]) C dL_isSo_81 (by decide) rfl rfl ?_
      refine k_iload (q := 85) C 1 dL_isSo_83 rfl rfl ?_
      refine k_aload_n (q := 86) C 7 dL_isSo_85 rfl rfl ?_
      refine k_aload_n (q := 87) C 8 dL_isSo_86 rfl rfl ?_
      refine k_aload (q := 89) C 9 dL_isSo_87 rfl rfl ?_
      refine k_aload (q := 91) C 11 dL_isSo_89 rfl rfl ?_
      refine k_callSV (n := 5) (q := 94) (pre := ([] : va_W)) (post := ((wXo b cy (a 0) r nx sn ln (svOf sk) (kpOf sk) ik bf ++ wRd r kd hg nu dg ng tk) ++ (wSky a cy n lit h t s g kn lo lf nm ++ wOth sk cy S))) (w2 := ((wLa e cy (qSt nM oM sM gM knM loM lfM) hM tM lM (lBm hM tM (nI (lHz oM hM tM gM nM)) (lBm hM tM (nI (min ((lHz oM hM tM gM nM) + 1) 1000)) (lBm hM tM 0 bM nM) nM) nM) rM) ++ ((wXo b cy (a 0) r nx sn ln (svOf sk) (kpOf sk) ik bf ++ wRd r kd hg nu dg ng tk) ++ (wSky a cy n lit h t s g kn lo lf nm ++ wOth sk cy S)))) (As := [.int (nI (lHz oM hM tM gM nM)), .ref (e 0), .ref (e 1), .ref (e 2), .ref (e 4)]) (rest := []) C (c_L_beams cy e nM oM sM gM knM loM lfM hM tM lM (lBm hM tM (nI (min ((lHz oM hM tM gM nM) + 1) 1000)) (lBm hM tM 0 bM nM) nM) rM (nI (lHz oM hM tM gM nM)) hn) gL_isSo_L_beams rfl rfl rfl (by decide +kernel) (k_room hR (by decide)) ⟨Nat.zero_le _, Nat.zero_le _⟩  rfl rfl (Nat.le_of_ble_eq_true rfl) (rfl) (rfl) dL_isSo_91 rfl ?_
      refine k_iload (q := 96) C 0 dL_isSo_94 rfl rfl ?_
      refine k_if_eq (tgt := 127) (q := 99) C dL_isSo_96 (by decide) rfl ?_ ?_
      · exact fun c_96 => absurd c_96 (by decide)
      · intro c_96
        refine k_iload (q := 101) C 1 dL_isSo_99 rfl rfl ?_
        refine k_if_lt (tgt := 127) (q := 104) C dL_isSo_101 (by decide) rfl ?_ ?_
        · exact fun c_101 => absurd c_101 (nI_pos (by omega))
        · intro c_101
          have c_101 := Int32.not_lt.mp c_101
          refine k_iload (q := 106) C 1 dL_isSo_104 rfl rfl ?_
          refine k_sipush (q := 109) (v := 1000) C dL_isSo_106 (by decide +kernel) rfl ?_
          refine k_nicmp_gt (a := lHz oM hM tM gM nM) (b := 1000)  (tgt := 127) (q := 112) C dL_isSo_109 (by decide) rfl (by omega) (by decide) ?_ ?_
          · exact fun c_109 => absurd hz1 (by omega)
          · intro c_109
            refine k_aload_n (q := 113) C 7 dL_isSo_112 rfl rfl ?_
            refine k_aload (q := 115) C 11 dL_isSo_113 rfl rfl ?_
            refine k_callSI (n := 2) (q := 118) (pre := ([] : va_W)) (post := ((wXo b cy (a 0) r nx sn ln (svOf sk) (kpOf sk) ik bf ++ wRd r kd hg nu dg ng tk) ++ (wSky a cy n lit h t s g kn lo lf nm ++ wOth sk cy S))) (w2 := ((wLa e cy (qSt nM oM sM gM knM loM lfM) hM tM lM (lBm hM tM (nI (lHz oM hM tM gM nM)) (lBm hM tM (nI (min ((lHz oM hM tM gM nM) + 1) 1000)) (lBm hM tM 0 bM nM) nM) nM) rM) ++ ((wXo b cy (a 0) r nx sn ln (svOf sk) (kpOf sk) ik bf ++ wRd r kd hg nu dg ng tk) ++ (wSky a cy n lit h t s g kn lo lf nm ++ wOth sk cy S)))) (As := [.ref (e 0), .ref (e 4)]) (rest := []) C (c_L_seenAll cy e nM oM sM gM knM loM lfM hM tM lM (lBm hM tM (nI (lHz oM hM tM gM nM)) (lBm hM tM (nI (min ((lHz oM hM tM gM nM) + 1) 1000)) (lBm hM tM 0 bM nM) nM) nM) rM (nI (lHz oM hM tM gM nM)) hn (lBm_ok _ _ _ _ _)) gL_isSo_L_seenAll rfl rfl rfl (by decide +kernel) (k_room hR (by decide)) ⟨Nat.zero_le _, Nat.zero_le _⟩  rfl rfl (Nat.le_of_ble_eq_true rfl) (rfl) (rfl) dL_isSo_115 rfl ?_
            refine k_iload (q := 120) C 2 dL_isSo_118 rfl rfl ?_
            refine k_icmp_ne (tgt := 127) (q := 123) C dL_isSo_120 (by decide) rfl ?_ ?_
            · exact fun c_120 => absurd hz2 c_120
            · intro c_120
              refine k_iconst (q := 124) (v := 1) C dL_isSo_123 (by decide) rfl ?_
              refine k_goto (q := 128) C dL_isSo_124 (by decide) ?_
              refine k_istore (q := 130) (fr2 := [(12, .int 1), (11, .int (nI (lHz oM hM tM gM nM))), (10, .int (mSpots oM hM tM gM 0 nM)), (9, .int 0), (8, .int 0), (0, .ref (b 0)), (1, .int x), (2, .ref (e 0)), (3, .ref (e 1)), (4, .ref (e 2)), (5, .ref (e 3)), (6, .ref (e 4)), (7, .ref (e 5))]) C dL_isSo_128 (by decide) rfl rfl ?_
              refine k_aload_n (q := 131) C 7 dL_isSo_130 rfl rfl ?_
              refine k_iconst (q := 132) (v := 1) C dL_isSo_131 (by decide) rfl ?_
              refine k_iald (q := 133) C 0 rfl (vp_in_nI (n := 1) (by decide) (by decide)) dL_isSo_132 rfl ?_
              refine k_sti (show ((qSt nM oM sM gM knM loM lfM) (1 : Int32).toNatClampNeg : Int32) = (qSt nM oM sM gM knM loM lfM) 1 from congrArg (qSt nM oM sM gM knM loM lfM) (nI_clamp (n := 1) (by decide))) ?_
              refine k_sti (show ((qSt nM oM sM gM knM loM lfM) 1 : Int32) = gM 1 from mSt_g (k := 1) (by decide)) ?_
              refine k_aload_n (q := 134) C 7 dL_isSo_133 rfl rfl ?_
              refine k_aload_n (q := 135) C 8 dL_isSo_134 rfl rfl ?_
              refine k_aload (q := 137) C 9 dL_isSo_135 rfl rfl ?_
              refine k_aload (q := 139) C 11 dL_isSo_137 rfl rfl ?_
              refine k_callSV (n := 5) (q := 142) (pre := ([] : va_W)) (post := ((wXo b cy (a 0) r nx sn ln (svOf sk) (kpOf sk) ik bf ++ wRd r kd hg nu dg ng tk) ++ (wSky a cy n lit h t s g kn lo lf nm ++ wOth sk cy S))) (w2 := ((wLa e cy (qSt nM oM sM gM knM loM lfM) hM tM lM (lBm hM tM (gM 1) (lBm hM tM (nI (lHz oM hM tM gM nM)) (lBm hM tM (nI (min ((lHz oM hM tM gM nM) + 1) 1000)) (lBm hM tM 0 bM nM) nM) nM) nM) rM) ++ ((wXo b cy (a 0) r nx sn ln (svOf sk) (kpOf sk) ik bf ++ wRd r kd hg nu dg ng tk) ++ (wSky a cy n lit h t s g kn lo lf nm ++ wOth sk cy S)))) (As := [.int (gM 1), .ref (e 0), .ref (e 1), .ref (e 2), .ref (e 4)]) (rest := []) C (c_L_beams cy e nM oM sM gM knM loM lfM hM tM lM (lBm hM tM (nI (lHz oM hM tM gM nM)) (lBm hM tM (nI (min ((lHz oM hM tM gM nM) + 1) 1000)) (lBm hM tM 0 bM nM) nM) nM) rM (gM 1) hn) gL_isSo_L_beams rfl rfl rfl (by decide +kernel) (k_room hR (by decide)) ⟨Nat.zero_le _, Nat.zero_le _⟩  rfl rfl (Nat.le_of_ble_eq_true rfl) (rfl) (rfl) dL_isSo_139 rfl ?_
              refine k_iconst (q := 143) (v := 0) C dL_isSo_142 (by decide) rfl ?_
              refine k_istore (q := 145) (fr2 := [(13, .int 0), (12, .int 1), (11, .int (nI (lHz oM hM tM gM nM))), (10, .int (mSpots oM hM tM gM 0 nM)), (9, .int 0), (8, .int 0), (0, .ref (b 0)), (1, .int x), (2, .ref (e 0)), (3, .ref (e 1)), (4, .ref (e 2)), (5, .ref (e 3)), (6, .ref (e 4)), (7, .ref (e 5))]) C dL_isSo_143 (by decide) rfl rfl ?_
              refine k_fr (fr2 := [(0, .ref (b 0)), (1, .int x), (2, .ref (e 0)), (3, .ref (e 1)), (4, .ref (e 2)), (5, .ref (e 3)), (6, .ref (e 4)), (7, .ref (e 5)), (8, .int 0), (9, .int 0), (12, .int 1), (13, .int 0)]) ⟨[6, 7, 8, 9, 10, 11, 12, 13, 5, 4, 1, 0], rfl⟩ ?_
              exact lp_L_isSo_145 cy e nM oM sM gM knM loM lfM hM tM lM bM rM a b r nx sn ln sk S ik bf kd hg nu dg ng tk n lit h t s g kn lo lf nm x hR0 hU X hR C E _ 0 (Nat.lt_succ_self _) (Nat.zero_le _)
    refine k_iload (q := 59) C 0 dL_isSo_57 rfl rfl ?_
    refine k_sipush (q := 62) (v := 1000) C dL_isSo_59 (by decide +kernel) rfl ?_
    refine k_nicmp_eq (a := lHz oM hM tM gM nM) (b := 1000)  (tgt := 76) (q := 65) C dL_isSo_62 (by decide) rfl (by omega) (by decide) ?_ ?_
    · intro c_62
      refine k_iconst (q := 77) (v := 1) C dL_isSo_76 (by decide) rfl ?_
      refine k_goto (q := 81) C dL_isSo_77 (by decide) ?_
      exact J_57
    · intro c_62
      refine k_aload_n (q := 66) C 6 dL_isSo_65 rfl rfl ?_
      refine k_aload (q := 68) C 10 dL_isSo_66 rfl rfl ?_
      refine k_callSI (n := 2) (q := 71) (pre := ([] : va_W)) (post := ((wXo b cy (a 0) r nx sn ln (svOf sk) (kpOf sk) ik bf ++ wRd r kd hg nu dg ng tk) ++ (wSky a cy n lit h t s g kn lo lf nm ++ wOth sk cy S))) (w2 := ((wLa e cy (qSt nM oM sM gM knM loM lfM) hM tM lM (lBm hM tM (nI (min ((lHz oM hM tM gM nM) + 1) 1000)) (lBm hM tM 0 bM nM) nM) rM) ++ ((wXo b cy (a 0) r nx sn ln (svOf sk) (kpOf sk) ik bf ++ wRd r kd hg nu dg ng tk) ++ (wSky a cy n lit h t s g kn lo lf nm ++ wOth sk cy S)))) (As := [.ref (e 0), .ref (e 4)]) (rest := []) C (c_L_seenAll cy e nM oM sM gM knM loM lfM hM tM lM (lBm hM tM (nI (min ((lHz oM hM tM gM nM) + 1) 1000)) (lBm hM tM 0 bM nM) nM) rM (nI (min ((lHz oM hM tM gM nM) + 1) 1000)) hn (lBm_ok _ _ _ _ _)) gL_isSo_L_seenAll rfl rfl rfl (by decide +kernel) (k_room hR (by decide)) ⟨Nat.zero_le _, Nat.zero_le _⟩  rfl rfl (Nat.le_of_ble_eq_true rfl) (rfl) (rfl) dL_isSo_68 rfl ?_
      refine k_iload (q := 73) C 1 dL_isSo_71 rfl rfl ?_
      refine k_icmp_ge (tgt := 80) (q := 76) C dL_isSo_73 (by decide) rfl ?_ ?_
      · exact fun c_73 => absurd (spots_lt (o := oM) (g := gM) hn hh ht hU (z := nI (min ((lHz oM hM tM gM nM) + 1) 1000)) (hzi _ (by omega)) (by rw [show min ((lHz oM hM tM gM nM) + 1) 1000 = (lHz oM hM tM gM nM) + 1 by omega]; exact hz3 (by omega))) (Int32.not_lt.mpr c_73)
      · intro c_73
        have c_73 := Int32.not_le.mp c_73
        refine k_iconst (q := 77) (v := 1) C dL_isSo_76 (by decide) rfl ?_
        refine k_goto (q := 81) C dL_isSo_77 (by decide) ?_
        exact J_57
  refine k_iload (q := 32) C 0 dL_isSo_30 rfl rfl ?_
  refine k_sipush (q := 35) (v := 1000) C dL_isSo_32 (by decide +kernel) rfl ?_
  refine k_nicmp_ge (a := lHz oM hM tM gM nM) (b := 1000)  (tgt := 45) (q := 38) C dL_isSo_35 (by decide) rfl (by omega) (by decide) ?_ ?_
  · intro c_35
    refine k_sipush (q := 48) (v := 1000) C dL_isSo_45 (by decide +kernel) rfl ?_
    exact k_sti (show (1000 : Int32) = nI (min ((lHz oM hM tM gM nM) + 1) 1000) from by rw [show min ((lHz oM hM tM gM nM) + 1) 1000 = 1000 by omega]; rfl) J_30
  · intro c_35
    refine k_iload (q := 40) C 0 dL_isSo_38 rfl rfl ?_
    refine k_iconst (q := 41) (v := 1) C dL_isSo_40 (by decide) rfl ?_
    refine k_iadd (q := 42) C dL_isSo_41 rfl ?_
    refine k_sti (show ((nI (lHz oM hM tM gM nM)) + 1 : Int32) = nI (lHz oM hM tM gM nM + 1) from nI_add (lHz oM hM tM gM nM) 1) ?_
    refine k_goto (q := 48) C dL_isSo_42 (by decide) ?_
    exact k_sti (show (nI (lHz oM hM tM gM nM + 1) : Int32) = nI (min ((lHz oM hM tM gM nM) + 1) 1000) from by rw [show min ((lHz oM hM tM gM nM) + 1) 1000 = (lHz oM hM tM gM nM) + 1 by omega]) J_30
