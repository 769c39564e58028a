theorem mean_x {nm nm' : FI32} {kn : Nat} (hk : kn ≤ 8) (N : ∀ i, i < 32 → nm i = nm' i) (O : nOk kn nm') : ∀ m, m ≤ kn → sEs nm m = mEs nm' m ∧ sEm nm m = mEm nm' m
  | 0, _ => ⟨rfl, rfl⟩
  | m + 1, h => by
    obtain ⟨a, b⟩ := mean_x hk N O m (by omega)
    have o := O m (by omega)
    unfold sEs mEs sEm mEm
    rw [a, b, N (4 * m + 2) (by omega)]
    by_cases c : nm' (4 * m) = -99999
    · rw [if_pos c, if_pos c, if_pos (o.mp c), if_pos (o.mp c)]
      exact ⟨rfl, rfl⟩
    · rw [if_neg c, if_neg c, if_neg (fun z => c (o.mpr z)), if_neg (fun z => c (o.mpr z))]
      exact ⟨rfl, rfl⟩
set_option maxHeartbeats 4000000 in
set_option maxRecDepth 100000 in
theorem isSo_M (cy : Nat → ClassId) (e : Nat → Nat) (nM : Nat) (oM : Nat → Int32) (sM : Nat → Int32) (gM : Nat → Int32) (knM : Nat) (loM : Int32) (lfM : Int32) (hM : Nat → Int32) (tM : Nat → Int32) (lM : Nat → Int32) (bM : Nat → Int32) (rM : Nat → Int32) (a : Nat → Nat) (b : Nat → Nat) (r : Nat) (nx : Nat) (sn : Nat) (ln : Nat) (sk : Nat → Nat → Nat) (S : Nat → CK) (ik : Nat → Int32) (bf : Nat → Nat) (kd : Nat) (hg : Nat) (nu : Nat) (dg : Nat) (ng : Bool) (tk : Bool) (n : Nat) (lit : Int32) (h : Nat → Int32) (t : Nat → Int32) (s : Nat → Int32) (g : Nat → Int32) (kn : Nat) (lo : Int32) (lf : Int32) (nm : Nat → Int32) (x : Int32)  (hR0 : sRel ((n, lit, h, t, s, g, kn, lo, lf, nm) : CK) ((nM, oM, hM, tM, sM, gM, knM, loM, lfM, lM) : SK)) (X : kX) (hR : xR X = rm_L_isSo) (C : kC X 19 RL cL_isSo wsL_isSo cy) (s0 : State) (d0 : Drawn) (hs : xS X = s0.setDrawn d0) (hd0 : s0.drawn.sameBut d0 lw_cs) (E2 : ∀ d, s0.drawn.sameBut d lw_cs → kG (kXs X (s0.setDrawn d)) 19 0 0 ((wLa e cy (qSt nM oM sM gM knM loM lfM) hM tM lM bM rM) ++ ((wXo b cy (a 0) r nx sn ln (svOf sk) (kpOf sk) ik bf ++ wRd r kd hg nu dg ng tk) ++ (wSky a cy n lit h t s g kn lo lf nm ++ wOth sk cy S))) 649 [(12, .int 1), (0, .ref (b 0)), (1, .int x), (2, .ref (e 0)), (3, .ref (e 1)), (4, .ref (e 2)), (5, .ref (e 3)), (6, .ref (e 4)), (7, .ref (e 5))] []) : kG X 19 0 0 ((wLa e cy (qSt nM oM sM gM knM loM lfM) hM tM lM bM rM) ++ ((wXo b cy (a 0) r nx sn ln (svOf sk) (kpOf sk) ik bf ++ wRd r kd hg nu dg ng tk) ++ (wSky a cy n lit h t s g kn lo lf nm ++ wOth sk cy S))) 613 [(12, .int 1), (16, .int (mEs lM knM)), (17, .int (nI (mEm lM knM))), (0, .ref (b 0)), (1, .int x), (2, .ref (e 0)), (3, .ref (e 1)), (4, .ref (e 2)), (5, .ref (e 3)), (6, .ref (e 4)), (7, .ref (e 5))] [] := by
  obtain ⟨⟨hn, ho, hs0, hs1, hk, hh, ht, hg0, hg1, hg2, hg3⟩, e1, e2, eH, eT, eS, eG, eK, eLo, eLf, eN, eO⟩ := id hR0
  have hn : nM ≤ 6 := hn
  have ho : mBin oM := ho
  have hs0 : sOk (sM 0) := hs0
  have hs1 : sOk (sM 1) := hs1
  have hk : knM ≤ 8 := hk
  have hh : ∀ i, i < nM → 50 ≤ (hM i).toInt ∧ (hM i).toInt ≤ 3000 := hh
  have hg0 : 50 ≤ (gM 0).toInt ∧ (gM 0).toInt ≤ 1000 := hg0
  have hg3 : 0 ≤ (gM 3).toInt ∧ (gM 3).toInt ≤ 100 := hg3
  have e1 : n = nM := e1
  have e2 : lit = mLit oM := e2
  have eH : ∀ i, i < nM → h i = hM i := eH
  have eT : ∀ i, i < nM → t i = tM i := eT
  have eS : ∀ i, i < 2 → s i = sM i := eS
  have eG : ∀ i, i < 4 → g i = gM i := eG
  have eK : kn = knM := eK
  have eLo : lo = loM := eLo
  have eLf : lf = lfM := eLf
  have eN : ∀ i, i < 32 → nm i = lM i := eN
  have ht : ∀ i, i < nM → 1 ≤ (tM i).toInt ∧ (tM i).toInt ≤ 100 := ht
  have hg1 : 0 ≤ (gM 1).toInt ∧ (gM 1).toInt ≤ 1000 := hg1
  have eO : nOk knM lM := eO
  have hmk := mEm_le lM knM
  have hC0 := C
  refine k_iload (q := 615) C 0 dL_isSo_613 rfl rfl ?_
  refine k_if_eq (tgt := 646) (q := 618) C dL_isSo_615 (by decide) rfl ?_ ?_
  · exact fun c_615 => absurd c_615 (by decide)
  · intro c_615
    refine k_aload_n (q := 619) C 3 dL_isSo_618 rfl rfl ?_
    refine k_callVF (n := 0) (q := 622) (pre := (wLa e cy (qSt nM oM sM gM knM loM lfM) hM tM lM bM rM)) (post := ([] : va_W)) (w2 := ((wLa e cy (qSt nM oM sM gM knM loM lfM) hM tM lM bM rM) ++ ((wXo b cy (a 0) r nx sn ln (svOf sk) (kpOf sk) ik bf ++ wRd r kd hg nu dg ng tk) ++ (wSky a cy n lit h t s g kn lo lf nm ++ wOth sk cy S)))) (As := []) (rest := []) C hs hd0 (c_X3_meanError cy a b r nx sn ln (svOf sk) (kpOf sk) ik bf kd hg nu dg ng tk n lit h t s g kn lo lf nm (wOth sk cy S) (by omega)) gL_isSo_X3_meanError rfl rfl rfl (by decide +kernel) (k_room hR (by decide)) ⟨Nat.zero_le _, Nat.zero_le _⟩ (ci := 3) rfl 0 rfl rfl rfl (Nat.le_of_ble_eq_true rfl) (k_pre) (k_pre.symm) dL_isSo_619 rfl ?_
    intro r1 d1 hp1 hd1
    have C : kC (kXs X (s0.setDrawn d1)) 19 RL cL_isSo wsL_isSo cy := kC_d (d := d1) C hs
    have hR : xR (kXs X (s0.setDrawn d1)) = rm_L_isSo := hR
    have hq1 : fMean (mEm lM knM) (mEs lM knM) r1 := by
      have hmx := mean_x (nm := nm) (nm' := lM) (kn := kn) (by omega) eN (by rw [eK]; exact eO) kn (Nat.le_refl _)
      rw [hmx.1, hmx.2, eK] at hp1; exact hp1
    refine k_iload (q := 624) C 2 dL_isSo_622 rfl rfl ?_
    refine k_nif_ne (a := mEm lM knM)  (tgt := 631) (q := 627) C dL_isSo_624 (by decide) rfl (by omega) ?_ ?_
    · intro c_624
      refine k_iload (q := 633) C 1 dL_isSo_631 rfl rfl ?_
      refine k_i2f (q := 634) C dL_isSo_633 rfl ?_
      refine k_iload (q := 636) C 2 dL_isSo_634 rfl rfl ?_
      refine k_i2f (q := 637) C dL_isSo_636 rfl ?_
      refine k_fdiv (q := 638) C rfl hd1 dL_isSo_637 rfl ?_
      intro r2 d2 ha2 hd2
      have C : kC (kXs X (s0.setDrawn d2)) 19 RL cL_isSo wsL_isSo cy := kC_d (d := d2) hC0 hs
      show kG (kXs X (s0.setDrawn d2)) _ _ _ _ _ _ _
      have hp2 : fMean (mEm lM knM) (mEs lM knM) r2 := Or.inr ⟨by omega, ha2⟩
      have hd9 := hd2
      refine k_fcmp (q := 639) C dL_isSo_638 rfl ?_
      refine k_if_ne (tgt := 646) (q := 642) C dL_isSo_639 (by decide) rfl ?_ ?_
      · exact fun c_639 => absurd (mean_eq (by omega) hq1 hp2) c_639
      · intro c_639
        refine k_iconst (q := 643) (v := 1) C dL_isSo_642 (by decide) rfl ?_
        refine k_goto (q := 647) C dL_isSo_643 (by decide) ?_
        refine k_istore (q := 649) (fr2 := [(12, .int 1), (16, .int (mEs lM knM)), (17, .int (nI (mEm lM knM))), (0, .ref (b 0)), (1, .int x), (2, .ref (e 0)), (3, .ref (e 1)), (4, .ref (e 2)), (5, .ref (e 3)), (6, .ref (e 4)), (7, .ref (e 5))]) C dL_isSo_647 (by decide) rfl rfl ?_
        refine k_fr (fr2 := [(12, .int 1), (0, .ref (b 0)), (1, .int x), (2, .ref (e 0)), (3, .ref (e 1)), (4, .ref (e 2)), (5, .ref (e 3)), (6, .ref (e 4)), (7, .ref (e 5))]) ⟨[0, 3, 4, 5, 6, 7, 8, 9, 10], rfl⟩ ?_
        exact E2 _ hd9
    · intro c_624
      have hp2 : fMean (mEm lM knM) (mEs lM knM) FP.fconst0 := Or.inl ⟨by omega, rfl⟩
      have hd9 := hd1
      refine k_fconst0 (q := 628) C dL_isSo_627 rfl ?_
      refine k_goto (q := 638) C dL_isSo_628 (by decide) ?_
      refine k_fcmp (q := 639) C dL_isSo_638 rfl ?_
      refine k_if_ne (tgt := 646) (q := 642) C dL_isSo_639 (by decide) rfl ?_ ?_
      · exact fun c_639 => absurd (mean_eq (by omega) hq1 hp2) c_639
      · intro c_639
        refine k_iconst (q := 643) (v := 1) C dL_isSo_642 (by decide) rfl ?_
        refine k_goto (q := 647) C dL_isSo_643 (by decide) ?_
        refine k_istore (q := 649) (fr2 := [(12, .int 1), (16, .int (mEs lM knM)), (17, .int (nI (mEm lM knM))), (0, .ref (b 0)), (1, .int x), (2, .ref (e 0)), (3, .ref (e 1)), (4, .ref (e 2)), (5, .ref (e 3)), (6, .ref (e 4)), (7, .ref (e 5))]) C dL_isSo_647 (by decide) rfl rfl ?_
        refine k_fr (fr2 := [(12, .int 1), (0, .ref (b 0)), (1, .int x), (2, .ref (e 0)), (3, .ref (e 1)), (4, .ref (e 2)), (5, .ref (e 3)), (6, .ref (e 4)), (7, .ref (e 5))]) ⟨[0, 3, 4, 5, 6, 7, 8, 9, 10], rfl⟩ ?_
        exact E2 _ hd9
set_option maxHeartbeats 4000000 in
set_option maxRecDepth 100000 in
theorem isSo_T (cy : Nat → ClassId) (e : Nat → Nat) (nM : Nat) (oM : Nat → Int32) (sM : Nat → Int32) (gM : Nat → Int32) (knM : Nat) (loM : Int32) (lfM : Int32) (hM : Nat → Int32) (tM : Nat → Int32) (lM : Nat → Int32) (bM : Nat → Int32) (rM : Nat → Int32) (a : Nat → Nat) (b : Nat → Nat) (r : Nat) (nx : Nat) (sn : Nat) (ln : Nat) (sk : Nat → Nat → Nat) (S : Nat → CK) (ik : Nat → Int32) (bf : Nat → Nat) (kd : Nat) (hg : Nat) (nu : Nat) (dg : Nat) (ng : Bool) (tk : Bool) (n : Nat) (lit : Int32) (h : Nat → Int32) (t : Nat → Int32) (s : Nat → Int32) (g : Nat → Int32) (kn : Nat) (lo : Int32) (lf : Int32) (nm : Nat → Int32) (x : Int32)  (hR0 : sRel ((n, lit, h, t, s, g, kn, lo, lf, nm) : CK) ((nM, oM, hM, tM, sM, gM, knM, loM, lfM, lM) : SK)) (hb : lB nM hM tM (gM 1) bM) (X : kX) (hR : xR X = rm_L_isSo) (C : kC X 19 RL cL_isSo wsL_isSo cy) (EX : ∀ (u : FI32) (pc : Nat) (fr : List (Nat × Value)), decode cL_isSo pc = .ok (.ireturn, 1) → kG X 19 0 0 ((wLa e cy (qSt nM oM sM gM knM loM lfM) hM tM lM bM u) ++ ((wXo b cy (a 0) r nx sn ln (svOf sk) (kpOf sk) ik bf ++ wRd r kd hg nu dg ng tk) ++ (wSky a cy n lit h t s g kn lo lf nm ++ wOth sk cy S))) pc fr [.int 1]) : kG X 19 0 0 ((wLa e cy (qSt nM oM sM gM knM loM lfM) hM tM lM bM rM) ++ ((wXo b cy (a 0) r nx sn ln (svOf sk) (kpOf sk) ik bf ++ wRd r kd hg nu dg ng tk) ++ (wSky a cy n lit h t s g kn lo lf nm ++ wOth sk cy S))) 649 [(12, .int 1), (0, .ref (b 0)), (1, .int x), (2, .ref (e 0)), (3, .ref (e 1)), (4, .ref (e 2)), (5, .ref (e 3)), (6, .ref (e 4)), (7, .ref (e 5))] [] := by
  obtain ⟨⟨hn, ho, hs0, hs1, hk, hh, ht, hg0, hg1, hg2, hg3⟩, e1, e2, eH, eT, eS, eG, eK, eLo, eLf, eN, eO⟩ := id hR0
  have hn : nM ≤ 6 := hn
  have ho : mBin oM := ho
  have hs0 : sOk (sM 0) := hs0
  have hs1 : sOk (sM 1) := hs1
  have hk : knM ≤ 8 := hk
  have hh : ∀ i, i < nM → 50 ≤ (hM i).toInt ∧ (hM i).toInt ≤ 3000 := hh
  have hg0 : 50 ≤ (gM 0).toInt ∧ (gM 0).toInt ≤ 1000 := hg0
  have hg3 : 0 ≤ (gM 3).toInt ∧ (gM 3).toInt ≤ 100 := hg3
  have e1 : n = nM := e1
  have e2 : lit = mLit oM := e2
  have eH : ∀ i, i < nM → h i = hM i := eH
  have eT : ∀ i, i < nM → t i = tM i := eT
  have eS : ∀ i, i < 2 → s i = sM i := eS
  have eG : ∀ i, i < 4 → g i = gM i := eG
  have eK : kn = knM := eK
  refine k_iload (q := 651) C 0 dL_isSo_649 rfl rfl ?_
  refine k_if_eq (tgt := 690) (q := 654) C dL_isSo_651 (by decide) rfl ?_ ?_
  · exact fun c_651 => absurd c_651 (by decide)
  · intro c_651
    refine k_iload_n (q := 655) C 2 dL_isSo_654 rfl rfl ?_
    refine k_bipush (q := 657) (v := 6) C dL_isSo_655 (by decide +kernel) rfl ?_
    refine k_ishr (q := 658) C dL_isSo_657 rfl ?_
    refine k_iconst (q := 659) (v := 4) C dL_isSo_658 (by decide) rfl ?_
    refine k_callSI (n := 2) (q := 662) (pre := ([] : va_W)) (post := ((wLa e cy (qSt nM oM sM gM knM loM lfM) hM tM lM bM rM) ++ ((wXo b cy (a 0) r nx sn ln (svOf sk) (kpOf sk) ik bf ++ wRd r kd hg nu dg ng tk) ++ (wSky a cy n lit h t s g kn lo lf nm ++ wOth sk cy S)))) (w2 := ((wLa e cy (qSt nM oM sM gM knM loM lfM) hM tM lM bM rM) ++ ((wXo b cy (a 0) r nx sn ln (svOf sk) (kpOf sk) ik bf ++ wRd r kd hg nu dg ng tk) ++ (wSky a cy n lit h t s g kn lo lf nm ++ wOth sk cy S)))) (As := [.int (x >>> (6 &&& 31)), .int 4]) (rest := []) C (c_L_low (x >>> (6 &&& 31)) 4 (by decide) (by decide)) gL_isSo_L_low rfl rfl rfl (by decide +kernel) (k_room hR (by decide)) ⟨Nat.zero_le _, Nat.zero_le _⟩  rfl rfl (Nat.le_of_ble_eq_true rfl) (rfl) (rfl) dL_isSo_659 rfl ?_
    have hl4 : lowN (x >>> (6 &&& 31)) 4 < 4 := lowN_lt (by decide)
    refine k_nif_gt (a := lowN (x >>> (6 &&& 31)) 4)  (tgt := 686) (q := 665) C dL_isSo_662 (by decide) rfl (by omega) ?_ ?_
    · intro c_662
      refine k_iconst (q := 687) (v := 1) C dL_isSo_686 (by decide) rfl ?_
      refine k_goto (q := 691) C dL_isSo_687 (by decide) ?_
      refine k_istore (q := 693) (fr2 := [(12, .int 1), (0, .ref (b 0)), (1, .int x), (2, .ref (e 0)), (3, .ref (e 1)), (4, .ref (e 2)), (5, .ref (e 3)), (6, .ref (e 4)), (7, .ref (e 5))]) C dL_isSo_691 (by decide) rfl rfl ?_
      refine k_iload (q := 695) C 0 dL_isSo_693 rfl rfl ?_
      refine k_if_eq (tgt := 741) (q := 698) C dL_isSo_695 (by decide) rfl ?_ ?_
      · exact fun c_695 => absurd c_695 (by decide)
      · intro c_695
        refine k_aload_n (q := 699) C 3 dL_isSo_698 rfl rfl ?_
        refine k_bipush (q := 701) (v := 8) C dL_isSo_699 (by decide +kernel) rfl ?_
        refine k_iald (q := 702) C 0 rfl (vp_in_nI (n := 8) (by decide) (by decide)) dL_isSo_701 rfl ?_
        refine k_sti (show ((qSt nM oM sM gM knM loM lfM) (8 : Int32).toNatClampNeg : Int32) = (qSt nM oM sM gM knM loM lfM) 8 from congrArg (qSt nM oM sM gM knM loM lfM) (nI_clamp (n := 8) (by decide))) ?_
        refine k_sti (show ((qSt nM oM sM gM knM loM lfM) 8 : Int32) = nI nM from rfl) ?_
        refine k_nif_eq (a := nM)  (tgt := 737) (q := 705) C dL_isSo_702 (by decide) rfl (by omega) ?_ ?_
        · intro c_702
          refine k_iconst (q := 738) (v := 1) C dL_isSo_737 (by decide) rfl ?_
          refine k_goto (q := 742) C dL_isSo_738 (by decide) ?_
          exact EX (rM) _ _ dL_isSo_742
        · intro c_702
          refine k_aload_n (q := 706) C 1 dL_isSo_705 rfl rfl ?_
          refine k_iload_n (q := 707) C 2 dL_isSo_706 rfl rfl ?_
          refine k_bipush (q := 709) (v := 9) C dL_isSo_707 (by decide +kernel) rfl ?_
          refine k_ishr (q := 710) C dL_isSo_709 rfl ?_
          refine k_aload_n (q := 711) C 3 dL_isSo_710 rfl rfl ?_
          refine k_bipush (q := 713) (v := 8) C dL_isSo_711 (by decide +kernel) rfl ?_
          refine k_iald (q := 714) C 0 rfl (vp_in_nI (n := 8) (by decide) (by decide)) dL_isSo_713 rfl ?_
          refine k_sti (show ((qSt nM oM sM gM knM loM lfM) (8 : Int32).toNatClampNeg : Int32) = (qSt nM oM sM gM knM loM lfM) 8 from congrArg (qSt nM oM sM gM knM loM lfM) (nI_clamp (n := 8) (by decide))) ?_
          refine k_sti (show ((qSt nM oM sM gM knM loM lfM) 8 : Int32) = nI nM from rfl) ?_
          refine k_callSI (n := 2) (q := 717) (pre := ([] : va_W)) (post := ((wLa e cy (qSt nM oM sM gM knM loM lfM) hM tM lM bM rM) ++ ((wXo b cy (a 0) r nx sn ln (svOf sk) (kpOf sk) ik bf ++ wRd r kd hg nu dg ng tk) ++ (wSky a cy n lit h t s g kn lo lf nm ++ wOth sk cy S)))) (w2 := ((wLa e cy (qSt nM oM sM gM knM loM lfM) hM tM lM bM rM) ++ ((wXo b cy (a 0) r nx sn ln (svOf sk) (kpOf sk) ik bf ++ wRd r kd hg nu dg ng tk) ++ (wSky a cy n lit h t s g kn lo lf nm ++ wOth sk cy S)))) (As := [.int (x >>> (9 &&& 31)), .int (nI nM)]) (rest := [.ref (b 0)]) C (c_L_low (x >>> (9 &&& 31)) nM (by omega) (by omega)) gL_isSo_L_low rfl rfl rfl (by decide +kernel) (k_room hR (by decide)) ⟨Nat.zero_le _, Nat.zero_le _⟩  rfl rfl (Nat.le_of_ble_eq_true rfl) (rfl) (rfl) dL_isSo_714 rfl ?_
          refine k_iload_n (q := 718) C 2 dL_isSo_717 rfl rfl ?_
          refine k_bipush (q := 720) (v := 8) C dL_isSo_718 (by decide +kernel) rfl ?_
          refine k_ishr (q := 721) C dL_isSo_720 rfl ?_
          refine k_iconst (q := 722) (v := 2) C dL_isSo_721 (by decide) rfl ?_
          refine k_callSI (n := 2) (q := 725) (pre := ([] : va_W)) (post := ((wLa e cy (qSt nM oM sM gM knM loM lfM) hM tM lM bM rM) ++ ((wXo b cy (a 0) r nx sn ln (svOf sk) (kpOf sk) ik bf ++ wRd r kd hg nu dg ng tk) ++ (wSky a cy n lit h t s g kn lo lf nm ++ wOth sk cy S)))) (w2 := ((wLa e cy (qSt nM oM sM gM knM loM lfM) hM tM lM bM rM) ++ ((wXo b cy (a 0) r nx sn ln (svOf sk) (kpOf sk) ik bf ++ wRd r kd hg nu dg ng tk) ++ (wSky a cy n lit h t s g kn lo lf nm ++ wOth sk cy S)))) (As := [.int (x >>> (8 &&& 31)), .int 2]) (rest := [.int (nI (lowN (x >>> (9 &&& 31)) nM)), .ref (b 0)]) C (c_L_low (x >>> (8 &&& 31)) 2 (by decide) (by decide)) gL_isSo_L_low rfl rfl rfl (by decide +kernel) (k_room hR (by decide)) ⟨Nat.zero_le _, Nat.zero_le _⟩  rfl rfl (Nat.le_of_ble_eq_true rfl) (rfl) (rfl) dL_isSo_722 rfl ?_
          refine k_aload_n (q := 726) C 3 dL_isSo_725 rfl rfl ?_
          refine k_aload_n (q := 727) C 4 dL_isSo_726 rfl rfl ?_
          refine k_aload (q := 729) C 5 dL_isSo_727 rfl rfl ?_
          refine k_aload (q := 731) C 7 dL_isSo_729 rfl rfl ?_
          have hl2 : lowN (x >>> (8 &&& 31)) 2 < 2 := lowN_lt (by decide)
          have hln : lowN (x >>> (9 &&& 31)) nM < nM := lowN_lt (by omega)
          refine k_callSI (n := 7) (q := 734) (pre := ([] : va_W)) (post := ([] : va_W)) (w2 := ((wLa e cy (qSt nM oM sM gM knM loM lfM) hM tM lM bM rM) ++ ((wXo b cy (a 0) r nx sn ln (svOf sk) (kpOf sk) ik bf ++ wRd r kd hg nu dg ng tk) ++ (wSky a cy n lit h t s g kn lo lf nm ++ wOth sk cy S)))) (As := [.ref (b 0), .int (nI (lowN (x >>> (9 &&& 31)) nM)), .int (nI (lowN (x >>> (8 &&& 31)) 2)), .ref (e 0), .ref (e 1), .ref (e 2), .ref (e 4)]) (rest := []) C (c_L_isLayer cy e nM oM sM gM knM loM lfM hM tM lM bM rM a b r nx sn ln sk S ik bf kd hg nu dg ng tk n lit h t s g kn lo lf nm (lowN (x >>> (9 &&& 31)) nM) (lowN (x >>> (8 &&& 31)) 2) hR0 hl2 hln hb) gL_isSo_L_isLayer rfl rfl rfl (by decide +kernel) (k_room hR (by decide)) ⟨Nat.zero_le _, Nat.zero_le _⟩  rfl rfl (Nat.le_of_ble_eq_true rfl) ((List.append_nil _).symm) (List.append_nil _) dL_isSo_731 rfl ?_
          refine k_ifB_eq (tgt := 741) (q := 737) C dL_isSo_734 (by decide) rfl ?_ ?_
          · exact fun c_734 => absurd trivial c_734
          · intro c_734
            refine k_iconst (q := 738) (v := 1) C dL_isSo_737 (by decide) rfl ?_
            refine k_goto (q := 742) C dL_isSo_738 (by decide) ?_
            exact EX (rM) _ _ dL_isSo_742
    · intro c_662
      refine k_aload_n (q := 666) C 1 dL_isSo_665 rfl rfl ?_
      refine k_iload_n (q := 667) C 2 dL_isSo_666 rfl rfl ?_
      refine k_bipush (q := 669) (v := 8) C dL_isSo_667 (by decide +kernel) rfl ?_
      refine k_ishr (q := 670) C dL_isSo_669 rfl ?_
      refine k_iconst (q := 671) (v := 2) C dL_isSo_670 (by decide) rfl ?_
      refine k_callSI (n := 2) (q := 674) (pre := ([] : va_W)) (post := ((wLa e cy (qSt nM oM sM gM knM loM lfM) hM tM lM bM rM) ++ ((wXo b cy (a 0) r nx sn ln (svOf sk) (kpOf sk) ik bf ++ wRd r kd hg nu dg ng tk) ++ (wSky a cy n lit h t s g kn lo lf nm ++ wOth sk cy S)))) (w2 := ((wLa e cy (qSt nM oM sM gM knM loM lfM) hM tM lM bM rM) ++ ((wXo b cy (a 0) r nx sn ln (svOf sk) (kpOf sk) ik bf ++ wRd r kd hg nu dg ng tk) ++ (wSky a cy n lit h t s g kn lo lf nm ++ wOth sk cy S)))) (As := [.int (x >>> (8 &&& 31)), .int 2]) (rest := [.ref (b 0)]) C (c_L_low (x >>> (8 &&& 31)) 2 (by decide) (by decide)) gL_isSo_L_low rfl rfl rfl (by decide +kernel) (k_room hR (by decide)) ⟨Nat.zero_le _, Nat.zero_le _⟩  rfl rfl (Nat.le_of_ble_eq_true rfl) (rfl) (rfl) dL_isSo_671 rfl ?_
      refine k_aload_n (q := 675) C 3 dL_isSo_674 rfl rfl ?_
      refine k_aload_n (q := 676) C 4 dL_isSo_675 rfl rfl ?_
      refine k_aload (q := 678) C 7 dL_isSo_676 rfl rfl ?_
      refine k_aload (q := 680) C 8 dL_isSo_678 rfl rfl ?_
      have hl2 : lowN (x >>> (8 &&& 31)) 2 < 2 := lowN_lt (by decide)
      refine k_callSI (n := 6) (q := 683) (pre := ([] : va_W)) (post := ([] : va_W)) (w2 := ((wLa e cy (qSt nM oM sM gM knM loM lfM) hM tM lM bM (lRr oM hM tM sM gM nM (lowN (x >>> (8 &&& 31)) 2) rM 61)) ++ ((wXo b cy (a 0) r nx sn ln (svOf sk) (kpOf sk) ik bf ++ wRd r kd hg nu dg ng tk) ++ (wSky a cy n lit h t s g kn lo lf nm ++ wOth sk cy S)))) (As := [.ref (b 0), .int (nI (lowN (x >>> (8 &&& 31)) 2)), .ref (e 0), .ref (e 1), .ref (e 4), .ref (e 5)]) (rest := []) C (c_L_wouldScan cy e nM oM sM gM knM loM lfM hM tM lM bM rM a b r nx sn ln sk S ik bf kd hg nu dg ng tk n lit h t s g kn lo lf nm (lowN (x >>> (8 &&& 31)) 2) hR0 hl2 hb) gL_isSo_L_wouldScan rfl rfl rfl (by decide +kernel) (k_room hR (by decide)) ⟨Nat.zero_le _, Nat.zero_le _⟩  rfl rfl (Nat.le_of_ble_eq_true rfl) ((List.append_nil _).symm) (List.append_nil _) dL_isSo_680 rfl ?_
      refine k_ifB_eq (tgt := 690) (q := 686) C dL_isSo_683 (by decide) rfl ?_ ?_
      · exact fun c_683 => absurd trivial c_683
      · intro c_683
        refine k_iconst (q := 687) (v := 1) C dL_isSo_686 (by decide) rfl ?_
        refine k_goto (q := 691) C dL_isSo_687 (by decide) ?_
        refine k_istore (q := 693) (fr2 := [(12, .int 1), (0, .ref (b 0)), (1, .int x), (2, .ref (e 0)), (3, .ref (e 1)), (4, .ref (e 2)), (5, .ref (e 3)), (6, .ref (e 4)), (7, .ref (e 5))]) C dL_isSo_691 (by decide) rfl rfl ?_
        refine k_iload (q := 695) C 0 dL_isSo_693 rfl rfl ?_
        refine k_if_eq (tgt := 741) (q := 698) C dL_isSo_695 (by decide) rfl ?_ ?_
        · exact fun c_695 => absurd c_695 (by decide)
        · intro c_695
          refine k_aload_n (q := 699) C 3 dL_isSo_698 rfl rfl ?_
          refine k_bipush (q := 701) (v := 8) C dL_isSo_699 (by decide +kernel) rfl ?_
          refine k_iald (q := 702) C 0 rfl (vp_in_nI (n := 8) (by decide) (by decide)) dL_isSo_701 rfl ?_
          refine k_sti (show ((qSt nM oM sM gM knM loM lfM) (8 : Int32).toNatClampNeg : Int32) = (qSt nM oM sM gM knM loM lfM) 8 from congrArg (qSt nM oM sM gM knM loM lfM) (nI_clamp (n := 8) (by decide))) ?_
          refine k_sti (show ((qSt nM oM sM gM knM loM lfM) 8 : Int32) = nI nM from rfl) ?_
          refine k_nif_eq (a := nM)  (tgt := 737) (q := 705) C dL_isSo_702 (by decide) rfl (by omega) ?_ ?_
          · intro c_702
            refine k_iconst (q := 738) (v := 1) C dL_isSo_737 (by decide) rfl ?_
            refine k_goto (q := 742) C dL_isSo_738 (by decide) ?_
            exact EX (lRr oM hM tM sM gM nM (lowN (x >>> (8 &&& 31)) 2) rM 61) _ _ dL_isSo_742
          · intro c_702
            refine k_aload_n (q := 706) C 1 dL_isSo_705 rfl rfl ?_
            refine k_iload_n (q := 707) C 2 dL_isSo_706 rfl rfl ?_
            refine k_bipush (q := 709) (v := 9) C dL_isSo_707 (by decide +kernel) rfl ?_
            refine k_ishr (q := 710) C dL_isSo_709 rfl ?_
            refine k_aload_n (q := 711) C 3 dL_isSo_710 rfl rfl ?_
            refine k_bipush (q := 713) (v := 8) C dL_isSo_711 (by decide +kernel) rfl ?_
            refine k_iald (q := 714) C 0 rfl (vp_in_nI (n := 8) (by decide) (by decide)) dL_isSo_713 rfl ?_
            refine k_sti (show ((qSt nM oM sM gM knM loM lfM) (8 : Int32).toNatClampNeg : Int32) = (qSt nM oM sM gM knM loM lfM) 8 from congrArg (qSt nM oM sM gM knM loM lfM) (nI_clamp (n := 8) (by decide))) ?_
            refine k_sti (show ((qSt nM oM sM gM knM loM lfM) 8 : Int32) = nI nM from rfl) ?_
            refine k_callSI (n := 2) (q := 717) (pre := ([] : va_W)) (post := ((wLa e cy (qSt nM oM sM gM knM loM lfM) hM tM lM bM (lRr oM hM tM sM gM nM (lowN (x >>> (8 &&& 31)) 2) rM 61)) ++ ((wXo b cy (a 0) r nx sn ln (svOf sk) (kpOf sk) ik bf ++ wRd r kd hg nu dg ng tk) ++ (wSky a cy n lit h t s g kn lo lf nm ++ wOth sk cy S)))) (w2 := ((wLa e cy (qSt nM oM sM gM knM loM lfM) hM tM lM bM (lRr oM hM tM sM gM nM (lowN (x >>> (8 &&& 31)) 2) rM 61)) ++ ((wXo b cy (a 0) r nx sn ln (svOf sk) (kpOf sk) ik bf ++ wRd r kd hg nu dg ng tk) ++ (wSky a cy n lit h t s g kn lo lf nm ++ wOth sk cy S)))) (As := [.int (x >>> (9 &&& 31)), .int (nI nM)]) (rest := [.ref (b 0)]) C (c_L_low (x >>> (9 &&& 31)) nM (by omega) (by omega)) gL_isSo_L_low rfl rfl rfl (by decide +kernel) (k_room hR (by decide)) ⟨Nat.zero_le _, Nat.zero_le _⟩  rfl rfl (Nat.le_of_ble_eq_true rfl) (rfl) (rfl) dL_isSo_714 rfl ?_
            refine k_iload_n (q := 718) C 2 dL_isSo_717 rfl rfl ?_
            refine k_bipush (q := 720) (v := 8) C dL_isSo_718 (by decide +kernel) rfl ?_
            refine k_ishr (q := 721) C dL_isSo_720 rfl ?_
            refine k_iconst (q := 722) (v := 2) C dL_isSo_721 (by decide) rfl ?_
            refine k_callSI (n := 2) (q := 725) (pre := ([] : va_W)) (post := ((wLa e cy (qSt nM oM sM gM knM loM lfM) hM tM lM bM (lRr oM hM tM sM gM nM (lowN (x >>> (8 &&& 31)) 2) rM 61)) ++ ((wXo b cy (a 0) r nx sn ln (svOf sk) (kpOf sk) ik bf ++ wRd r kd hg nu dg ng tk) ++ (wSky a cy n lit h t s g kn lo lf nm ++ wOth sk cy S)))) (w2 := ((wLa e cy (qSt nM oM sM gM knM loM lfM) hM tM lM bM (lRr oM hM tM sM gM nM (lowN (x >>> (8 &&& 31)) 2) rM 61)) ++ ((wXo b cy (a 0) r nx sn ln (svOf sk) (kpOf sk) ik bf ++ wRd r kd hg nu dg ng tk) ++ (wSky a cy n lit h t s g kn lo lf nm ++ wOth sk cy S)))) (As := [.int (x >>> (8 &&& 31)), .int 2]) (rest := [.int (nI (lowN (x >>> (9 &&& 31)) nM)), .ref (b 0)]) C (c_L_low (x >>> (8 &&& 31)) 2 (by decide) (by decide)) gL_isSo_L_low rfl rfl rfl (by decide +kernel) (k_room hR (by decide)) ⟨Nat.zero_le _, Nat.zero_le _⟩  rfl rfl (Nat.le_of_ble_eq_true rfl) (rfl) (rfl) dL_isSo_722 rfl ?_
            refine k_aload_n (q := 726) C 3 dL_isSo_725 rfl rfl ?_
            refine k_aload_n (q := 727) C 4 dL_isSo_726 rfl rfl ?_
            refine k_aload (q := 729) C 5 dL_isSo_727 rfl rfl ?_
            refine k_aload (q := 731) C 7 dL_isSo_729 rfl rfl ?_
            have hl2 : lowN (x >>> (8 &&& 31)) 2 < 2 := lowN_lt (by decide)
            have hln : lowN (x >>> (9 &&& 31)) nM < nM := lowN_lt (by omega)
            refine k_callSI (n := 7) (q := 734) (pre := ([] : va_W)) (post := ([] : va_W)) (w2 := ((wLa e cy (qSt nM oM sM gM knM loM lfM) hM tM lM bM (lRr oM hM tM sM gM nM (lowN (x >>> (8 &&& 31)) 2) rM 61)) ++ ((wXo b cy (a 0) r nx sn ln (svOf sk) (kpOf sk) ik bf ++ wRd r kd hg nu dg ng tk) ++ (wSky a cy n lit h t s g kn lo lf nm ++ wOth sk cy S)))) (As := [.ref (b 0), .int (nI (lowN (x >>> (9 &&& 31)) nM)), .int (nI (lowN (x >>> (8 &&& 31)) 2)), .ref (e 0), .ref (e 1), .ref (e 2), .ref (e 4)]) (rest := []) C (c_L_isLayer cy e nM oM sM gM knM loM lfM hM tM lM bM (lRr oM hM tM sM gM nM (lowN (x >>> (8 &&& 31)) 2) rM 61) a b r nx sn ln sk S ik bf kd hg nu dg ng tk n lit h t s g kn lo lf nm (lowN (x >>> (9 &&& 31)) nM) (lowN (x >>> (8 &&& 31)) 2) hR0 hl2 hln hb) gL_isSo_L_isLayer rfl rfl rfl (by decide +kernel) (k_room hR (by decide)) ⟨Nat.zero_le _, Nat.zero_le _⟩  rfl rfl (Nat.le_of_ble_eq_true rfl) ((List.append_nil _).symm) (List.append_nil _) dL_isSo_731 rfl ?_
            refine k_ifB_eq (tgt := 741) (q := 737) C dL_isSo_734 (by decide) rfl ?_ ?_
            · exact fun c_734 => absurd trivial c_734
            · intro c_734
              refine k_iconst (q := 738) (v := 1) C dL_isSo_737 (by decide) rfl ?_
              refine k_goto (q := 742) C dL_isSo_738 (by decide) ?_
              exact EX (lRr oM hM tM sM gM nM (lowN (x >>> (8 &&& 31)) 2) rM 61) _ _ dL_isSo_742
