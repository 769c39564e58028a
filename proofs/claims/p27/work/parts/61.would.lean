abbrev rm_L_wouldScan : Room := { frames := 7, cells := 0, slots := 0, locals := 169 }
theorem in2_L_wouldScan : ∀ w ∈ wsX20, w ∈ wsL_wouldScan := fun _ h => (List.mem_cons_of_mem _ (List.mem_append_left _ (List.mem_append_left _ (List.mem_append_right _ h))))
theorem in3_L_wouldScan : ∀ w ∈ wsX30, w ∈ wsL_wouldScan := fun _ h => (List.mem_cons_of_mem _ (List.mem_append_left _ (List.mem_append_left _ (List.mem_append_left _ (List.mem_append_right _ h)))))
set_option maxHeartbeats 4000000 in
set_option maxRecDepth 100000 in
theorem lp_L_wouldScan_25 (cy : Nat → ClassId) (e : Nat → Nat) (nM : Nat) (oM : Nat → Int32) (sM : Nat → Int32) (gM : Nat → Int32) (knM : Nat) (loM : Int32) (lfM : Int32) (hM : Nat → Int32) (tM : Nat → Int32) (lM : Nat → Int32) (bM : Nat → Int32) (rM : Nat → Int32) (a : Nat → Nat) (b : Nat → Nat) (r : Nat) (nx : Nat) (sn : Nat) (ln : Nat) (sk : Nat → Nat → Nat) (S : Nat → CK) (ik : Nat → Int32) (bf : Nat → Nat) (kd : Nat) (hg : Nat) (nu : Nat) (dg : Nat) (ng : Bool) (tk : Bool) (n : Nat) (lit : Int32) (h : Nat → Int32) (t : Nat → Int32) (s : Nat → Int32) (g : Nat → Int32) (kn : Nat) (lo : Int32) (lf : Int32) (nm : Nat → Int32) (j : Nat)  (hR0 : sRel ((n, lit, h, t, s, g, kn, lo, lf, nm) : CK) ((nM, oM, hM, tM, sM, gM, knM, loM, lfM, lM) : SK)) (hj : j < 2) (hb : lB nM hM tM (gM 1) bM) (X : kX) (hR : xR X = rm_L_wouldScan) (C : kC X 12 RL cL_wouldScan wsL_wouldScan cy) (E : kEnd X 12 cL_wouldScan (bI True) ((wLa e cy (qSt nM oM sM gM knM loM lfM) hM tM lM bM (lRr oM hM tM sM gM nM j rM 61)) ++ ((wXo b cy (a 0) r nx sn ln (svOf sk) (kpOf sk) ik bf ++ wRd r kd hg nu dg ng tk) ++ (wSky a cy n lit h t s g kn lo lf nm ++ wOth sk cy S)))) : ∀ (fu : Nat) (i : Nat) (s1 : Nat → Int32), 61 - i < fu → (i ≤ 61) → (upd s1 j (sM j) = sM) → kG X 12 0 0 ((wLa e cy (qSt nM oM s1 gM knM loM lfM) hM tM lM bM (lRr oM hM tM sM gM nM j rM i)) ++ ((wXo b cy (a 0) r nx sn ln (svOf sk) (kpOf sk) ik bf ++ wRd r kd hg nu dg ng tk) ++ (wSky a cy n lit h t s g kn lo lf nm ++ wOth sk cy S))) 25 [(0, .ref (b 0)), (1, .int (nI j)), (2, .ref (e 0)), (3, .ref (e 1)), (4, .ref (e 4)), (5, .ref (e 5)), (6, .int (sM j)), (7, .int (nI (lWs (mIs oM hM tM sM gM nM j) (mF3 oM hM tM sM gM nM j) i).1)), (8, .int (lWs (mIs oM hM tM sM gM nM j) (mF3 oM hM tM sM gM nM j) i).2.1), (9, .int (lWs (mIs oM hM tM sM gM nM j) (mF3 oM hM tM sM gM nM j) i).2.2.1), (10, .int (lWs (mIs oM hM tM sM gM nM j) (mF3 oM hM tM sM gM nM j) i).2.2.2), (11, .int (iI (30 - (i : Int))))] [] := by
  intro fu
  induction fu with
  | zero => intro i s1 hfu; exact absurd hfu (Nat.not_lt_zero _)
  | succ fu ih =>
    intro i s1 hfu hi hs9
    obtain ⟨⟨hn, ho, hs0, hs1, hk, hh, ht, hg0, hg1, hg2, hg3⟩, e1, e2, eH, eT, eS, eG, eK, eLo, eLf, eN, eO⟩ := id hR0
    have hn : nM ≤ 6 := hn
    have ho : mBin oM := ho
    have hs0 : sOk (sM 0) := hs0
    have hs1 : sOk (sM 1) := hs1
    have hk : knM ≤ 8 := hk
    have hh : ∀ i, i < nM → 50 ≤ (hM i).toInt ∧ (hM i).toInt ≤ 3000 := hh
    have hg0 : 50 ≤ (gM 0).toInt ∧ (gM 0).toInt ≤ 1000 := hg0
    have hg3 : 0 ≤ (gM 3).toInt ∧ (gM 3).toInt ≤ 100 := hg3
    have e1 : n = nM := e1
    have e2 : lit = mLit oM := e2
    have eH : ∀ i, i < nM → h i = hM i := eH
    have eT : ∀ i, i < nM → t i = tM i := eT
    have eS : ∀ i, i < 2 → s i = sM i := eS
    have eG : ∀ i, i < 4 → g i = gM i := eG
    have eK : kn = knM := eK
    have hIf : ∀ w : Nat, w ≤ 3 → sIf lit h t s g n j w = mWv (lWs (mIs oM hM tM sM gM nM j) (mF3 oM hM tM sM gM nM j) 61) w := by
      intro w hw
      unfold sIf
      rw [lWs_mWs, ← ws_all hw hj hn hs0 hs1 hg0 hg3, e1, e2]
      have q1 : (fun k : Nat => sWith (mLit oM) h t s g nM j (decide (w = 1)) (-30 + (k : Int))) = (fun k : Nat => sWith (mLit oM) hM tM sM gM nM j (decide (w = 1)) (-30 + (k : Int))) := funext fun k => cg_With hn eH eT eS eG
      rw [q1, cg_Out hn eH eT eS eG]
    refine k_iload (q := 27) C 11 dL_wouldScan_25 rfl rfl ?_
    refine k_bipush (q := 29) (v := -30) C dL_wouldScan_27 (by decide +kernel) rfl ?_
    refine k_icmp_lt (tgt := 93) (q := 32) C dL_wouldScan_29 (by decide) rfl ?_ ?_
    · intro c_29
      have c1 : 30 - (i : Int) < -30 := (iI_lt (b := -30) (by omega) (by omega)).mp c_29
      have hie : i = 61 := by omega
      have hlw := lWs_le (is := mIs oM hM tM sM gM nM j) (f3 := mF3 oM hM tM sM gM nM j) i
      have hIg : ∀ w : Nat, w ≤ 3 → sIf lit h t s g n j w = mWv (lWs (mIs oM hM tM sM gM nM j) (mF3 oM hM tM sM gM nM j) i) w := fun w hw => by rw [hie]; exact hIf w hw
      refine k_aload_n (q := 94) C 2 dL_wouldScan_93 rfl rfl ?_
      refine k_iconst (q := 95) (v := 4) C dL_wouldScan_94 (by decide) rfl ?_
      refine k_iload_n (q := 96) C 1 dL_wouldScan_95 rfl rfl ?_
      refine k_iadd (q := 97) C dL_wouldScan_96 rfl ?_
      refine k_sti (show 4 + (nI j) = nI (4 + j) from nI_add 4 j) ?_
      refine k_iload (q := 99) C 6 dL_wouldScan_97 rfl rfl ?_
      refine k_iast (q := 100) (w2 := ((wLa e cy (qSt nM oM (upd s1 j (sM j)) gM knM loM lfM) hM tM lM bM (lRr oM hM tM sM gM nM j rM i)) ++ ((wXo b cy (a 0) r nx sn ln (svOf sk) (kpOf sk) ik bf ++ wRd r kd hg nu dg ng tk) ++ (wSky a cy n lit h t s g kn lo lf nm ++ wOth sk cy S)))) C 0 rfl (vp_in_nI (n := 4 + j) (by omega) (by decide)) (by rw [nI_clamp (n := 4 + j) (by omega)]; exact wLa_qR (mSt_ws (k := j) (by omega))) dL_wouldScan_99 rfl ?_
      refine k_w (w2 := ((wLa e cy (qSt nM oM sM gM knM loM lfM) hM tM lM bM (lRr oM hM tM sM gM nM j rM i)) ++ ((wXo b cy (a 0) r nx sn ln (svOf sk) (kpOf sk) ik bf ++ wRd r kd hg nu dg ng tk) ++ (wSky a cy n lit h t s g kn lo lf nm ++ wOth sk cy S)))) (by rw [hs9]) ?_
      refine k_aload_n (q := 101) C 0 dL_wouldScan_100 rfl rfl ?_
      refine k_iload_n (q := 102) C 1 dL_wouldScan_101 rfl rfl ?_
      refine k_iconst (q := 103) (v := 0) C dL_wouldScan_102 (by decide) rfl ?_
      refine k_callSIw (n := 3) (q := 106) (pre := (wLa e cy (qSt nM oM sM gM knM loM lfM) hM tM lM bM (lRr oM hM tM sM gM nM j rM i))) (post := ([] : va_W)) (w2 := ((wLa e cy (qSt nM oM sM gM knM loM lfM) hM tM lM bM (lRr oM hM tM sM gM nM j rM i)) ++ ((wXo b cy (a 0) r nx sn ln (svOf sk) (kpOf sk) ik bf ++ wRd r kd hg nu dg ng tk) ++ (wSky a cy n lit h t s g kn lo lf nm ++ wOth sk cy S)))) (As := [.ref (b 0), .int (nI j), .int 0]) (rest := []) C (c_L_ifScanned cy a b r nx sn ln sk S ik bf kd hg nu dg ng tk n lit h t s g kn lo lf nm j 0 (by omega) hj (by decide)) gL_wouldScan_L_ifScanned rfl rfl rfl (by decide +kernel) (k_room hR (by decide)) ⟨Nat.zero_le _, Nat.zero_le _⟩ rfl rfl (Nat.le_of_ble_eq_true rfl) (k_pre) (k_pre.symm) dL_wouldScan_103 rfl ?_
      refine k_sti (show sIf lit h t s g n j 0 = nI (lWs (mIs oM hM tM sM gM nM j) (mF3 oM hM tM sM gM nM j) i).1 from (hIg 0 (by decide)).trans (mWv0 _)) ?_
      refine k_iload (q := 108) C 7 dL_wouldScan_106 rfl rfl ?_
      refine k_nicmp_ne (a := (lWs (mIs oM hM tM sM gM nM j) (mF3 oM hM tM sM gM nM j) i).1) (b := (lWs (mIs oM hM tM sM gM nM j) (mF3 oM hM tM sM gM nM j) i).1)  (tgt := 148) (q := 111) C dL_wouldScan_108 (by decide) rfl (by omega) (by omega) ?_ ?_
      · exact fun c_108 => absurd rfl c_108
      · intro c_108
        refine k_aload_n (q := 112) C 0 dL_wouldScan_111 rfl rfl ?_
        refine k_iload_n (q := 113) C 1 dL_wouldScan_112 rfl rfl ?_
        refine k_iconst (q := 114) (v := 1) C dL_wouldScan_113 (by decide) rfl ?_
        refine k_callSIw (n := 3) (q := 117) (pre := (wLa e cy (qSt nM oM sM gM knM loM lfM) hM tM lM bM (lRr oM hM tM sM gM nM j rM i))) (post := ([] : va_W)) (w2 := ((wLa e cy (qSt nM oM sM gM knM loM lfM) hM tM lM bM (lRr oM hM tM sM gM nM j rM i)) ++ ((wXo b cy (a 0) r nx sn ln (svOf sk) (kpOf sk) ik bf ++ wRd r kd hg nu dg ng tk) ++ (wSky a cy n lit h t s g kn lo lf nm ++ wOth sk cy S)))) (As := [.ref (b 0), .int (nI j), .int 1]) (rest := []) C (c_L_ifScanned cy a b r nx sn ln sk S ik bf kd hg nu dg ng tk n lit h t s g kn lo lf nm j 1 (by omega) hj (by decide)) gL_wouldScan_L_ifScanned rfl rfl rfl (by decide +kernel) (k_room hR (by decide)) ⟨Nat.zero_le _, Nat.zero_le _⟩ rfl rfl (Nat.le_of_ble_eq_true rfl) (k_pre) (k_pre.symm) dL_wouldScan_114 rfl ?_
        refine k_sti (show sIf lit h t s g n j 1 = (lWs (mIs oM hM tM sM gM nM j) (mF3 oM hM tM sM gM nM j) i).2.1 from (hIg 1 (by decide)).trans (mWv1 _)) ?_
        refine k_iload (q := 119) C 8 dL_wouldScan_117 rfl rfl ?_
        refine k_icmp_ne (tgt := 148) (q := 122) C dL_wouldScan_119 (by decide) rfl ?_ ?_
        · exact fun c_119 => absurd rfl c_119
        · intro c_119
          refine k_aload_n (q := 123) C 0 dL_wouldScan_122 rfl rfl ?_
          refine k_iload_n (q := 124) C 1 dL_wouldScan_123 rfl rfl ?_
          refine k_iconst (q := 125) (v := 2) C dL_wouldScan_124 (by decide) rfl ?_
          refine k_callSIw (n := 3) (q := 128) (pre := (wLa e cy (qSt nM oM sM gM knM loM lfM) hM tM lM bM (lRr oM hM tM sM gM nM j rM i))) (post := ([] : va_W)) (w2 := ((wLa e cy (qSt nM oM sM gM knM loM lfM) hM tM lM bM (lRr oM hM tM sM gM nM j rM i)) ++ ((wXo b cy (a 0) r nx sn ln (svOf sk) (kpOf sk) ik bf ++ wRd r kd hg nu dg ng tk) ++ (wSky a cy n lit h t s g kn lo lf nm ++ wOth sk cy S)))) (As := [.ref (b 0), .int (nI j), .int 2]) (rest := []) C (c_L_ifScanned cy a b r nx sn ln sk S ik bf kd hg nu dg ng tk n lit h t s g kn lo lf nm j 2 (by omega) hj (by decide)) gL_wouldScan_L_ifScanned rfl rfl rfl (by decide +kernel) (k_room hR (by decide)) ⟨Nat.zero_le _, Nat.zero_le _⟩ rfl rfl (Nat.le_of_ble_eq_true rfl) (k_pre) (k_pre.symm) dL_wouldScan_125 rfl ?_
          refine k_sti (show sIf lit h t s g n j 2 = (lWs (mIs oM hM tM sM gM nM j) (mF3 oM hM tM sM gM nM j) i).2.2.1 from (hIg 2 (by decide)).trans (mWv2 _)) ?_
          refine k_iload (q := 130) C 9 dL_wouldScan_128 rfl rfl ?_
          refine k_icmp_ne (tgt := 148) (q := 133) C dL_wouldScan_130 (by decide) rfl ?_ ?_
          · exact fun c_130 => absurd rfl c_130
          · intro c_130
            refine k_aload_n (q := 134) C 0 dL_wouldScan_133 rfl rfl ?_
            refine k_iload_n (q := 135) C 1 dL_wouldScan_134 rfl rfl ?_
            refine k_iconst (q := 136) (v := 3) C dL_wouldScan_135 (by decide) rfl ?_
            refine k_callSIw (n := 3) (q := 139) (pre := (wLa e cy (qSt nM oM sM gM knM loM lfM) hM tM lM bM (lRr oM hM tM sM gM nM j rM i))) (post := ([] : va_W)) (w2 := ((wLa e cy (qSt nM oM sM gM knM loM lfM) hM tM lM bM (lRr oM hM tM sM gM nM j rM i)) ++ ((wXo b cy (a 0) r nx sn ln (svOf sk) (kpOf sk) ik bf ++ wRd r kd hg nu dg ng tk) ++ (wSky a cy n lit h t s g kn lo lf nm ++ wOth sk cy S)))) (As := [.ref (b 0), .int (nI j), .int 3]) (rest := []) C (c_L_ifScanned cy a b r nx sn ln sk S ik bf kd hg nu dg ng tk n lit h t s g kn lo lf nm j 3 (by omega) hj (by decide)) gL_wouldScan_L_ifScanned rfl rfl rfl (by decide +kernel) (k_room hR (by decide)) ⟨Nat.zero_le _, Nat.zero_le _⟩ rfl rfl (Nat.le_of_ble_eq_true rfl) (k_pre) (k_pre.symm) dL_wouldScan_136 rfl ?_
            refine k_sti (show sIf lit h t s g n j 3 = (lWs (mIs oM hM tM sM gM nM j) (mF3 oM hM tM sM gM nM j) i).2.2.2 from (hIg 3 (by decide)).trans (mWv3 _)) ?_
            refine k_iload (q := 141) C 10 dL_wouldScan_139 rfl rfl ?_
            refine k_icmp_ne (tgt := 148) (q := 144) C dL_wouldScan_141 (by decide) rfl ?_ ?_
            · exact fun c_141 => absurd rfl c_141
            · intro c_141
              refine k_iconst (q := 145) (v := 1) C dL_wouldScan_144 (by decide) rfl ?_
              refine k_goto (q := 149) C dL_wouldScan_145 (by decide) ?_
              exact k_fin E dL_wouldScan_149 (bI_t trivial) (by rw [hie])
    · intro c_29
      have c_29 := Int32.not_lt.mp c_29
      have c1 : ¬ 30 - (i : Int) < -30 := fun q => absurd ((iI_lt (b := -30) (by omega) (by omega)).mpr q) (Int32.not_lt.mpr c_29)
      have hlw := lWs_le (is := mIs oM hM tM sM gM nM j) (f3 := mF3 oM hM tM sM gM nM j) i
      have hz : sOk (iI (30 - (i : Int))) := sOk_i (by omega)
      have hm := lIs_m (o := oM) (h := hM) (t := tM) (s := sM) (g := gM) (n := nM) (j := j) (i := i) (by omega)
      refine k_aload_n (q := 33) C 2 dL_wouldScan_32 rfl rfl ?_
      refine k_iconst (q := 34) (v := 4) C dL_wouldScan_33 (by decide) rfl ?_
      refine k_iload_n (q := 35) C 1 dL_wouldScan_34 rfl rfl ?_
      refine k_iadd (q := 36) C dL_wouldScan_35 rfl ?_
      refine k_sti (show 4 + (nI j) = nI (4 + j) from nI_add 4 j) ?_
      refine k_iload (q := 38) C 11 dL_wouldScan_36 rfl rfl ?_
      refine k_iast (q := 39) (w2 := ((wLa e cy (qSt nM oM (upd s1 j (iI (30 - (i : Int)))) gM knM loM lfM) hM tM lM bM (lRr oM hM tM sM gM nM j rM i)) ++ ((wXo b cy (a 0) r nx sn ln (svOf sk) (kpOf sk) ik bf ++ wRd r kd hg nu dg ng tk) ++ (wSky a cy n lit h t s g kn lo lf nm ++ wOth sk cy S)))) C 0 rfl (vp_in_nI (n := 4 + j) (by omega) (by decide)) (by rw [nI_clamp (n := 4 + j) (by omega)]; exact wLa_qR (mSt_ws (k := j) (by omega))) dL_wouldScan_38 rfl ?_
      refine k_w (w2 := ((wLa e cy (qSt nM oM (upd sM j (iI (30 - (i : Int)))) gM knM loM lfM) hM tM lM bM (lRr oM hM tM sM gM nM j rM i)) ++ ((wXo b cy (a 0) r nx sn ln (svOf sk) (kpOf sk) ik bf ++ wRd r kd hg nu dg ng tk) ++ (wSky a cy n lit h t s g kn lo lf nm ++ wOth sk cy S)))) (by rw [upd_to hs9]) ?_
      refine k_aload_n (q := 40) C 2 dL_wouldScan_39 rfl rfl ?_
      refine k_aload_n (q := 41) C 3 dL_wouldScan_40 rfl rfl ?_
      refine k_aload (q := 43) C 4 dL_wouldScan_41 rfl rfl ?_
      refine k_aload (q := 45) C 5 dL_wouldScan_43 rfl rfl ?_
      refine k_callSI (n := 4) (q := 48) (pre := ([] : va_W)) (post := ((wXo b cy (a 0) r nx sn ln (svOf sk) (kpOf sk) ik bf ++ wRd r kd hg nu dg ng tk) ++ (wSky a cy n lit h t s g kn lo lf nm ++ wOth sk cy S))) (w2 := ((wLa e cy (qSt nM oM (upd sM j (iI (30 - (i : Int)))) gM knM loM lfM) hM tM lM bM (upd (upd (upd (upd (lRr oM hM tM sM gM nM j rM i) 0 (mRn hM nM (sMeet gM ((upd sM j (iI (30 - (i : Int)))) 0) ((upd sM j (iI (30 - (i : Int)))) 1)) (mC (sClose (mLit oM) hM tM (upd sM j (iI (30 - (i : Int)))) gM) (mD hM (upd sM j (iI (30 - (i : Int)))) gM) nM) 0)) 1 (mRn hM nM (sMeet gM ((upd sM j (iI (30 - (i : Int)))) 0) ((upd sM j (iI (30 - (i : Int)))) 1)) (mC (sClose (mLit oM) hM tM (upd sM j (iI (30 - (i : Int)))) gM) (mD hM (upd sM j (iI (30 - (i : Int)))) gM) nM) 1)) 2 (mRn hM nM (sMeet gM ((upd sM j (iI (30 - (i : Int)))) 0) ((upd sM j (iI (30 - (i : Int)))) 1)) (mC (sClose (mLit oM) hM tM (upd sM j (iI (30 - (i : Int)))) gM) (mD hM (upd sM j (iI (30 - (i : Int)))) gM) nM) 2)) 3 (mRn hM nM (sMeet gM ((upd sM j (iI (30 - (i : Int)))) 0) ((upd sM j (iI (30 - (i : Int)))) 1)) (mC (sClose (mLit oM) hM tM (upd sM j (iI (30 - (i : Int)))) gM) (mD hM (upd sM j (iI (30 - (i : Int)))) gM) nM) 3))) ++ ((wXo b cy (a 0) r nx sn ln (svOf sk) (kpOf sk) ik bf ++ wRd r kd hg nu dg ng tk) ++ (wSky a cy n lit h t s g kn lo lf nm ++ wOth sk cy S)))) (As := [.ref (e 0), .ref (e 1), .ref (e 4), .ref (e 5)]) (rest := []) C (c_L_reads cy e nM oM (upd sM j (iI (30 - (i : Int)))) gM knM loM lfM hM tM lM bM (lRr oM hM tM sM gM nM j rM i) hn hb ho (sOk_upd hs0 hz) (sOk_upd hs1 hz) hg0) gL_wouldScan_L_reads rfl rfl rfl (by decide +kernel) (k_room hR (by decide)) ⟨Nat.zero_le _, Nat.zero_le _⟩  rfl rfl (Nat.le_of_ble_eq_true rfl) (rfl) (rfl) dL_wouldScan_45 rfl ?_
      refine k_ifB_eq (tgt := 87) (q := 51) C dL_wouldScan_48 (by decide) rfl ?_ ?_
      · intro c_48
        have hmi : ¬ mIs oM hM tM sM gM nM j (60 - i) = true := fun q => c_48 (hm.mpr q)
        refine k_iinc (q := 90) (v := iI (30 - ((i + 1 : Nat) : Int))) (fr2 := [(11, .int (iI (30 - ((i + 1 : Nat) : Int)))), (0, .ref (b 0)), (1, .int (nI j)), (2, .ref (e 0)), (3, .ref (e 1)), (4, .ref (e 4)), (5, .ref (e 5)), (6, .int (sM j)), (7, .int (nI (lWs (mIs oM hM tM sM gM nM j) (mF3 oM hM tM sM gM nM j) i).1)), (8, .int (lWs (mIs oM hM tM sM gM nM j) (mF3 oM hM tM sM gM nM j) i).2.1), (9, .int (lWs (mIs oM hM tM sM gM nM j) (mF3 oM hM tM sM gM nM j) i).2.2.1), (10, .int (lWs (mIs oM hM tM sM gM nM j) (mF3 oM hM tM sM gM nM j) i).2.2.2)]) C 11 dL_wouldScan_87 rfl ((by rw [show (Int32.ofInt (-1)) = iI (-1) from rfl, iI_add]; congr 1; omega)) (by decide) rfl rfl ?_
        refine k_goto (q := 25) C dL_wouldScan_90 (by decide) ?_
        refine k_fr (fr2 := [(0, .ref (b 0)), (1, .int (nI j)), (2, .ref (e 0)), (3, .ref (e 1)), (4, .ref (e 4)), (5, .ref (e 5)), (6, .int (sM j)), (7, .int (nI (lWs (mIs oM hM tM sM gM nM j) (mF3 oM hM tM sM gM nM j) i).1)), (8, .int (lWs (mIs oM hM tM sM gM nM j) (mF3 oM hM tM sM gM nM j) i).2.1), (9, .int (lWs (mIs oM hM tM sM gM nM j) (mF3 oM hM tM sM gM nM j) i).2.2.1), (10, .int (lWs (mIs oM hM tM sM gM nM j) (mF3 oM hM tM sM gM nM j) i).2.2.2), (11, .int (iI (30 - ((i + 1 : Nat) : Int))))]) ⟨[1, 2, 3, 4, 5, 6, 7, 8, 9, 10, 11, 0], rfl⟩ ?_
        have K := ih (i + 1) (upd sM j (iI (30 - (i : Int)))) (by omega) (by omega) (upd_back (upd_self sM j))
        rw [lWs_n hmi] at K
        exact K
      · intro c_48
        have hmi : mIs oM hM tM sM gM nM j (60 - i) = true := hm.mp c_48
        refine k_iinc (q := 54) (v := nI ((lWs (mIs oM hM tM sM gM nM j) (mF3 oM hM tM sM gM nM j) i).1 + 1)) (fr2 := [(7, .int (nI ((lWs (mIs oM hM tM sM gM nM j) (mF3 oM hM tM sM gM nM j) i).1 + 1))), (0, .ref (b 0)), (1, .int (nI j)), (2, .ref (e 0)), (3, .ref (e 1)), (4, .ref (e 4)), (5, .ref (e 5)), (6, .int (sM j)), (8, .int (lWs (mIs oM hM tM sM gM nM j) (mF3 oM hM tM sM gM nM j) i).2.1), (9, .int (lWs (mIs oM hM tM sM gM nM j) (mF3 oM hM tM sM gM nM j) i).2.2.1), (10, .int (lWs (mIs oM hM tM sM gM nM j) (mF3 oM hM tM sM gM nM j) i).2.2.2), (11, .int (iI (30 - (i : Int))))]) C 7 dL_wouldScan_51 rfl (nI_add (lWs (mIs oM hM tM sM gM nM j) (mF3 oM hM tM sM gM nM j) i).1 1) (by decide) rfl rfl ?_
        refine k_iload (q := 56) C 8 dL_wouldScan_54 rfl rfl ?_
        refine k_aload (q := 58) C 6 dL_wouldScan_56 rfl rfl ?_
        refine k_iconst (q := 59) (v := 3) C dL_wouldScan_58 (by decide) rfl ?_
        refine k_iald (q := 60) C 5 rfl (vp_in_nI (n := 3) (by decide) (by decide)) dL_wouldScan_59 rfl ?_
        refine k_sti (show (upd (upd (upd (upd (lRr oM hM tM sM gM nM j rM i) 0 (mRn hM nM (sMeet gM ((upd sM j (iI (30 - (i : Int)))) 0) ((upd sM j (iI (30 - (i : Int)))) 1)) (mC (sClose (mLit oM) hM tM (upd sM j (iI (30 - (i : Int)))) gM) (mD hM (upd sM j (iI (30 - (i : Int)))) gM) nM) 0)) 1 (mRn hM nM (sMeet gM ((upd sM j (iI (30 - (i : Int)))) 0) ((upd sM j (iI (30 - (i : Int)))) 1)) (mC (sClose (mLit oM) hM tM (upd sM j (iI (30 - (i : Int)))) gM) (mD hM (upd sM j (iI (30 - (i : Int)))) gM) nM) 1)) 2 (mRn hM nM (sMeet gM ((upd sM j (iI (30 - (i : Int)))) 0) ((upd sM j (iI (30 - (i : Int)))) 1)) (mC (sClose (mLit oM) hM tM (upd sM j (iI (30 - (i : Int)))) gM) (mD hM (upd sM j (iI (30 - (i : Int)))) gM) nM) 2)) 3 (mRn hM nM (sMeet gM ((upd sM j (iI (30 - (i : Int)))) 0) ((upd sM j (iI (30 - (i : Int)))) 1)) (mC (sClose (mLit oM) hM tM (upd sM j (iI (30 - (i : Int)))) gM) (mD hM (upd sM j (iI (30 - (i : Int)))) gM) nM) 3)) (3 : Int32).toNatClampNeg = (upd (upd (upd (upd (lRr oM hM tM sM gM nM j rM i) 0 (mRn hM nM (sMeet gM ((upd sM j (iI (30 - (i : Int)))) 0) ((upd sM j (iI (30 - (i : Int)))) 1)) (mC (sClose (mLit oM) hM tM (upd sM j (iI (30 - (i : Int)))) gM) (mD hM (upd sM j (iI (30 - (i : Int)))) gM) nM) 0)) 1 (mRn hM nM (sMeet gM ((upd sM j (iI (30 - (i : Int)))) 0) ((upd sM j (iI (30 - (i : Int)))) 1)) (mC (sClose (mLit oM) hM tM (upd sM j (iI (30 - (i : Int)))) gM) (mD hM (upd sM j (iI (30 - (i : Int)))) gM) nM) 1)) 2 (mRn hM nM (sMeet gM ((upd sM j (iI (30 - (i : Int)))) 0) ((upd sM j (iI (30 - (i : Int)))) 1)) (mC (sClose (mLit oM) hM tM (upd sM j (iI (30 - (i : Int)))) gM) (mD hM (upd sM j (iI (30 - (i : Int)))) gM) nM) 2)) 3 (mRn hM nM (sMeet gM ((upd sM j (iI (30 - (i : Int)))) 0) ((upd sM j (iI (30 - (i : Int)))) 1)) (mC (sClose (mLit oM) hM tM (upd sM j (iI (30 - (i : Int)))) gM) (mD hM (upd sM j (iI (30 - (i : Int)))) gM) nM) 3)) 3 from congrArg (upd (upd (upd (upd (lRr oM hM tM sM gM nM j rM i) 0 (mRn hM nM (sMeet gM ((upd sM j (iI (30 - (i : Int)))) 0) ((upd sM j (iI (30 - (i : Int)))) 1)) (mC (sClose (mLit oM) hM tM (upd sM j (iI (30 - (i : Int)))) gM) (mD hM (upd sM j (iI (30 - (i : Int)))) gM) nM) 0)) 1 (mRn hM nM (sMeet gM ((upd sM j (iI (30 - (i : Int)))) 0) ((upd sM j (iI (30 - (i : Int)))) 1)) (mC (sClose (mLit oM) hM tM (upd sM j (iI (30 - (i : Int)))) gM) (mD hM (upd sM j (iI (30 - (i : Int)))) gM) nM) 1)) 2 (mRn hM nM (sMeet gM ((upd sM j (iI (30 - (i : Int)))) 0) ((upd sM j (iI (30 - (i : Int)))) 1)) (mC (sClose (mLit oM) hM tM (upd sM j (iI (30 - (i : Int)))) gM) (mD hM (upd sM j (iI (30 - (i : Int)))) gM) nM) 2)) 3 (mRn hM nM (sMeet gM ((upd sM j (iI (30 - (i : Int)))) 0) ((upd sM j (iI (30 - (i : Int)))) 1)) (mC (sClose (mLit oM) hM tM (upd sM j (iI (30 - (i : Int)))) gM) (mD hM (upd sM j (iI (30 - (i : Int)))) gM) nM) 3)) (nI_clamp (n := 3) (by decide))) ?_
        refine k_sti (show (upd (upd (upd (upd (lRr oM hM tM sM gM nM j rM i) 0 (mRn hM nM (sMeet gM ((upd sM j (iI (30 - (i : Int)))) 0) ((upd sM j (iI (30 - (i : Int)))) 1)) (mC (sClose (mLit oM) hM tM (upd sM j (iI (30 - (i : Int)))) gM) (mD hM (upd sM j (iI (30 - (i : Int)))) gM) nM) 0)) 1 (mRn hM nM (sMeet gM ((upd sM j (iI (30 - (i : Int)))) 0) ((upd sM j (iI (30 - (i : Int)))) 1)) (mC (sClose (mLit oM) hM tM (upd sM j (iI (30 - (i : Int)))) gM) (mD hM (upd sM j (iI (30 - (i : Int)))) gM) nM) 1)) 2 (mRn hM nM (sMeet gM ((upd sM j (iI (30 - (i : Int)))) 0) ((upd sM j (iI (30 - (i : Int)))) 1)) (mC (sClose (mLit oM) hM tM (upd sM j (iI (30 - (i : Int)))) gM) (mD hM (upd sM j (iI (30 - (i : Int)))) gM) nM) 2)) 3 (mRn hM nM (sMeet gM ((upd sM j (iI (30 - (i : Int)))) 0) ((upd sM j (iI (30 - (i : Int)))) 1)) (mC (sClose (mLit oM) hM tM (upd sM j (iI (30 - (i : Int)))) gM) (mD hM (upd sM j (iI (30 - (i : Int)))) gM) nM) 3)) 3 = mRn hM nM (sMeet gM (upd sM j (iI (30 - (i : Int))) 0) (upd sM j (iI (30 - (i : Int))) 1)) (mC (sClose (mLit oM) hM tM (upd sM j (iI (30 - (i : Int)))) gM) (mD hM (upd sM j (iI (30 - (i : Int)))) gM) nM) 3 from rfl) ?_
        refine k_sti (show mRn hM nM (sMeet gM (upd sM j (iI (30 - (i : Int))) 0) (upd sM j (iI (30 - (i : Int))) 1)) (mC (sClose (mLit oM) hM tM (upd sM j (iI (30 - (i : Int)))) gM) (mD hM (upd sM j (iI (30 - (i : Int)))) gM) nM) 3 = mF3 oM hM tM sM gM nM j (60 - i) from lF3_m (by omega)) ?_
        refine k_iadd (q := 61) C dL_wouldScan_60 rfl ?_
        refine k_istore (q := 63) (fr2 := [(8, .int ((lWs (mIs oM hM tM sM gM nM j) (mF3 oM hM tM sM gM nM j) i).2.1 + (mF3 oM hM tM sM gM nM j (60 - i)))), (7, .int (nI ((lWs (mIs oM hM tM sM gM nM j) (mF3 oM hM tM sM gM nM j) i).1 + 1))), (0, .ref (b 0)), (1, .int (nI j)), (2, .ref (e 0)), (3, .ref (e 1)), (4, .ref (e 4)), (5, .ref (e 5)), (6, .int (sM j)), (9, .int (lWs (mIs oM hM tM sM gM nM j) (mF3 oM hM tM sM gM nM j) i).2.2.1), (10, .int (lWs (mIs oM hM tM sM gM nM j) (mF3 oM hM tM sM gM nM j) i).2.2.2), (11, .int (iI (30 - (i : Int))))]) C dL_wouldScan_61 (by decide) rfl rfl ?_
        refine k_iload (q := 65) C 11 dL_wouldScan_63 rfl rfl ?_
        refine k_bipush (q := 67) (v := 100) C dL_wouldScan_65 (by decide +kernel) rfl ?_
        refine k_iadd (q := 68) C dL_wouldScan_67 rfl ?_
        refine k_istore (q := 70) (fr2 := [(9, .int ((iI (30 - (i : Int))) + 100)), (8, .int ((lWs (mIs oM hM tM sM gM nM j) (mF3 oM hM tM sM gM nM j) i).2.1 + (mF3 oM hM tM sM gM nM j (60 - i)))), (7, .int (nI ((lWs (mIs oM hM tM sM gM nM j) (mF3 oM hM tM sM gM nM j) i).1 + 1))), (0, .ref (b 0)), (1, .int (nI j)), (2, .ref (e 0)), (3, .ref (e 1)), (4, .ref (e 4)), (5, .ref (e 5)), (6, .int (sM j)), (10, .int (lWs (mIs oM hM tM sM gM nM j) (mF3 oM hM tM sM gM nM j) i).2.2.2), (11, .int (iI (30 - (i : Int))))]) C dL_wouldScan_68 (by decide) rfl rfl ?_
        have J_70 : kG X 12 0 0 ((wLa e cy (qSt nM oM (upd sM j (iI (30 - (i : Int)))) gM knM loM lfM) hM tM lM bM (upd (upd (upd (upd (lRr oM hM tM sM gM nM j rM i) 0 (mRn hM nM (sMeet gM ((upd sM j (iI (30 - (i : Int)))) 0) ((upd sM j (iI (30 - (i : Int)))) 1)) (mC (sClose (mLit oM) hM tM (upd sM j (iI (30 - (i : Int)))) gM) (mD hM (upd sM j (iI (30 - (i : Int)))) gM) nM) 0)) 1 (mRn hM nM (sMeet gM ((upd sM j (iI (30 - (i : Int)))) 0) ((upd sM j (iI (30 - (i : Int)))) 1)) (mC (sClose (mLit oM) hM tM (upd sM j (iI (30 - (i : Int)))) gM) (mD hM (upd sM j (iI (30 - (i : Int)))) gM) nM) 1)) 2 (mRn hM nM (sMeet gM ((upd sM j (iI (30 - (i : Int)))) 0) ((upd sM j (iI (30 - (i : Int)))) 1)) (mC (sClose (mLit oM) hM tM (upd sM j (iI (30 - (i : Int)))) gM) (mD hM (upd sM j (iI (30 - (i : Int)))) gM) nM) 2)) 3 (mRn hM nM (sMeet gM ((upd sM j (iI (30 - (i : Int)))) 0) ((upd sM j (iI (30 - (i : Int)))) 1)) (mC (sClose (mLit oM) hM tM (upd sM j (iI (30 - (i : Int)))) gM) (mD hM (upd sM j (iI (30 - (i : Int)))) gM) nM) 3))) ++ ((wXo b cy (a 0) r nx sn ln (svOf sk) (kpOf sk) ik bf ++ wRd r kd hg nu dg ng tk) ++ (wSky a cy n lit h t s g kn lo lf nm ++ wOth sk cy S))) 85 [(9, .int ((iI (30 - (i : Int))) + 100)), (8, .int ((lWs (mIs oM hM tM sM gM nM j) (mF3 oM hM tM sM gM nM j) i).2.1 + (mF3 oM hM tM sM gM nM j (60 - i)))), (7, .int (nI ((lWs (mIs oM hM tM sM gM nM j) (mF3 oM hM tM sM gM nM j) i).1 + 1))), (0, .ref (b 0)), (1, .int (nI j)), (2, .ref (e 0)), (3, .ref (e 1)), (4, .ref (e 4)), (5, .ref (e 5)), (6, .int (sM j)), (10, .int (lWs (mIs oM hM tM sM gM nM j) (mF3 oM hM tM sM gM nM j) i).2.2.2), (11, .int (iI (30 - (i : Int))))] [.int (lWs (mIs oM hM tM sM gM nM j) (mF3 oM hM tM sM gM nM j) (i + 1)).2.2.2] := by
          refine k_istore (q := 87) (fr2 := [(10, .int (lWs (mIs oM hM tM sM gM nM j) (mF3 oM hM tM sM gM nM j) (i + 1)).2.2.2), (9, .int ((iI (30 - (i : Int))) + 100)), (8, .int ((lWs (mIs oM hM tM sM gM nM j) (mF3 oM hM tM sM gM nM j) i).2.1 + (mF3 oM hM tM sM gM nM j (60 - i)))), (7, .int (nI ((lWs (mIs oM hM tM sM gM nM j) (mF3 oM hM tM sM gM nM j) i).1 + 1))), (0, .ref (b 0)), (1, .int (nI j)), (2, .ref (e 0)), (3, .ref (e 1)), (4, .ref (e 4)), (5, .ref (e 5)), (6, .int (sM j)), (11, .int (iI (30 - (i : Int))))]) C dL_wouldScan_85 (by decide) rfl rfl ?_
          refine k_iinc (q := 90) (v := iI (30 - ((i + 1 : Nat) : Int))) (fr2 := [(11, .int (iI (30 - ((i + 1 : Nat) : Int)))), (10, .int (lWs (mIs oM hM tM sM gM nM j) (mF3 oM hM tM sM gM nM j) (i + 1)).2.2.2), (9, .int ((iI (30 - (i : Int))) + 100)), (8, .int ((lWs (mIs oM hM tM sM gM nM j) (mF3 oM hM tM sM gM nM j) i).2.1 + (mF3 oM hM tM sM gM nM j (60 - i)))), (7, .int (nI ((lWs (mIs oM hM tM sM gM nM j) (mF3 oM hM tM sM gM nM j) i).1 + 1))), (0, .ref (b 0)), (1, .int (nI j)), (2, .ref (e 0)), (3, .ref (e 1)), (4, .ref (e 4)), (5, .ref (e 5)), (6, .int (sM j))]) C 11 dL_wouldScan_87 rfl ((by rw [show (Int32.ofInt (-1)) = iI (-1) from rfl, iI_add]; congr 1; omega)) (by decide) rfl rfl ?_
          refine k_goto (q := 25) C dL_wouldScan_90 (by decide) ?_
          refine k_fr (fr2 := [(0, .ref (b 0)), (1, .int (nI j)), (2, .ref (e 0)), (3, .ref (e 1)), (4, .ref (e 4)), (5, .ref (e 5)), (6, .int (sM j)), (7, .int (nI ((lWs (mIs oM hM tM sM gM nM j) (mF3 oM hM tM sM gM nM j) i).1 + 1))), (8, .int ((lWs (mIs oM hM tM sM gM nM j) (mF3 oM hM tM sM gM nM j) i).2.1 + (mF3 oM hM tM sM gM nM j (60 - i)))), (9, .int ((iI (30 - (i : Int))) + 100)), (10, .int (lWs (mIs oM hM tM sM gM nM j) (mF3 oM hM tM sM gM nM j) (i + 1)).2.2.2), (11, .int (iI (30 - ((i + 1 : Nat) : Int))))]) ⟨[5, 6, 7, 8, 9, 10, 11, 4, 3, 2, 1, 0], rfl⟩ ?_
          have K := ih (i + 1) (upd sM j (iI (30 - (i : Int)))) (by omega) (by omega) (upd_back (upd_self sM j))
          rw [lWs_y hmi] at K; rw [lWs_y hmi]
          exact K
        refine k_iload (q := 72) C 10 dL_wouldScan_70 rfl rfl ?_
        refine k_if_ge (tgt := 83) (q := 75) C dL_wouldScan_72 (by decide) rfl ?_ ?_
        · intro c_72
          refine k_iload (q := 85) C 10 dL_wouldScan_83 rfl rfl ?_
          exact k_sti (show (lWs (mIs oM hM tM sM gM nM j) (mF3 oM hM tM sM gM nM j) i).2.2.2 = (lWs (mIs oM hM tM sM gM nM j) (mF3 oM hM tM sM gM nM j) (i + 1)).2.2.2 from by rw [lWs_y hmi]; exact (if_neg (Int32.not_lt.mpr c_72)).symm) J_70
        · intro c_72
          have c_72 := Int32.not_le.mp c_72
          refine k_iload (q := 77) C 11 dL_wouldScan_75 rfl rfl ?_
          refine k_bipush (q := 79) (v := 100) C dL_wouldScan_77 (by decide +kernel) rfl ?_
          refine k_iadd (q := 80) C dL_wouldScan_79 rfl ?_
          refine k_goto (q := 85) C dL_wouldScan_80 (by decide) ?_
          exact k_sti (show (iI (30 - (i : Int))) + 100 = (lWs (mIs oM hM tM sM gM nM j) (mF3 oM hM tM sM gM nM j) (i + 1)).2.2.2 from by rw [lWs_y hmi]; exact (if_pos c_72).symm) J_70
set_option maxHeartbeats 4000000 in
set_option maxRecDepth 100000 in
theorem c_L_wouldScan (cy : Nat → ClassId) (e : Nat → Nat) (nM : Nat) (oM : Nat → Int32) (sM : Nat → Int32) (gM : Nat → Int32) (knM : Nat) (loM : Int32) (lfM : Int32) (hM : Nat → Int32) (tM : Nat → Int32) (lM : Nat → Int32) (bM : Nat → Int32) (rM : Nat → Int32) (a : Nat → Nat) (b : Nat → Nat) (r : Nat) (nx : Nat) (sn : Nat) (ln : Nat) (sk : Nat → Nat → Nat) (S : Nat → CK) (ik : Nat → Int32) (bf : Nat → Nat) (kd : Nat) (hg : Nat) (nu : Nat) (dg : Nat) (ng : Bool) (tk : Bool) (n : Nat) (lit : Int32) (h : Nat → Int32) (t : Nat → Int32) (s : Nat → Int32) (g : Nat → Int32) (kn : Nat) (lo : Int32) (lf : Int32) (nm : Nat → Int32) (j : Nat)  (hR0 : sRel ((n, lit, h, t, s, g, kn, lo, lf, nm) : CK) ((nM, oM, hM, tM, sM, gM, knM, loM, lfM, lM) : SK)) (hj : j < 2) (hb : lB nM hM tM (gM 1) bM) : kI yL_wouldScan wsL_wouldScan rm_L_wouldScan cy [.ref (b 0), .int (nI j), .ref (e 0), .ref (e 1), .ref (e 4), .ref (e 5)] ((wLa e cy (qSt nM oM sM gM knM loM lfM) hM tM lM bM rM) ++ ((wXo b cy (a 0) r nx sn ln (svOf sk) (kpOf sk) ik bf ++ wRd r kd hg nu dg ng tk) ++ (wSky a cy n lit h t s g kn lo lf nm ++ wOth sk cy S))) (bI True) ((wLa e cy (qSt nM oM sM gM knM loM lfM) hM tM lM bM (lRr oM hM tM sM gM nM j rM 61)) ++ ((wXo b cy (a 0) r nx sn ln (svOf sk) (kpOf sk) ik bf ++ wRd r kd hg nu dg ng tk) ++ (wSky a cy n lit h t s g kn lo lf nm ++ wOth sk cy S))) := by
  refine kI_of (cc := cL_wouldScan) (maxL := 12) (rt := .boolean) (by decide) rfl (kb_nar _) (Nat.le_of_ble_eq_true rfl) ?_
  intro X hR C E
  have C : kC X 12 RL cL_wouldScan wsL_wouldScan cy := C
  refine k_fr (fr2 := [(0, .ref (b 0)), (1, .int (nI j)), (2, .ref (e 0)), (3, .ref (e 1)), (4, .ref (e 4)), (5, .ref (e 5))]) ⟨[0, 1, 2, 3, 4, 5], rfl⟩ ?_
  obtain ⟨⟨hn, ho, hs0, hs1, hk, hh, ht, hg0, hg1, hg2, hg3⟩, e1, e2, eH, eT, eS, eG, eK, eLo, eLf, eN, eO⟩ := id hR0
  have hn : nM ≤ 6 := hn
  have ho : mBin oM := ho
  have hs0 : sOk (sM 0) := hs0
  have hs1 : sOk (sM 1) := hs1
  have hk : knM ≤ 8 := hk
  have hh : ∀ i, i < nM → 50 ≤ (hM i).toInt ∧ (hM i).toInt ≤ 3000 := hh
  have hg0 : 50 ≤ (gM 0).toInt ∧ (gM 0).toInt ≤ 1000 := hg0
  have hg3 : 0 ≤ (gM 3).toInt ∧ (gM 3).toInt ≤ 100 := hg3
  have e1 : n = nM := e1
  have e2 : lit = mLit oM := e2
  have eH : ∀ i, i < nM → h i = hM i := eH
  have eT : ∀ i, i < nM → t i = tM i := eT
  have eS : ∀ i, i < 2 → s i = sM i := eS
  have eG : ∀ i, i < 4 → g i = gM i := eG
  have eK : kn = knM := eK
  have hIf : ∀ w : Nat, w ≤ 3 → sIf lit h t s g n j w = mWv (lWs (mIs oM hM tM sM gM nM j) (mF3 oM hM tM sM gM nM j) 61) w := by
    intro w hw
    unfold sIf
    rw [lWs_mWs, ← ws_all hw hj hn hs0 hs1 hg0 hg3, e1, e2]
    have q1 : (fun k : Nat => sWith (mLit oM) h t s g nM j (decide (w = 1)) (-30 + (k : Int))) = (fun k : Nat => sWith (mLit oM) hM tM sM gM nM j (decide (w = 1)) (-30 + (k : Int))) := funext fun k => cg_With hn eH eT eS eG
    rw [q1, cg_Out hn eH eT eS eG]
  refine k_aload_n (q := 1) C 2 dL_wouldScan_0 rfl rfl ?_
  refine k_iconst (q := 2) (v := 4) C dL_wouldScan_1 (by decide) rfl ?_
  refine k_iload_n (q := 3) C 1 dL_wouldScan_2 rfl rfl ?_
  refine k_iadd (q := 4) C dL_wouldScan_3 rfl ?_
  refine k_sti (show 4 + (nI j) = nI (4 + j) from nI_add 4 j) ?_
  refine k_iald (q := 5) C 0 rfl (vp_in_nI (n := 4 + j) (by omega) (by decide)) dL_wouldScan_4 rfl ?_
  refine k_sti (show (qSt nM oM sM gM knM loM lfM) (nI (4 + j)).toNatClampNeg = (qSt nM oM sM gM knM loM lfM) (4 + j) from congrArg (qSt nM oM sM gM knM loM lfM) (nI_clamp (n := 4 + j) (by omega))) ?_
  refine k_sti (show (qSt nM oM sM gM knM loM lfM) (4 + j) = sM j from mSt_s (k := j) (by omega)) ?_
  refine k_istore (q := 7) (fr2 := [(6, .int (sM j)), (0, .ref (b 0)), (1, .int (nI j)), (2, .ref (e 0)), (3, .ref (e 1)), (4, .ref (e 4)), (5, .ref (e 5))]) C dL_wouldScan_5 (by decide) rfl rfl ?_
  refine k_iconst (q := 8) (v := 0) C dL_wouldScan_7 (by decide) rfl ?_
  refine k_istore (q := 10) (fr2 := [(7, .int 0), (6, .int (sM j)), (0, .ref (b 0)), (1, .int (nI j)), (2, .ref (e 0)), (3, .ref (e 1)), (4, .ref (e 4)), (5, .ref (e 5))]) C dL_wouldScan_8 (by decide) rfl rfl ?_
  refine k_iconst (q := 11) (v := 0) C dL_wouldScan_10 (by decide) rfl ?_
  refine k_istore (q := 13) (fr2 := [(8, .int 0), (7, .int 0), (6, .int (sM j)), (0, .ref (b 0)), (1, .int (nI j)), (2, .ref (e 0)), (3, .ref (e 1)), (4, .ref (e 4)), (5, .ref (e 5))]) C dL_wouldScan_11 (by decide) rfl rfl ?_
  refine k_ldc (q := 15) (v := -99999) C (List.mem_of_getElem? (i := 1) rfl) dL_wouldScan_13 rfl ?_
  refine k_istore (q := 17) (fr2 := [(9, .int (-99999)), (8, .int 0), (7, .int 0), (6, .int (sM j)), (0, .ref (b 0)), (1, .int (nI j)), (2, .ref (e 0)), (3, .ref (e 1)), (4, .ref (e 4)), (5, .ref (e 5))]) C dL_wouldScan_15 (by decide) rfl rfl ?_
  refine k_ldc (q := 19) (v := -99999) C (List.mem_of_getElem? (i := 1) rfl) dL_wouldScan_17 rfl ?_
  refine k_istore (q := 21) (fr2 := [(10, .int (-99999)), (9, .int (-99999)), (8, .int 0), (7, .int 0), (6, .int (sM j)), (0, .ref (b 0)), (1, .int (nI j)), (2, .ref (e 0)), (3, .ref (e 1)), (4, .ref (e 4)), (5, .ref (e 5))]) C dL_wouldScan_19 (by decide) rfl rfl ?_
  refine k_bipush (q := 23) (v := 30) C dL_wouldScan_21 (by decide +kernel) rfl ?_
  refine k_istore (q := 25) (fr2 := [(11, .int 30), (10, .int (-99999)), (9, .int (-99999)), (8, .int 0), (7, .int 0), (6, .int (sM j)), (0, .ref (b 0)), (1, .int (nI j)), (2, .ref (e 0)), (3, .ref (e 1)), (4, .ref (e 4)), (5, .ref (e 5))]) C dL_wouldScan_23 (by decide) rfl rfl ?_
  refine k_fr (fr2 := [(0, .ref (b 0)), (1, .int (nI j)), (2, .ref (e 0)), (3, .ref (e 1)), (4, .ref (e 4)), (5, .ref (e 5)), (6, .int (sM j)), (7, .int 0), (8, .int 0), (9, .int (-99999)), (10, .int (-99999)), (11, .int 30)]) ⟨[6, 7, 8, 9, 10, 11, 5, 4, 3, 2, 1, 0], rfl⟩ ?_
  exact lp_L_wouldScan_25 cy e nM oM sM gM knM loM lfM hM tM lM bM rM a b r nx sn ln sk S ik bf kd hg nu dg ng tk n lit h t s g kn lo lf nm j hR0 hj hb X hR C E _ 0 sM (Nat.lt_succ_self _) (Nat.zero_le _) (upd_self sM j)
