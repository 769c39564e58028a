abbrev rm_L_isLayer : Room := { frames := 7, cells := 0, slots := 0, locals := 157 }
theorem in2_L_isLayer : ∀ w ∈ wsX20, w ∈ wsL_isLayer := fun _ h => (List.mem_cons_of_mem _ (List.mem_append_left _ (List.mem_append_left _ (List.mem_append_right _ h))))
theorem in3_L_isLayer : ∀ w ∈ wsX30, w ∈ wsL_isLayer := fun _ h => (List.mem_cons_of_mem _ (List.mem_append_left _ (List.mem_append_left _ (List.mem_append_left _ (List.mem_append_right _ h)))))
set_option maxHeartbeats 4000000 in
set_option maxRecDepth 100000 in
theorem c_L_isLayer (cy : Nat → ClassId) (e : Nat → Nat) (nM : Nat) (oM : Nat → Int32) (sM : Nat → Int32) (gM : Nat → Int32) (knM : Nat) (loM : Int32) (lfM : Int32) (hM : Nat → Int32) (tM : Nat → Int32) (lM : Nat → Int32) (bM : Nat → Int32) (rM : Nat → Int32) (a : Nat → Nat) (b : Nat → Nat) (r : Nat) (nx : Nat) (sn : Nat) (ln : Nat) (sk : Nat → Nat → Nat) (S : Nat → CK) (ik : Nat → Int32) (bf : Nat → Nat) (kd : Nat) (hg : Nat) (nu : Nat) (dg : Nat) (ng : Bool) (tk : Bool) (n : Nat) (lit : Int32) (h : Nat → Int32) (t : Nat → Int32) (s : Nat → Int32) (g : Nat → Int32) (kn : Nat) (lo : Int32) (lf : Int32) (nm : Nat → Int32) (p : Nat) (j : Nat)  (hR0 : sRel ((n, lit, h, t, s, g, kn, lo, lf, nm) : CK) ((nM, oM, hM, tM, sM, gM, knM, loM, lfM, lM) : SK)) (hj : j < 2) (hp : p < nM) (hb : lB nM hM tM (gM 1) bM) : kI yL_isLayer wsL_isLayer rm_L_isLayer cy [.ref (b 0), .int (nI p), .int (nI j), .ref (e 0), .ref (e 1), .ref (e 2), .ref (e 4)] ((wLa e cy (qSt nM oM sM gM knM loM lfM) hM tM lM bM rM) ++ ((wXo b cy (a 0) r nx sn ln (svOf sk) (kpOf sk) ik bf ++ wRd r kd hg nu dg ng tk) ++ (wSky a cy n lit h t s g kn lo lf nm ++ wOth sk cy S))) (bI True) ((wLa e cy (qSt nM oM sM gM knM loM lfM) hM tM lM bM rM) ++ ((wXo b cy (a 0) r nx sn ln (svOf sk) (kpOf sk) ik bf ++ wRd r kd hg nu dg ng tk) ++ (wSky a cy n lit h t s g kn lo lf nm ++ wOth sk cy S))) := by
  refine kI_of (cc := cL_isLayer) (maxL := 11) (rt := .boolean) (by decide) rfl (kb_nar _) (Nat.le_of_ble_eq_true rfl) ?_
  intro X hR C E
  have C : kC X 11 RL cL_isLayer wsL_isLayer cy := C
  refine k_fr (fr2 := [(0, .ref (b 0)), (1, .int (nI p)), (2, .int (nI j)), (3, .ref (e 0)), (4, .ref (e 1)), (5, .ref (e 2)), (6, .ref (e 4))]) ⟨[0, 1, 2, 3, 4, 5, 6], rfl⟩ ?_
  obtain ⟨⟨hn, ho, hs0, hs1, hk, hh, ht, hg0, hg1, hg2, hg3⟩, e1, e2, eH, eT, eS, eG, eK, eLo, eLf, eN, eO⟩ := id hR0
  have hn : nM ≤ 6 := hn
  have ho : mBin oM := ho
  have hs0 : sOk (sM 0) := hs0
  have hs1 : sOk (sM 1) := hs1
  have hk : knM ≤ 8 := hk
  have hh : ∀ i, i < nM → 50 ≤ (hM i).toInt ∧ (hM i).toInt ≤ 3000 := hh
  have hg0 : 50 ≤ (gM 0).toInt ∧ (gM 0).toInt ≤ 1000 := hg0
  have hg3 : 0 ≤ (gM 3).toInt ∧ (gM 3).toInt ≤ 100 := hg3
  have e1 : n = nM := e1
  have e2 : lit = mLit oM := e2
  have eH : ∀ i, i < nM → h i = hM i := eH
  have eT : ∀ i, i < nM → t i = tM i := eT
  have eS : ∀ i, i < 2 → s i = sM i := eS
  have eG : ∀ i, i < 4 → g i = gM i := eG
  have eK : kn = knM := eK
  have hsj : sOk (sM (1 - j)) := by rcases (show j = 0 ∨ j = 1 by omega) with rfl | rfl <;> assumption
  have hhp := hh p hp
  have hhz : 0 < h p := by rw [eH p hp]; exact h_pos hhp
  have hLy : ∀ w : Nat, w ≤ 3 → sLy lit h t s g p (nI w) = (if w = 0 then hM p else if w = 1 then tM p else if w = 2 then (if sPair (mLit oM) hM tM gM p = true then sDist hM gM p (sM 0) (sM 1) else -99999) else bI (sClose (mLit oM) hM tM sM gM p = true)) := by
    intro w hw
    rw [e2, cg_Ly eH eT eS eG hp]
    rcases (show w = 0 ∨ w = 1 ∨ w = 2 ∨ w = 3 by omega) with rfl | rfl | rfl | rfl <;> rfl
  have hSp : ∀ z : Int32, (if (lit >>> (nI j &&& 31)) &&& 1 = 1 then sSpot h t s g j p z else -99999) = (if oM j = 1 then sSpot hM tM sM gM j p z else -99999) := by
    intro z
    rw [e2, cg_Spot eH eT eS eG hp hj]
    by_cases c : oM j = 1
    · rw [if_pos c, if_pos ((mLit_b ho hj).mpr c)]
    · rw [if_neg c, if_neg (fun q => c ((mLit_b ho hj).mp q))]
  have hTr : sTry g h s j p = sTry gM hM sM j p := cg_Try eH eS eG hp hj
  have hCm : sCmp g h s j p = sTry gM hM sM j p := by rw [cg_Cmp eH eS eG hp hj]; exact sCmp_try hj hhp hg0 hsj
  have J_0 : kG X 11 0 0 ((wLa e cy (qSt nM oM sM gM knM loM lfM) hM tM lM bM rM) ++ ((wXo b cy (a 0) r nx sn ln (svOf sk) (kpOf sk) ik bf ++ wRd r kd hg nu dg ng tk) ++ (wSky a cy n lit h t s g kn lo lf nm ++ wOth sk cy S))) 27 [(0, .ref (b 0)), (1, .int (nI p)), (2, .int (nI j)), (3, .ref (e 0)), (4, .ref (e 1)), (5, .ref (e 2)), (6, .ref (e 4))] [.int (bI (sPair (mLit oM) hM tM gM p = true))] := by
    refine k_istore (q := 29) (fr2 := [(7, .int (bI (sPair (mLit oM) hM tM gM p = true))), (0, .ref (b 0)), (1, .int (nI p)), (2, .int (nI j)), (3, .ref (e 0)), (4, .ref (e 1)), (5, .ref (e 2)), (6, .ref (e 4))]) C dL_isLayer_27 (by decide) rfl rfl ?_
    refine k_aload_n (q := 30) C 1 dL_isLayer_29 rfl rfl ?_
    refine k_iload_n (q := 31) C 2 dL_isLayer_30 rfl rfl ?_
    refine k_iconst (q := 32) (v := 0) C dL_isLayer_31 (by decide) rfl ?_
    refine k_callSIw (n := 3) (q := 35) (pre := (wLa e cy (qSt nM oM sM gM knM loM lfM) hM tM lM bM rM)) (post := ([] : va_W)) (w2 := ((wLa e cy (qSt nM oM sM gM knM loM lfM) hM tM lM bM rM) ++ ((wXo b cy (a 0) r nx sn ln (svOf sk) (kpOf sk) ik bf ++ wRd r kd hg nu dg ng tk) ++ (wSky a cy n lit h t s g kn lo lf nm ++ wOth sk cy S)))) (As := [.ref (b 0), .int (nI p), .int 0]) (rest := []) C (c_L_layerOf cy a b r nx sn ln sk S ik bf kd hg nu dg ng tk n lit h t s g kn lo lf nm p 0 (by omega) (by omega) (by decide)) gL_isLayer_L_layerOf rfl rfl rfl (by decide +kernel) (k_room hR (by decide)) ⟨Nat.zero_le _, Nat.zero_le _⟩ rfl rfl (Nat.le_of_ble_eq_true rfl) (k_pre) (k_pre.symm) dL_isLayer_32 rfl ?_
    refine k_sti (show sLy lit h t s g p (nI 0) = hM p from hLy 0 (by decide)) ?_
    refine k_aload (q := 37) C 5 dL_isLayer_35 rfl rfl ?_
    refine k_iload_n (q := 38) C 2 dL_isLayer_37 rfl rfl ?_
    refine k_iald (q := 39) C 1 rfl (vp_in_nI (n := p) (by omega) (by decide)) dL_isLayer_38 rfl ?_
    refine k_sti (show hM (nI p).toNatClampNeg = hM p from congrArg hM (nI_clamp (n := p) (by omega))) ?_
    refine k_icmp_ne (tgt := 111) (q := 42) C dL_isLayer_39 (by decide) rfl ?_ ?_
    · exact fun c_39 => absurd rfl c_39
    · intro c_39
      refine k_aload_n (q := 43) C 1 dL_isLayer_42 rfl rfl ?_
      refine k_iload_n (q := 44) C 2 dL_isLayer_43 rfl rfl ?_
      refine k_iconst (q := 45) (v := 1) C dL_isLayer_44 (by decide) rfl ?_
      refine k_callSIw (n := 3) (q := 48) (pre := (wLa e cy (qSt nM oM sM gM knM loM lfM) hM tM lM bM rM)) (post := ([] : va_W)) (w2 := ((wLa e cy (qSt nM oM sM gM knM loM lfM) hM tM lM bM rM) ++ ((wXo b cy (a 0) r nx sn ln (svOf sk) (kpOf sk) ik bf ++ wRd r kd hg nu dg ng tk) ++ (wSky a cy n lit h t s g kn lo lf nm ++ wOth sk cy S)))) (As := [.ref (b 0), .int (nI p), .int 1]) (rest := []) C (c_L_layerOf cy a b r nx sn ln sk S ik bf kd hg nu dg ng tk n lit h t s g kn lo lf nm p 1 (by omega) (by omega) (by decide)) gL_isLayer_L_layerOf rfl rfl rfl (by decide +kernel) (k_room hR (by decide)) ⟨Nat.zero_le _, Nat.zero_le _⟩ rfl rfl (Nat.le_of_ble_eq_true rfl) (k_pre) (k_pre.symm) dL_isLayer_45 rfl ?_
      refine k_sti (show sLy lit h t s g p (nI 1) = tM p from hLy 1 (by decide)) ?_
      refine k_aload (q := 50) C 6 dL_isLayer_48 rfl rfl ?_
      refine k_iload_n (q := 51) C 2 dL_isLayer_50 rfl rfl ?_
      refine k_iald (q := 52) C 2 rfl (vp_in_nI (n := p) (by omega) (by decide)) dL_isLayer_51 rfl ?_
      refine k_sti (show tM (nI p).toNatClampNeg = tM p from congrArg tM (nI_clamp (n := p) (by omega))) ?_
      refine k_icmp_ne (tgt := 111) (q := 55) C dL_isLayer_52 (by decide) rfl ?_ ?_
      · exact fun c_52 => absurd rfl c_52
      · intro c_52
        refine k_aload_n (q := 56) C 1 dL_isLayer_55 rfl rfl ?_
        refine k_iload_n (q := 57) C 2 dL_isLayer_56 rfl rfl ?_
        refine k_iconst (q := 58) (v := 2) C dL_isLayer_57 (by decide) rfl ?_
        refine k_callSIw (n := 3) (q := 61) (pre := (wLa e cy (qSt nM oM sM gM knM loM lfM) hM tM lM bM rM)) (post := ([] : va_W)) (w2 := ((wLa e cy (qSt nM oM sM gM knM loM lfM) hM tM lM bM rM) ++ ((wXo b cy (a 0) r nx sn ln (svOf sk) (kpOf sk) ik bf ++ wRd r kd hg nu dg ng tk) ++ (wSky a cy n lit h t s g kn lo lf nm ++ wOth sk cy S)))) (As := [.ref (b 0), .int (nI p), .int 2]) (rest := []) C (c_L_layerOf cy a b r nx sn ln sk S ik bf kd hg nu dg ng tk n lit h t s g kn lo lf nm p 2 (by omega) (by omega) (by decide)) gL_isLayer_L_layerOf rfl rfl rfl (by decide +kernel) (k_room hR (by decide)) ⟨Nat.zero_le _, Nat.zero_le _⟩ rfl rfl (Nat.le_of_ble_eq_true rfl) (k_pre) (k_pre.symm) dL_isLayer_58 rfl ?_
        refine k_sti (show sLy lit h t s g p (nI 2) = (if sPair (mLit oM) hM tM gM p = true then sDist hM gM p (sM 0) (sM 1) else -99999) from hLy 2 (by decide)) ?_
        have J_61 : kG X 11 0 0 ((wLa e cy (qSt nM oM sM gM knM loM lfM) hM tM lM bM rM) ++ ((wXo b cy (a 0) r nx sn ln (svOf sk) (kpOf sk) ik bf ++ wRd r kd hg nu dg ng tk) ++ (wSky a cy n lit h t s g kn lo lf nm ++ wOth sk cy S))) 78 [(7, .int (bI (sPair (mLit oM) hM tM gM p = true))), (0, .ref (b 0)), (1, .int (nI p)), (2, .int (nI j)), (3, .ref (e 0)), (4, .ref (e 1)), (5, .ref (e 2)), (6, .ref (e 4))] [.int (if sPair (mLit oM) hM tM gM p = true then sDist hM gM p (sM 0) (sM 1) else -99999), .int (if sPair (mLit oM) hM tM gM p = true then sDist hM gM p (sM 0) (sM 1) else -99999)] := by
          refine k_icmp_ne (tgt := 111) (q := 81) C dL_isLayer_78 (by decide) rfl ?_ ?_
          · exact fun c_78 => absurd rfl c_78
          · intro c_78
            refine k_aload_n (q := 82) C 1 dL_isLayer_81 rfl rfl ?_
            refine k_iload_n (q := 83) C 2 dL_isLayer_82 rfl rfl ?_
            refine k_iconst (q := 84) (v := 3) C dL_isLayer_83 (by decide) rfl ?_
            refine k_callSIw (n := 3) (q := 87) (pre := (wLa e cy (qSt nM oM sM gM knM loM lfM) hM tM lM bM rM)) (post := ([] : va_W)) (w2 := ((wLa e cy (qSt nM oM sM gM knM loM lfM) hM tM lM bM rM) ++ ((wXo b cy (a 0) r nx sn ln (svOf sk) (kpOf sk) ik bf ++ wRd r kd hg nu dg ng tk) ++ (wSky a cy n lit h t s g kn lo lf nm ++ wOth sk cy S)))) (As := [.ref (b 0), .int (nI p), .int 3]) (rest := []) C (c_L_layerOf cy a b r nx sn ln sk S ik bf kd hg nu dg ng tk n lit h t s g kn lo lf nm p 3 (by omega) (by omega) (by decide)) gL_isLayer_L_layerOf rfl rfl rfl (by decide +kernel) (k_room hR (by decide)) ⟨Nat.zero_le _, Nat.zero_le _⟩ rfl rfl (Nat.le_of_ble_eq_true rfl) (k_pre) (k_pre.symm) dL_isLayer_84 rfl ?_
            refine k_sti (show sLy lit h t s g p (nI 3) = bI (sClose (mLit oM) hM tM sM gM p = true) from hLy 3 (by decide)) ?_
            refine k_iload_n (q := 88) C 2 dL_isLayer_87 rfl rfl ?_
            refine k_aload_n (q := 89) C 4 dL_isLayer_88 rfl rfl ?_
            refine k_aload (q := 91) C 5 dL_isLayer_89 rfl rfl ?_
            refine k_aload (q := 93) C 7 dL_isLayer_91 rfl rfl ?_
            refine k_callSI (n := 4) (q := 96) (pre := ([] : va_W)) (post := ((wXo b cy (a 0) r nx sn ln (svOf sk) (kpOf sk) ik bf ++ wRd r kd hg nu dg ng tk) ++ (wSky a cy n lit h t s g kn lo lf nm ++ wOth sk cy S))) (w2 := ((wLa e cy (qSt nM oM sM gM knM loM lfM) hM tM lM bM rM) ++ ((wXo b cy (a 0) r nx sn ln (svOf sk) (kpOf sk) ik bf ++ wRd r kd hg nu dg ng tk) ++ (wSky a cy n lit h t s g kn lo lf nm ++ wOth sk cy S)))) (As := [.int (nI p), .ref (e 0), .ref (e 1), .ref (e 4)]) (rest := [.int (bI (sClose (mLit oM) hM tM sM gM p = true))]) C (c_L_close cy e nM oM sM gM knM loM lfM hM tM lM bM rM p hn hp hb ho) gL_isLayer_L_close rfl rfl rfl (by decide +kernel) (k_room hR (by decide)) ⟨Nat.zero_le _, Nat.zero_le _⟩  rfl rfl (Nat.le_of_ble_eq_true rfl) (rfl) (rfl) dL_isLayer_93 rfl ?_
            have J_96 : kG X 11 0 0 ((wLa e cy (qSt nM oM sM gM knM loM lfM) hM tM lM bM rM) ++ ((wXo b cy (a 0) r nx sn ln (svOf sk) (kpOf sk) ik bf ++ wRd r kd hg nu dg ng tk) ++ (wSky a cy n lit h t s g kn lo lf nm ++ wOth sk cy S))) 104 [(7, .int (bI (sPair (mLit oM) hM tM gM p = true))), (0, .ref (b 0)), (1, .int (nI p)), (2, .int (nI j)), (3, .ref (e 0)), (4, .ref (e 1)), (5, .ref (e 2)), (6, .ref (e 4))] [.int (bI (sClose (mLit oM) hM tM sM gM p = true)), .int (bI (sClose (mLit oM) hM tM sM gM p = true))] := by
              refine k_icmp_ne (tgt := 111) (q := 107) C dL_isLayer_104 (by decide) rfl ?_ ?_
              · exact fun c_104 => absurd rfl c_104
              · intro c_104
                refine k_iconst (q := 108) (v := 1) C dL_isLayer_107 (by decide) rfl ?_
                refine k_goto (q := 112) C dL_isLayer_108 (by decide) ?_
                refine k_istore (q := 114) (fr2 := [(8, .int 1), (7, .int (bI (sPair (mLit oM) hM tM gM p = true))), (0, .ref (b 0)), (1, .int (nI p)), (2, .int (nI j)), (3, .ref (e 0)), (4, .ref (e 1)), (5, .ref (e 2)), (6, .ref (e 4))]) C dL_isLayer_112 (by decide) rfl rfl ?_
                have J_114 : kG X 11 0 0 ((wLa e cy (qSt nM oM sM gM knM loM lfM) hM tM lM bM rM) ++ ((wXo b cy (a 0) r nx sn ln (svOf sk) (kpOf sk) ik bf ++ wRd r kd hg nu dg ng tk) ++ (wSky a cy n lit h t s g kn lo lf nm ++ wOth sk cy S))) 129 [(8, .int 1), (7, .int (bI (sPair (mLit oM) hM tM gM p = true))), (0, .ref (b 0)), (1, .int (nI p)), (2, .int (nI j)), (3, .ref (e 0)), (4, .ref (e 1)), (5, .ref (e 2)), (6, .ref (e 4))] [.int (bI (oM j = 1))] := by
                  refine k_istore (q := 131) (fr2 := [(9, .int (bI (oM j = 1))), (8, .int 1), (7, .int (bI (sPair (mLit oM) hM tM gM p = true))), (0, .ref (b 0)), (1, .int (nI p)), (2, .int (nI j)), (3, .ref (e 0)), (4, .ref (e 1)), (5, .ref (e 2)), (6, .ref (e 4))]) C dL_isLayer_129 (by decide) rfl rfl ?_
                  refine k_iload (q := 133) C 1 dL_isLayer_131 rfl rfl ?_
                  refine k_if_eq (tgt := 293) (q := 136) C dL_isLayer_133 (by decide) rfl ?_ ?_
                  · exact fun c_133 => absurd c_133 (by decide)
                  · intro c_133
                    refine k_aload_n (q := 137) C 3 dL_isLayer_136 rfl rfl ?_
                    refine k_iload_n (q := 138) C 5 dL_isLayer_137 rfl rfl ?_
                    refine k_iload_n (q := 139) C 4 dL_isLayer_138 rfl rfl ?_
                    refine k_iconst (q := 140) (v := 0) C dL_isLayer_139 (by decide) rfl ?_
                    refine k_callSIw (n := 4) (q := 143) (pre := (wLa e cy (qSt nM oM sM gM knM loM lfM) hM tM lM bM rM)) (post := ([] : va_W)) (w2 := ((wLa e cy (qSt nM oM sM gM knM loM lfM) hM tM lM bM rM) ++ ((wXo b cy (a 0) r nx sn ln (svOf sk) (kpOf sk) ik bf ++ wRd r kd hg nu dg ng tk) ++ (wSky a cy n lit h t s g kn lo lf nm ++ wOth sk cy S)))) (As := [.ref (b 0), .int (nI j), .int (nI p), .int 0]) (rest := []) C (c_L_spot cy a b r nx sn ln sk S ik bf kd hg nu dg ng tk n lit h t s g kn lo lf nm j p 0 (by omega) hj (by omega) (by decide)) gL_isLayer_L_spot rfl rfl rfl (by decide +kernel) (k_room hR (by decide)) ⟨Nat.zero_le _, Nat.zero_le _⟩ rfl rfl (Nat.le_of_ble_eq_true rfl) (k_pre) (k_pre.symm) dL_isLayer_140 rfl ?_
                    refine k_sti (show (if (lit >>> (nI j &&& 31)) &&& 1 = 1 then sSpot h t s g j p 0 else -99999) = (if oM j = 1 then sSpot hM tM sM gM j p 0 else -99999) from hSp 0) ?_
                    have J_143 : kG X 11 0 0 ((wLa e cy (qSt nM oM sM gM knM loM lfM) hM tM lM bM rM) ++ ((wXo b cy (a 0) r nx sn ln (svOf sk) (kpOf sk) ik bf ++ wRd r kd hg nu dg ng tk) ++ (wSky a cy n lit h t s g kn lo lf nm ++ wOth sk cy S))) 161 [(9, .int (bI (oM j = 1))), (8, .int 1), (7, .int (bI (sPair (mLit oM) hM tM gM p = true))), (0, .ref (b 0)), (1, .int (nI p)), (2, .int (nI j)), (3, .ref (e 0)), (4, .ref (e 1)), (5, .ref (e 2)), (6, .ref (e 4))] [.int (if oM j = 1 then sSpot hM tM sM gM j p 0 else -99999), .int (if oM j = 1 then sSpot hM tM sM gM j p 0 else -99999)] := by
                      refine k_icmp_ne (tgt := 293) (q := 164) C dL_isLayer_161 (by decide) rfl ?_ ?_
                      · exact fun c_161 => absurd rfl c_161
                      · intro c_161
                        refine k_aload_n (q := 165) C 3 dL_isLayer_164 rfl rfl ?_
                        refine k_iload_n (q := 166) C 5 dL_isLayer_165 rfl rfl ?_
                        refine k_iload_n (q := 167) C 4 dL_isLayer_166 rfl rfl ?_
                        refine k_iconst (q := 168) (v := 1) C dL_isLayer_167 (by decide) rfl ?_
                        refine k_callSIw (n := 4) (q := 171) (pre := (wLa e cy (qSt nM oM sM gM knM loM lfM) hM tM lM bM rM)) (post := ([] : va_W)) (w2 := ((wLa e cy (qSt nM oM sM gM knM loM lfM) hM tM lM bM rM) ++ ((wXo b cy (a 0) r nx sn ln (svOf sk) (kpOf sk) ik bf ++ wRd r kd hg nu dg ng tk) ++ (wSky a cy n lit h t s g kn lo lf nm ++ wOth sk cy S)))) (As := [.ref (b 0), .int (nI j), .int (nI p), .int 1]) (rest := []) C (c_L_spot cy a b r nx sn ln sk S ik bf kd hg nu dg ng tk n lit h t s g kn lo lf nm j p 1 (by omega) hj (by omega) (by decide)) gL_isLayer_L_spot rfl rfl rfl (by decide +kernel) (k_room hR (by decide)) ⟨Nat.zero_le _, Nat.zero_le _⟩ rfl rfl (Nat.le_of_ble_eq_true rfl) (k_pre) (k_pre.symm) dL_isLayer_168 rfl ?_
                        refine k_sti (show (if (lit >>> (nI j &&& 31)) &&& 1 = 1 then sSpot h t s g j p 1 else -99999) = (if oM j = 1 then sSpot hM tM sM gM j p 1 else -99999) from hSp 1) ?_
                        have J_171 : kG X 11 0 0 ((wLa e cy (qSt nM oM sM gM knM loM lfM) hM tM lM bM rM) ++ ((wXo b cy (a 0) r nx sn ln (svOf sk) (kpOf sk) ik bf ++ wRd r kd hg nu dg ng tk) ++ (wSky a cy n lit h t s g kn lo lf nm ++ wOth sk cy S))) 196 [(9, .int (bI (oM j = 1))), (8, .int 1), (7, .int (bI (sPair (mLit oM) hM tM gM p = true))), (0, .ref (b 0)), (1, .int (nI p)), (2, .int (nI j)), (3, .ref (e 0)), (4, .ref (e 1)), (5, .ref (e 2)), (6, .ref (e 4))] [.int (if oM j = 1 then sSpot hM tM sM gM j p 1 else -99999), .int (if oM j = 1 then sSpot hM tM sM gM j p 1 else -99999)] := by
                          refine k_icmp_ne (tgt := 293) (q := 199) C dL_isLayer_196 (by decide) rfl ?_ ?_
                          · exact fun c_196 => absurd rfl c_196
                          · intro c_196
                            refine k_aload_n (q := 200) C 3 dL_isLayer_199 rfl rfl ?_
                            refine k_iload_n (q := 201) C 5 dL_isLayer_200 rfl rfl ?_
                            refine k_iload_n (q := 202) C 4 dL_isLayer_201 rfl rfl ?_
                            refine k_iconst (q := 203) (v := 2) C dL_isLayer_202 (by decide) rfl ?_
                            refine k_callSIw (n := 4) (q := 206) (pre := (wLa e cy (qSt nM oM sM gM knM loM lfM) hM tM lM bM rM)) (post := ([] : va_W)) (w2 := ((wLa e cy (qSt nM oM sM gM knM loM lfM) hM tM lM bM rM) ++ ((wXo b cy (a 0) r nx sn ln (svOf sk) (kpOf sk) ik bf ++ wRd r kd hg nu dg ng tk) ++ (wSky a cy n lit h t s g kn lo lf nm ++ wOth sk cy S)))) (As := [.ref (b 0), .int (nI j), .int (nI p), .int 2]) (rest := []) C (c_L_spot cy a b r nx sn ln sk S ik bf kd hg nu dg ng tk n lit h t s g kn lo lf nm j p 2 (by omega) hj (by omega) (by decide)) gL_isLayer_L_spot rfl rfl rfl (by decide +kernel) (k_room hR (by decide)) ⟨Nat.zero_le _, Nat.zero_le _⟩ rfl rfl (Nat.le_of_ble_eq_true rfl) (k_pre) (k_pre.symm) dL_isLayer_203 rfl ?_
                            refine k_sti (show (if (lit >>> (nI j &&& 31)) &&& 1 = 1 then sSpot h t s g j p 2 else -99999) = (if oM j = 1 then sSpot hM tM sM gM j p 2 else -99999) from hSp 2) ?_
                            have J_206 : kG X 11 0 0 ((wLa e cy (qSt nM oM sM gM knM loM lfM) hM tM lM bM rM) ++ ((wXo b cy (a 0) r nx sn ln (svOf sk) (kpOf sk) ik bf ++ wRd r kd hg nu dg ng tk) ++ (wSky a cy n lit h t s g kn lo lf nm ++ wOth sk cy S))) 232 [(9, .int (bI (oM j = 1))), (8, .int 1), (7, .int (bI (sPair (mLit oM) hM tM gM p = true))), (0, .ref (b 0)), (1, .int (nI p)), (2, .int (nI j)), (3, .ref (e 0)), (4, .ref (e 1)), (5, .ref (e 2)), (6, .ref (e 4))] [.int (if oM j = 1 then sSpot hM tM sM gM j p 2 else -99999), .int (if oM j = 1 then sSpot hM tM sM gM j p 2 else -99999)] := by
                              refine k_icmp_ne (tgt := 293) (q := 235) C dL_isLayer_232 (by decide) rfl ?_ ?_
                              · exact fun c_232 => absurd rfl c_232
                              · intro c_232
                                refine k_aload_n (q := 236) C 3 dL_isLayer_235 rfl rfl ?_
                                refine k_iload_n (q := 237) C 5 dL_isLayer_236 rfl rfl ?_
                                refine k_iload_n (q := 238) C 4 dL_isLayer_237 rfl rfl ?_
                                refine k_iconst (q := 239) (v := 3) C dL_isLayer_238 (by decide) rfl ?_
                                refine k_callSIw (n := 4) (q := 242) (pre := (wLa e cy (qSt nM oM sM gM knM loM lfM) hM tM lM bM rM)) (post := ([] : va_W)) (w2 := ((wLa e cy (qSt nM oM sM gM knM loM lfM) hM tM lM bM rM) ++ ((wXo b cy (a 0) r nx sn ln (svOf sk) (kpOf sk) ik bf ++ wRd r kd hg nu dg ng tk) ++ (wSky a cy n lit h t s g kn lo lf nm ++ wOth sk cy S)))) (As := [.ref (b 0), .int (nI j), .int (nI p), .int 3]) (rest := []) C (c_L_spot cy a b r nx sn ln sk S ik bf kd hg nu dg ng tk n lit h t s g kn lo lf nm j p 3 (by omega) hj (by omega) (by decide)) gL_isLayer_L_spot rfl rfl rfl (by decide +kernel) (k_room hR (by decide)) ⟨Nat.zero_le _, Nat.zero_le _⟩ rfl rfl (Nat.le_of_ble_eq_true rfl) (k_pre) (k_pre.symm) dL_isLayer_239 rfl ?_
                                refine k_sti (show (if (lit >>> (nI j &&& 31)) &&& 1 = 1 then sSpot h t s g j p 3 else -99999) = (if oM j = 1 then sSpot hM tM sM gM j p 3 else -99999) from hSp 3) ?_
                                have J_242 : kG X 11 0 0 ((wLa e cy (qSt nM oM sM gM knM loM lfM) hM tM lM bM rM) ++ ((wXo b cy (a 0) r nx sn ln (svOf sk) (kpOf sk) ik bf ++ wRd r kd hg nu dg ng tk) ++ (wSky a cy n lit h t s g kn lo lf nm ++ wOth sk cy S))) 258 [(9, .int (bI (oM j = 1))), (8, .int 1), (7, .int (bI (sPair (mLit oM) hM tM gM p = true))), (0, .ref (b 0)), (1, .int (nI p)), (2, .int (nI j)), (3, .ref (e 0)), (4, .ref (e 1)), (5, .ref (e 2)), (6, .ref (e 4))] [.int (if oM j = 1 then sSpot hM tM sM gM j p 3 else -99999), .int (if oM j = 1 then sSpot hM tM sM gM j p 3 else -99999)] := by
                                  refine k_icmp_ne (tgt := 293) (q := 261) C dL_isLayer_258 (by decide) rfl ?_ ?_
                                  · exact fun c_258 => absurd rfl c_258
                                  · intro c_258
                                    refine k_aload_n (q := 262) C 3 dL_isLayer_261 rfl rfl ?_
                                    refine k_iload_n (q := 263) C 5 dL_isLayer_262 rfl rfl ?_
                                    refine k_iload_n (q := 264) C 4 dL_isLayer_263 rfl rfl ?_
                                    refine k_iconst (q := 265) (v := 4) C dL_isLayer_264 (by decide) rfl ?_
                                    refine k_callSIw (n := 4) (q := 268) (pre := (wLa e cy (qSt nM oM sM gM knM loM lfM) hM tM lM bM rM)) (post := ([] : va_W)) (w2 := ((wLa e cy (qSt nM oM sM gM knM loM lfM) hM tM lM bM rM) ++ ((wXo b cy (a 0) r nx sn ln (svOf sk) (kpOf sk) ik bf ++ wRd r kd hg nu dg ng tk) ++ (wSky a cy n lit h t s g kn lo lf nm ++ wOth sk cy S)))) (As := [.ref (b 0), .int (nI j), .int (nI p), .int 4]) (rest := []) C (c_L_spot cy a b r nx sn ln sk S ik bf kd hg nu dg ng tk n lit h t s g kn lo lf nm j p 4 (by omega) hj (by omega) (by decide)) gL_isLayer_L_spot rfl rfl rfl (by decide +kernel) (k_room hR (by decide)) ⟨Nat.zero_le _, Nat.zero_le _⟩ rfl rfl (Nat.le_of_ble_eq_true rfl) (k_pre) (k_pre.symm) dL_isLayer_265 rfl ?_
                                    refine k_sti (show (if (lit >>> (nI j &&& 31)) &&& 1 = 1 then sSpot h t s g j p 4 else -99999) = (if oM j = 1 then sSpot hM tM sM gM j p 4 else -99999) from hSp 4) ?_
                                    have J_268 : kG X 11 0 0 ((wLa e cy (qSt nM oM sM gM knM loM lfM) hM tM lM bM rM) ++ ((wXo b cy (a 0) r nx sn ln (svOf sk) (kpOf sk) ik bf ++ wRd r kd hg nu dg ng tk) ++ (wSky a cy n lit h t s g kn lo lf nm ++ wOth sk cy S))) 286 [(9, .int (bI (oM j = 1))), (8, .int 1), (7, .int (bI (sPair (mLit oM) hM tM gM p = true))), (0, .ref (b 0)), (1, .int (nI p)), (2, .int (nI j)), (3, .ref (e 0)), (4, .ref (e 1)), (5, .ref (e 2)), (6, .ref (e 4))] [.int (if oM j = 1 then sSpot hM tM sM gM j p 4 else -99999), .int (if oM j = 1 then sSpot hM tM sM gM j p 4 else -99999)] := by
                                      refine k_icmp_ne (tgt := 293) (q := 289) C dL_isLayer_286 (by decide) rfl ?_ ?_
                                      · exact fun c_286 => absurd rfl c_286
                                      · intro c_286
                                        refine k_iconst (q := 290) (v := 1) C dL_isLayer_289 (by decide) rfl ?_
                                        refine k_goto (q := 294) C dL_isLayer_290 (by decide) ?_
                                        refine k_istore (q := 296) (fr2 := [(8, .int 1), (9, .int (bI (oM j = 1))), (7, .int (bI (sPair (mLit oM) hM tM gM p = true))), (0, .ref (b 0)), (1, .int (nI p)), (2, .int (nI j)), (3, .ref (e 0)), (4, .ref (e 1)), (5, .ref (e 2)), (6, .ref (e 4))]) C dL_isLayer_294 (by decide) rfl rfl ?_
                                        refine k_iload_n (q := 297) C 5 dL_isLayer_296 rfl rfl ?_
                                        refine k_iload_n (q := 298) C 4 dL_isLayer_297 rfl rfl ?_
                                        refine k_aload_n (q := 299) C 6 dL_isLayer_298 rfl rfl ?_
                                        refine k_aload (q := 301) C 7 dL_isLayer_299 rfl rfl ?_
                                        refine k_callSI (n := 4) (q := 304) (pre := ([] : va_W)) (post := ((wXo b cy (a 0) r nx sn ln (svOf sk) (kpOf sk) ik bf ++ wRd r kd hg nu dg ng tk) ++ (wSky a cy n lit h t s g kn lo lf nm ++ wOth sk cy S))) (w2 := ((wLa e cy (qSt nM oM sM gM knM loM lfM) hM tM lM bM rM) ++ ((wXo b cy (a 0) r nx sn ln (svOf sk) (kpOf sk) ik bf ++ wRd r kd hg nu dg ng tk) ++ (wSky a cy n lit h t s g kn lo lf nm ++ wOth sk cy S)))) (As := [.int (nI j), .int (nI p), .ref (e 0), .ref (e 1)]) (rest := []) C (c_L_best cy e nM oM sM gM knM loM lfM hM tM lM bM rM j p hj (by omega) hhp hg0 hsj) gL_isLayer_L_best rfl rfl rfl (by decide +kernel) (k_room hR (by decide)) ⟨Nat.zero_le _, Nat.zero_le _⟩  rfl rfl (Nat.le_of_ble_eq_true rfl) (rfl) (rfl) dL_isLayer_301 rfl ?_
                                        refine k_bipush (q := 306) (v := 100) C dL_isLayer_304 (by decide +kernel) rfl ?_
                                        refine k_iadd (q := 307) C dL_isLayer_306 rfl ?_
                                        refine k_istore (q := 309) (fr2 := [(10, .int ((iI (sTry gM hM sM j p)) + 100)), (8, .int 1), (9, .int (bI (oM j = 1))), (7, .int (bI (sPair (mLit oM) hM tM gM p = true))), (0, .ref (b 0)), (1, .int (nI p)), (2, .int (nI j)), (3, .ref (e 0)), (4, .ref (e 1)), (5, .ref (e 2)), (6, .ref (e 4))]) C dL_isLayer_307 (by decide) rfl rfl ?_
                                        refine k_iload (q := 311) C 1 dL_isLayer_309 rfl rfl ?_
                                        refine k_if_eq (tgt := 342) (q := 314) C dL_isLayer_311 (by decide) rfl ?_ ?_
                                        · exact fun c_311 => absurd c_311 (by decide)
                                        · intro c_311
                                          refine k_aload_n (q := 315) C 4 dL_isLayer_314 rfl rfl ?_
                                          refine k_iload_n (q := 316) C 6 dL_isLayer_315 rfl rfl ?_
                                          refine k_iload_n (q := 317) C 5 dL_isLayer_316 rfl rfl ?_
                                          refine k_iconst (q := 318) (v := 0) C dL_isLayer_317 (by decide) rfl ?_
                                          refine k_callSIw (n := 4) (q := 321) (pre := (wLa e cy (qSt nM oM sM gM knM loM lfM) hM tM lM bM rM)) (post := ([] : va_W)) (w2 := ((wLa e cy (qSt nM oM sM gM knM loM lfM) hM tM lM bM rM) ++ ((wXo b cy (a 0) r nx sn ln (svOf sk) (kpOf sk) ik bf ++ wRd r kd hg nu dg ng tk) ++ (wSky a cy n lit h t s g kn lo lf nm ++ wOth sk cy S)))) (As := [.ref (b 0), .int (nI j), .int (nI p), .int 0]) (rest := []) C (c_L_nearest cy a b r nx sn ln sk S ik bf kd hg nu dg ng tk n lit h t s g kn lo lf nm j p 0 (by omega) hj (by omega) (Or.inl rfl) hhz) gL_isLayer_L_nearest rfl rfl rfl (by decide +kernel) (k_room hR (by decide)) ⟨Nat.zero_le _, Nat.zero_le _⟩ rfl rfl (Nat.le_of_ble_eq_true rfl) (k_pre) (k_pre.symm) dL_isLayer_318 rfl ?_
                                          refine k_sti (show (if 0 = 0 then iI (sTry g h s j p) else iI (sCmp g h s j p)) + 100 = iI (sTry gM hM sM j p) + 100 from by rw [if_pos rfl, hTr]) ?_
                                          refine k_iload (q := 323) C 0 dL_isLayer_321 rfl rfl ?_
                                          refine k_icmp_ne (tgt := 342) (q := 326) C dL_isLayer_323 (by decide) rfl ?_ ?_
                                          · exact fun c_323 => absurd rfl c_323
                                          · intro c_323
                                            refine k_aload_n (q := 327) C 4 dL_isLayer_326 rfl rfl ?_
                                            refine k_iload_n (q := 328) C 6 dL_isLayer_327 rfl rfl ?_
                                            refine k_iload_n (q := 329) C 5 dL_isLayer_328 rfl rfl ?_
                                            refine k_iconst (q := 330) (v := 1) C dL_isLayer_329 (by decide) rfl ?_
                                            refine k_callSIw (n := 4) (q := 333) (pre := (wLa e cy (qSt nM oM sM gM knM loM lfM) hM tM lM bM rM)) (post := ([] : va_W)) (w2 := ((wLa e cy (qSt nM oM sM gM knM loM lfM) hM tM lM bM rM) ++ ((wXo b cy (a 0) r nx sn ln (svOf sk) (kpOf sk) ik bf ++ wRd r kd hg nu dg ng tk) ++ (wSky a cy n lit h t s g kn lo lf nm ++ wOth sk cy S)))) (As := [.ref (b 0), .int (nI j), .int (nI p), .int 1]) (rest := []) C (c_L_nearest cy a b r nx sn ln sk S ik bf kd hg nu dg ng tk n lit h t s g kn lo lf nm j p 1 (by omega) hj (by omega) (Or.inr rfl) hhz) gL_isLayer_L_nearest rfl rfl rfl (by decide +kernel) (k_room hR (by decide)) ⟨Nat.zero_le _, Nat.zero_le _⟩ rfl rfl (Nat.le_of_ble_eq_true rfl) (k_pre) (k_pre.symm) dL_isLayer_330 rfl ?_
                                            refine k_sti (show (if 1 = 0 then iI (sTry g h s j p) else iI (sCmp g h s j p)) + 100 = iI (sTry gM hM sM j p) + 100 from by rw [if_neg (by decide), hCm]) ?_
                                            refine k_iload (q := 335) C 0 dL_isLayer_333 rfl rfl ?_
                                            refine k_icmp_ne (tgt := 342) (q := 338) C dL_isLayer_335 (by decide) rfl ?_ ?_
                                            · exact fun c_335 => absurd rfl c_335
                                            · intro c_335
                                              refine k_iconst (q := 339) (v := 1) C dL_isLayer_338 (by decide) rfl ?_
                                              refine k_goto (q := 343) C dL_isLayer_339 (by decide) ?_
                                              exact k_fin E dL_isLayer_343 (bI_t trivial) (rfl)
                                    refine k_iload (q := 270) C 0 dL_isLayer_268 rfl rfl ?_
                                    refine k_ifB_eq (tgt := 284) (q := 273) C dL_isLayer_270 (by decide) rfl ?_ ?_
                                    · intro c_270
                                      refine k_ldc (q := 286) (v := -99999) C (List.mem_of_getElem? (i := 1) rfl) dL_isLayer_284 rfl ?_
                                      exact k_sti (show -99999 = (if oM j = 1 then sSpot hM tM sM gM j p 4 else -99999) from by rw [if_neg c_270]) J_268
                                    · intro c_270
                                      refine k_aload (q := 275) C 9 dL_isLayer_273 rfl rfl ?_
                                      refine k_iconst (q := 276) (v := 2) C dL_isLayer_275 (by decide) rfl ?_
                                      refine k_iload_n (q := 277) C 4 dL_isLayer_276 rfl rfl ?_
                                      refine k_imul (q := 278) C dL_isLayer_277 rfl ?_
                                      refine k_sti (show 2 * (nI p) = nI (2 * p) from pk_mul 2 p) ?_
                                      refine k_iconst (q := 279) (v := 1) C dL_isLayer_278 (by decide) rfl ?_
                                      refine k_iadd (q := 280) C dL_isLayer_279 rfl ?_
                                      refine k_sti (show (nI (2 * p)) + 1 = nI (2 * p + 1) from nI_add (2 * p) 1) ?_
                                      refine k_iald (q := 281) C 4 rfl (vp_in_nI (n := 2 * p + 1) (by omega) (by decide)) dL_isLayer_280 rfl ?_
                                      refine k_sti (show bM (nI (2 * p + 1)).toNatClampNeg = bM (2 * p + 1) from congrArg bM (nI_clamp (n := 2 * p + 1) (by omega))) ?_
                                      refine k_sti (show bM (2 * p + 1) = sCo hM tM (gM 1) p - sBr hM tM (gM 1) p from (hb p hp).2) ?_
                                      refine k_goto (q := 286) C dL_isLayer_281 (by decide) ?_
                                      exact k_sti (show sCo hM tM (gM 1) p - sBr hM tM (gM 1) p = (if oM j = 1 then sSpot hM tM sM gM j p 4 else -99999) from by rw [if_pos c_270]; rfl) J_268
                                refine k_iload (q := 244) C 0 dL_isLayer_242 rfl rfl ?_
                                refine k_ifB_eq (tgt := 256) (q := 247) C dL_isLayer_244 (by decide) rfl ?_ ?_
                                · intro c_244
                                  refine k_ldc (q := 258) (v := -99999) C (List.mem_of_getElem? (i := 1) rfl) dL_isLayer_256 rfl ?_
                                  exact k_sti (show -99999 = (if oM j = 1 then sSpot hM tM sM gM j p 3 else -99999) from by rw [if_neg c_244]) J_242
                                · intro c_244
                                  refine k_aload (q := 249) C 9 dL_isLayer_247 rfl rfl ?_
                                  refine k_iconst (q := 250) (v := 2) C dL_isLayer_249 (by decide) rfl ?_
                                  refine k_iload_n (q := 251) C 4 dL_isLayer_250 rfl rfl ?_
                                  refine k_imul (q := 252) C dL_isLayer_251 rfl ?_
                                  refine k_sti (show 2 * (nI p) = nI (2 * p) from pk_mul 2 p) ?_
                                  refine k_iald (q := 253) C 4 rfl (vp_in_nI (n := 2 * p) (by omega) (by decide)) dL_isLayer_252 rfl ?_
                                  refine k_sti (show bM (nI (2 * p)).toNatClampNeg = bM (2 * p) from congrArg bM (nI_clamp (n := 2 * p) (by omega))) ?_
                                  refine k_sti (show bM (2 * p) = sCo hM tM (gM 1) p from (hb p hp).1) ?_
                                  refine k_goto (q := 258) C dL_isLayer_253 (by decide) ?_
                                  exact k_sti (show sCo hM tM (gM 1) p = (if oM j = 1 then sSpot hM tM sM gM j p 3 else -99999) from by rw [if_pos c_244]; rfl) J_242
                            refine k_iload (q := 208) C 0 dL_isLayer_206 rfl rfl ?_
                            refine k_ifB_ne (tgt := 216) (q := 211) C dL_isLayer_208 (by decide) rfl ?_ ?_
                            · intro c_208
                              refine k_iload_n (q := 217) C 5 dL_isLayer_216 rfl rfl ?_
                              refine k_iload_n (q := 218) C 4 dL_isLayer_217 rfl rfl ?_
                              refine k_aload_n (q := 219) C 6 dL_isLayer_218 rfl rfl ?_
                              refine k_aload (q := 221) C 9 dL_isLayer_219 rfl rfl ?_
                              refine k_callSI (n := 4) (q := 224) (pre := ([] : va_W)) (post := ((wXo b cy (a 0) r nx sn ln (svOf sk) (kpOf sk) ik bf ++ wRd r kd hg nu dg ng tk) ++ (wSky a cy n lit h t s g kn lo lf nm ++ wOth sk cy S))) (w2 := ((wLa e cy (qSt nM oM sM gM knM loM lfM) hM tM lM bM rM) ++ ((wXo b cy (a 0) r nx sn ln (svOf sk) (kpOf sk) ik bf ++ wRd r kd hg nu dg ng tk) ++ (wSky a cy n lit h t s g kn lo lf nm ++ wOth sk cy S)))) (As := [.int (nI j), .int (nI p), .ref (e 0), .ref (e 4)]) (rest := [.int (if oM j = 1 then sSpot hM tM sM gM j p 2 else -99999)]) C (c_L_seen cy e nM oM sM gM knM loM lfM hM tM lM bM rM j p (gM 1) hj hn hp hb) gL_isLayer_L_seen rfl rfl rfl (by decide +kernel) (k_room hR (by decide)) ⟨Nat.zero_le _, Nat.zero_le _⟩  rfl rfl (Nat.le_of_ble_eq_true rfl) (rfl) (rfl) dL_isLayer_221 rfl ?_
                              refine k_ifB_eq (tgt := 231) (q := 227) C dL_isLayer_224 (by decide) rfl ?_ ?_
                              · intro c_224
                                refine k_iconst (q := 232) (v := 0) C dL_isLayer_231 (by decide) rfl ?_
                                exact k_sti (show 0 = (if oM j = 1 then sSpot hM tM sM gM j p 2 else -99999) from by rw [if_pos c_208]; exact bI_f (fun q => c_224 ⟨c_208, q⟩)) J_206
                              · intro c_224
                                refine k_iconst (q := 228) (v := 1) C dL_isLayer_227 (by decide) rfl ?_
                                refine k_goto (q := 232) C dL_isLayer_228 (by decide) ?_
                                exact k_sti (show 1 = (if oM j = 1 then sSpot hM tM sM gM j p 2 else -99999) from by rw [if_pos c_208]; exact bI_t c_224.2) J_206
                            · intro c_208
                              refine k_ldc (q := 213) (v := -99999) C (List.mem_of_getElem? (i := 1) rfl) dL_isLayer_211 rfl ?_
                              refine k_goto (q := 232) C dL_isLayer_213 (by decide) ?_
                              exact k_sti (show -99999 = (if oM j = 1 then sSpot hM tM sM gM j p 2 else -99999) from by rw [if_neg c_208]) J_206
                        refine k_iload (q := 173) C 0 dL_isLayer_171 rfl rfl ?_
                        refine k_ifB_eq (tgt := 194) (q := 176) C dL_isLayer_173 (by decide) rfl ?_ ?_
                        · intro c_173
                          refine k_ldc (q := 196) (v := -99999) C (List.mem_of_getElem? (i := 1) rfl) dL_isLayer_194 rfl ?_
                          exact k_sti (show -99999 = (if oM j = 1 then sSpot hM tM sM gM j p 1 else -99999) from by rw [if_neg c_173]) J_171
                        · intro c_173
                          refine k_aload (q := 178) C 9 dL_isLayer_176 rfl rfl ?_
                          refine k_iconst (q := 179) (v := 2) C dL_isLayer_178 (by decide) rfl ?_
                          refine k_iload_n (q := 180) C 4 dL_isLayer_179 rfl rfl ?_
                          refine k_imul (q := 181) C dL_isLayer_180 rfl ?_
                          refine k_sti (show 2 * (nI p) = nI (2 * p) from pk_mul 2 p) ?_
                          refine k_iald (q := 182) C 4 rfl (vp_in_nI (n := 2 * p) (by omega) (by decide)) dL_isLayer_181 rfl ?_
                          refine k_sti (show bM (nI (2 * p)).toNatClampNeg = bM (2 * p) from congrArg bM (nI_clamp (n := 2 * p) (by omega))) ?_
                          refine k_sti (show bM (2 * p) = sCo hM tM (gM 1) p from (hb p hp).1) ?_
                          refine k_aload (q := 184) C 9 dL_isLayer_182 rfl rfl ?_
                          refine k_iconst (q := 185) (v := 2) C dL_isLayer_184 (by decide) rfl ?_
                          refine k_iload_n (q := 186) C 4 dL_isLayer_185 rfl rfl ?_
                          refine k_imul (q := 187) C dL_isLayer_186 rfl ?_
                          refine k_sti (show 2 * (nI p) = nI (2 * p) from pk_mul 2 p) ?_
                          refine k_iconst (q := 188) (v := 1) C dL_isLayer_187 (by decide) rfl ?_
                          refine k_iadd (q := 189) C dL_isLayer_188 rfl ?_
                          refine k_sti (show (nI (2 * p)) + 1 = nI (2 * p + 1) from nI_add (2 * p) 1) ?_
                          refine k_iald (q := 190) C 4 rfl (vp_in_nI (n := 2 * p + 1) (by omega) (by decide)) dL_isLayer_189 rfl ?_
                          refine k_sti (show bM (nI (2 * p + 1)).toNatClampNeg = bM (2 * p + 1) from congrArg bM (nI_clamp (n := 2 * p + 1) (by omega))) ?_
                          refine k_sti (show bM (2 * p + 1) = sCo hM tM (gM 1) p - sBr hM tM (gM 1) p from (hb p hp).2) ?_
                          refine k_isub (q := 191) C dL_isLayer_190 rfl ?_
                          refine k_sti (show (sCo hM tM (gM 1) p) - (sCo hM tM (gM 1) p - sBr hM tM (gM 1) p) = sBr hM tM (gM 1) p from i32_sub_sub _ _) ?_
                          refine k_goto (q := 196) C dL_isLayer_191 (by decide) ?_
                          exact k_sti (show sBr hM tM (gM 1) p = (if oM j = 1 then sSpot hM tM sM gM j p 1 else -99999) from by rw [if_pos c_173]; rfl) J_171
                    refine k_iload (q := 145) C 0 dL_isLayer_143 rfl rfl ?_
                    refine k_ifB_eq (tgt := 159) (q := 148) C dL_isLayer_145 (by decide) rfl ?_ ?_
                    · intro c_145
                      refine k_ldc (q := 161) (v := -99999) C (List.mem_of_getElem? (i := 1) rfl) dL_isLayer_159 rfl ?_
                      exact k_sti (show -99999 = (if oM j = 1 then sSpot hM tM sM gM j p 0 else -99999) from by rw [if_neg c_145]) J_143
                    · intro c_145
                      refine k_iload_n (q := 149) C 5 dL_isLayer_148 rfl rfl ?_
                      refine k_iload_n (q := 150) C 4 dL_isLayer_149 rfl rfl ?_
                      refine k_aload_n (q := 151) C 6 dL_isLayer_150 rfl rfl ?_
                      refine k_aload (q := 153) C 7 dL_isLayer_151 rfl rfl ?_
                      refine k_callSI (n := 4) (q := 156) (pre := ([] : va_W)) (post := ((wXo b cy (a 0) r nx sn ln (svOf sk) (kpOf sk) ik bf ++ wRd r kd hg nu dg ng tk) ++ (wSky a cy n lit h t s g kn lo lf nm ++ wOth sk cy S))) (w2 := ((wLa e cy (qSt nM oM sM gM knM loM lfM) hM tM lM bM rM) ++ ((wXo b cy (a 0) r nx sn ln (svOf sk) (kpOf sk) ik bf ++ wRd r kd hg nu dg ng tk) ++ (wSky a cy n lit h t s g kn lo lf nm ++ wOth sk cy S)))) (As := [.int (nI j), .int (nI p), .ref (e 0), .ref (e 1)]) (rest := [.int (if oM j = 1 then sSpot hM tM sM gM j p 0 else -99999)]) C (c_L_place cy e nM oM sM gM knM loM lfM hM tM lM bM rM j p hj (by omega)) gL_isLayer_L_place rfl rfl rfl (by decide +kernel) (k_room hR (by decide)) ⟨Nat.zero_le _, Nat.zero_le _⟩  rfl rfl (Nat.le_of_ble_eq_true rfl) (rfl) (rfl) dL_isLayer_153 rfl ?_
                      refine k_goto (q := 161) C dL_isLayer_156 (by decide) ?_
                      exact k_sti (show sPlace gM (nI j) (sM j) (hM p) = (if oM j = 1 then sSpot hM tM sM gM j p 0 else -99999) from by rw [if_pos c_145]; rfl) J_143
                refine k_aload_n (q := 115) C 5 dL_isLayer_114 rfl rfl ?_
                refine k_bipush (q := 117) (v := 6) C dL_isLayer_115 (by decide +kernel) rfl ?_
                refine k_iload_n (q := 118) C 4 dL_isLayer_117 rfl rfl ?_
                refine k_iadd (q := 119) C dL_isLayer_118 rfl ?_
                refine k_sti (show 6 + (nI j) = nI (6 + j) from nI_add 6 j) ?_
                refine k_iald (q := 120) C 0 rfl (vp_in_nI (n := 6 + j) (by omega) (by decide)) dL_isLayer_119 rfl ?_
                refine k_sti (show (qSt nM oM sM gM knM loM lfM) (nI (6 + j)).toNatClampNeg = (qSt nM oM sM gM knM loM lfM) (6 + j) from congrArg (qSt nM oM sM gM knM loM lfM) (nI_clamp (n := 6 + j) (by omega))) ?_
                refine k_sti (show (qSt nM oM sM gM knM loM lfM) (6 + j) = oM j from mSt_o (k := j) (by omega)) ?_
                refine k_iconst (q := 121) (v := 1) C dL_isLayer_120 (by decide) rfl ?_
                refine k_icmp_ne (tgt := 128) (q := 124) C dL_isLayer_121 (by decide) rfl ?_ ?_
                · intro c_121
                  refine k_iconst (q := 129) (v := 0) C dL_isLayer_128 (by decide) rfl ?_
                  exact k_sti (show 0 = bI (oM j = 1) from bI_f c_121) J_114
                · intro c_121
                  refine k_iconst (q := 125) (v := 1) C dL_isLayer_124 (by decide) rfl ?_
                  refine k_goto (q := 129) C dL_isLayer_125 (by decide) ?_
                  exact k_sti (show 1 = bI (oM j = 1) from bI_t c_121) J_114
            refine k_ifB_eq (tgt := 103) (q := 99) C dL_isLayer_96 (by decide) rfl ?_ ?_
            · intro c_96
              refine k_iconst (q := 104) (v := 0) C dL_isLayer_103 (by decide) rfl ?_
              exact k_sti (show 0 = bI (sClose (mLit oM) hM tM sM gM p = true) from bI_f c_96) J_96
            · intro c_96
              refine k_iconst (q := 100) (v := 1) C dL_isLayer_99 (by decide) rfl ?_
              refine k_goto (q := 104) C dL_isLayer_100 (by decide) ?_
              exact k_sti (show 1 = bI (sClose (mLit oM) hM tM sM gM p = true) from bI_t c_96) J_96
        refine k_iload (q := 63) C 0 dL_isLayer_61 rfl rfl ?_
        refine k_ifB_eq (tgt := 76) (q := 66) C dL_isLayer_63 (by decide) rfl ?_ ?_
        · intro c_63
          refine k_ldc (q := 78) (v := -99999) C (List.mem_of_getElem? (i := 1) rfl) dL_isLayer_76 rfl ?_
          exact k_sti (show -99999 = (if sPair (mLit oM) hM tM gM p = true then sDist hM gM p (sM 0) (sM 1) else -99999) from (if_neg c_63).symm) J_61
        · intro c_63
          refine k_iload_n (q := 67) C 2 dL_isLayer_66 rfl rfl ?_
          refine k_aload_n (q := 68) C 4 dL_isLayer_67 rfl rfl ?_
          refine k_aload (q := 70) C 5 dL_isLayer_68 rfl rfl ?_
          refine k_callSI (n := 3) (q := 73) (pre := ([] : va_W)) (post := ((wXo b cy (a 0) r nx sn ln (svOf sk) (kpOf sk) ik bf ++ wRd r kd hg nu dg ng tk) ++ (wSky a cy n lit h t s g kn lo lf nm ++ wOth sk cy S))) (w2 := ((wLa e cy (qSt nM oM sM gM knM loM lfM) hM tM lM bM rM) ++ ((wXo b cy (a 0) r nx sn ln (svOf sk) (kpOf sk) ik bf ++ wRd r kd hg nu dg ng tk) ++ (wSky a cy n lit h t s g kn lo lf nm ++ wOth sk cy S)))) (As := [.int (nI p), .ref (e 0), .ref (e 1)]) (rest := [.int (if sPair (mLit oM) hM tM gM p = true then sDist hM gM p (sM 0) (sM 1) else -99999)]) C (c_L_apart cy e nM oM sM gM knM loM lfM hM tM lM bM rM p (by omega)) gL_isLayer_L_apart rfl rfl rfl (by decide +kernel) (k_room hR (by decide)) ⟨Nat.zero_le _, Nat.zero_le _⟩  rfl rfl (Nat.le_of_ble_eq_true rfl) (rfl) (rfl) dL_isLayer_70 rfl ?_
          refine k_goto (q := 78) C dL_isLayer_73 (by decide) ?_
          exact k_sti (show sDist hM gM p (sM 0) (sM 1) = (if sPair (mLit oM) hM tM gM p = true then sDist hM gM p (sM 0) (sM 1) else -99999) from (if_pos c_63).symm) J_61
  refine k_iconst (q := 1) (v := 0) C dL_isLayer_0 (by decide) rfl ?_
  refine k_iload_n (q := 2) C 1 dL_isLayer_1 rfl rfl ?_
  refine k_aload_n (q := 3) C 3 dL_isLayer_2 rfl rfl ?_
  refine k_aload (q := 5) C 6 dL_isLayer_3 rfl rfl ?_
  refine k_callSI (n := 4) (q := 8) (pre := ([] : va_W)) (post := ((wXo b cy (a 0) r nx sn ln (svOf sk) (kpOf sk) ik bf ++ wRd r kd hg nu dg ng tk) ++ (wSky a cy n lit h t s g kn lo lf nm ++ wOth sk cy S))) (w2 := ((wLa e cy (qSt nM oM sM gM knM loM lfM) hM tM lM bM rM) ++ ((wXo b cy (a 0) r nx sn ln (svOf sk) (kpOf sk) ik bf ++ wRd r kd hg nu dg ng tk) ++ (wSky a cy n lit h t s g kn lo lf nm ++ wOth sk cy S)))) (As := [.int 0, .int (nI p), .ref (e 0), .ref (e 4)]) (rest := []) C (c_L_seen cy e nM oM sM gM knM loM lfM hM tM lM bM rM 0 p (gM 1) (by decide) hn hp hb) gL_isLayer_L_seen rfl rfl rfl (by decide +kernel) (k_room hR (by decide)) ⟨Nat.zero_le _, Nat.zero_le _⟩  rfl rfl (Nat.le_of_ble_eq_true rfl) (rfl) (rfl) dL_isLayer_5 rfl ?_
  refine k_ifB_eq (tgt := 26) (q := 11) C dL_isLayer_8 (by decide) rfl ?_ ?_
  · intro c_8
    refine k_iconst (q := 27) (v := 0) C dL_isLayer_26 (by decide) rfl ?_
    exact k_sti (show 0 = bI (sPair (mLit oM) hM tM gM p = true) from bI_f (fun q => c_8 (mPair_1 ho q))) J_0
  · intro c_8
    refine k_iconst (q := 12) (v := 1) C dL_isLayer_11 (by decide) rfl ?_
    refine k_iload_n (q := 13) C 1 dL_isLayer_12 rfl rfl ?_
    refine k_aload_n (q := 14) C 3 dL_isLayer_13 rfl rfl ?_
    refine k_aload (q := 16) C 6 dL_isLayer_14 rfl rfl ?_
    refine k_callSI (n := 4) (q := 19) (pre := ([] : va_W)) (post := ((wXo b cy (a 0) r nx sn ln (svOf sk) (kpOf sk) ik bf ++ wRd r kd hg nu dg ng tk) ++ (wSky a cy n lit h t s g kn lo lf nm ++ wOth sk cy S))) (w2 := ((wLa e cy (qSt nM oM sM gM knM loM lfM) hM tM lM bM rM) ++ ((wXo b cy (a 0) r nx sn ln (svOf sk) (kpOf sk) ik bf ++ wRd r kd hg nu dg ng tk) ++ (wSky a cy n lit h t s g kn lo lf nm ++ wOth sk cy S)))) (As := [.int 1, .int (nI p), .ref (e 0), .ref (e 4)]) (rest := []) C (c_L_seen cy e nM oM sM gM knM loM lfM hM tM lM bM rM 1 p (gM 1) (by decide) hn hp hb) gL_isLayer_L_seen rfl rfl rfl (by decide +kernel) (k_room hR (by decide)) ⟨Nat.zero_le _, Nat.zero_le _⟩  rfl rfl (Nat.le_of_ble_eq_true rfl) (rfl) (rfl) dL_isLayer_16 rfl ?_
    refine k_ifB_eq (tgt := 26) (q := 22) C dL_isLayer_19 (by decide) rfl ?_ ?_
    · intro c_19
      refine k_iconst (q := 27) (v := 0) C dL_isLayer_26 (by decide) rfl ?_
      exact k_sti (show 0 = bI (sPair (mLit oM) hM tM gM p = true) from bI_f (fun q => c_19 (mPair_2 ho q))) J_0
    · intro c_19
      refine k_iconst (q := 23) (v := 1) C dL_isLayer_22 (by decide) rfl ?_
      refine k_goto (q := 27) C dL_isLayer_23 (by decide) ?_
      exact k_sti (show 1 = bI (sPair (mLit oM) hM tM gM p = true) from bI_t (mPair_i ho c_8 c_19)) J_0
