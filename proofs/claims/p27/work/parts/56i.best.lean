abbrev rm_L_best : Room := { frames := 2, cells := 0, slots := 0, locals := 45 }
set_option maxHeartbeats 4000000 in
set_option maxRecDepth 100000 in
theorem lp_L_best_19 (cy : Nat → ClassId) (e : Nat → Nat) (nM : Nat) (oM : Nat → Int32) (sM : Nat → Int32) (gM : Nat → Int32) (knM : Nat) (loM : Int32) (lfM : Int32) (hM : Nat → Int32) (tM : Nat → Int32) (lM : Nat → Int32) (bM : Nat → Int32) (rM : Nat → Int32) (j : Nat) (p : Nat)  (hj : j < 2) (hp : p < 6) (hh : 50 ≤ (hM p).toInt ∧ (hM p).toInt ≤ 3000) (hg0 : 50 ≤ (gM 0).toInt ∧ (gM 0).toInt ≤ 1000) (hs : sOk (sM (1 - j))) (X : kX) (hR : xR X = rm_L_best) (C : kC X 9 RL cL_best wsL_best cy) (E : kEnd X 9 cL_best (iI (sTry gM hM sM j p)) (wLa e cy (qSt nM oM sM gM knM loM lfM) hM tM lM bM rM)) : ∀ (fu : Nat) (i : Nat) (s1 : Nat → Int32), 61 - i < fu → (i ≤ 61) → (upd s1 j (sM j) = sM) → kG X 9 0 0 (wLa e cy (qSt nM oM s1 gM knM loM lfM) hM tM lM bM rM) 19 [(0, .int (nI j)), (1, .int (nI p)), (2, .ref (e 0)), (3, .ref (e 1)), (4, .int (sM j)), (5, .int (iI (lBe (sFar gM hM sM j p) i).1)), (6, .int (lBe (sFar gM hM sM j p) i).2), (7, .int (iI (30 - (i : Int))))] [] := by
  intro fu
  induction fu with
  | zero => intro i s1 hfu; exact absurd hfu (Nat.not_lt_zero _)
  | succ fu ih =>
    intro i s1 hfu hi hs1
    refine k_iload (q := 21) C 7 dL_best_19 rfl rfl ?_
    refine k_bipush (q := 23) (v := -30) C dL_best_21 (by decide +kernel) rfl ?_
    refine k_icmp_lt (tgt := 82) (q := 26) C dL_best_23 (by decide) rfl ?_ ?_
    · intro c_23
      have c1 : 30 - (i : Int) < -30 := (iI_lt (b := -30) (by omega) (by omega)).mp c_23
      have hie : i = 61 := by omega
      obtain rfl : i = 61 := hie
      refine k_aload_n (q := 83) C 2 dL_best_82 rfl rfl ?_
      refine k_iconst (q := 84) (v := 4) C dL_best_83 (by decide) rfl ?_
      refine k_iload_n (q := 85) C 0 dL_best_84 rfl rfl ?_
      refine k_iadd (q := 86) C dL_best_85 rfl ?_
      refine k_sti (show 4 + (nI j) = nI (4 + j) from nI_add 4 j) ?_
      refine k_iload (q := 88) C 4 dL_best_86 rfl rfl ?_
      refine k_iast (q := 89) (w2 := (wLa e cy (qSt nM oM (upd s1 j (sM j)) gM knM loM lfM) hM tM lM bM rM)) C 0 rfl (vp_in_nI (n := 4 + j) (by omega) (by decide)) (by rw [nI_clamp (n := 4 + j) (by omega)]; exact wLa_q (mSt_ws (k := j) (by omega))) dL_best_88 rfl ?_
      refine k_iload (q := 91) C 5 dL_best_89 rfl rfl ?_
      exact k_fin E dL_best_91 (lBe_try hj hh hg0 hs) (by rw [hs1])
    · intro c_23
      have c_23 := Int32.not_lt.mp c_23
      have c1 : ¬ 30 - (i : Int) < -30 := fun q => absurd ((iI_lt (b := -30) (by omega) (by omega)).mpr q) (Int32.not_lt.mpr c_23)
      refine k_aload_n (q := 27) C 2 dL_best_26 rfl rfl ?_
      refine k_iconst (q := 28) (v := 4) C dL_best_27 (by decide) rfl ?_
      refine k_iload_n (q := 29) C 0 dL_best_28 rfl rfl ?_
      refine k_iadd (q := 30) C dL_best_29 rfl ?_
      refine k_sti (show 4 + (nI j) = nI (4 + j) from nI_add 4 j) ?_
      refine k_iload (q := 32) C 7 dL_best_30 rfl rfl ?_
      refine k_iast (q := 33) (w2 := (wLa e cy (qSt nM oM (upd s1 j (iI (30 - (i : Int)))) gM knM loM lfM) hM tM lM bM rM)) C 0 rfl (vp_in_nI (n := 4 + j) (by omega) (by decide)) (by rw [nI_clamp (n := 4 + j) (by omega)]; exact wLa_q (mSt_ws (k := j) (by omega))) dL_best_32 rfl ?_
      refine k_iload_n (q := 34) C 1 dL_best_33 rfl rfl ?_
      refine k_aload_n (q := 35) C 2 dL_best_34 rfl rfl ?_
      refine k_aload_n (q := 36) C 3 dL_best_35 rfl rfl ?_
      refine k_callSI (n := 3) (q := 39) (pre := ([] : va_W)) (post := ([] : va_W)) (w2 := (wLa e cy (qSt nM oM (upd s1 j (iI (30 - (i : Int)))) gM knM loM lfM) hM tM lM bM rM)) (As := [.int (nI p), .ref (e 0), .ref (e 1)]) (rest := []) C (c_L_apart cy e nM oM (upd s1 j (iI (30 - (i : Int)))) gM knM loM lfM hM tM lM bM rM p hp) gL_best_L_apart rfl rfl rfl (by decide +kernel) (k_room hR (by decide)) ⟨Nat.zero_le _, Nat.zero_le _⟩  rfl rfl (Nat.le_of_ble_eq_true rfl) ((List.append_nil _).symm) (List.append_nil _) dL_best_36 rfl ?_
      refine k_callSI (n := 1) (q := 42) (pre := ([] : va_W)) (post := (wLa e cy (qSt nM oM (upd s1 j (iI (30 - (i : Int)))) gM knM loM lfM) hM tM lM bM rM)) (w2 := (wLa e cy (qSt nM oM (upd s1 j (iI (30 - (i : Int)))) gM knM loM lfM) hM tM lM bM rM)) (As := [.int (sDist hM gM p ((upd s1 j (iI (30 - (i : Int)))) 0) ((upd s1 j (iI (30 - (i : Int)))) 1))]) (rest := []) C (c_L_size (sDist hM gM p ((upd s1 j (iI (30 - (i : Int)))) 0) ((upd s1 j (iI (30 - (i : Int)))) 1))) gL_best_L_size rfl rfl rfl (by decide +kernel) (k_room hR (by decide)) ⟨Nat.zero_le _, Nat.zero_le _⟩  rfl rfl (Nat.le_of_ble_eq_true rfl) (rfl) (rfl) dL_best_39 rfl ?_
      refine k_sti (show mAbs (sDist hM gM p ((upd s1 j (iI (30 - (i : Int)))) 0) ((upd s1 j (iI (30 - (i : Int)))) 1)) = sFar gM hM sM j p (30 - (i : Int)) from mFar (g := gM) (h := hM) (s := sM) (s1 := s1) (j := j) (p := p) (z := 30 - (i : Int)) hj hs1) ?_
      refine k_istore (q := 44) (fr2 := [(8, .int (sFar gM hM sM j p (30 - (i : Int)))), (0, .int (nI j)), (1, .int (nI p)), (2, .ref (e 0)), (3, .ref (e 1)), (4, .int (sM j)), (5, .int (iI (lBe (sFar gM hM sM j p) i).1)), (6, .int (lBe (sFar gM hM sM j p) i).2), (7, .int (iI (30 - (i : Int))))]) C dL_best_42 (by decide) rfl rfl ?_
      have J_44 : kG X 9 0 0 (wLa e cy (qSt nM oM (upd s1 j (iI (30 - (i : Int)))) gM knM loM lfM) hM tM lM bM rM) 58 [(8, .int (sFar gM hM sM j p (30 - (i : Int)))), (0, .int (nI j)), (1, .int (nI p)), (2, .ref (e 0)), (3, .ref (e 1)), (4, .int (sM j)), (5, .int (iI (lBe (sFar gM hM sM j p) i).1)), (6, .int (lBe (sFar gM hM sM j p) i).2), (7, .int (iI (30 - (i : Int))))] [.int (iI (lBe (sFar gM hM sM j p) (i + 1)).1)] := by
        refine k_istore (q := 60) (fr2 := [(5, .int (iI (lBe (sFar gM hM sM j p) (i + 1)).1)), (8, .int (sFar gM hM sM j p (30 - (i : Int)))), (0, .int (nI j)), (1, .int (nI p)), (2, .ref (e 0)), (3, .ref (e 1)), (4, .int (sM j)), (6, .int (lBe (sFar gM hM sM j p) i).2), (7, .int (iI (30 - (i : Int))))]) C dL_best_58 (by decide) rfl rfl ?_
        have J_60 : kG X 9 0 0 (wLa e cy (qSt nM oM (upd s1 j (iI (30 - (i : Int)))) gM knM loM lfM) hM tM lM bM rM) 74 [(5, .int (iI (lBe (sFar gM hM sM j p) (i + 1)).1)), (8, .int (sFar gM hM sM j p (30 - (i : Int)))), (0, .int (nI j)), (1, .int (nI p)), (2, .ref (e 0)), (3, .ref (e 1)), (4, .int (sM j)), (6, .int (lBe (sFar gM hM sM j p) i).2), (7, .int (iI (30 - (i : Int))))] [.int (lBe (sFar gM hM sM j p) (i + 1)).2] := by
          refine k_istore (q := 76) (fr2 := [(6, .int (lBe (sFar gM hM sM j p) (i + 1)).2), (5, .int (iI (lBe (sFar gM hM sM j p) (i + 1)).1)), (8, .int (sFar gM hM sM j p (30 - (i : Int)))), (0, .int (nI j)), (1, .int (nI p)), (2, .ref (e 0)), (3, .ref (e 1)), (4, .int (sM j)), (7, .int (iI (30 - (i : Int))))]) C dL_best_74 (by decide) rfl rfl ?_
          refine k_iinc (q := 79) (v := iI (30 - ((i + 1 : Nat) : Int))) (fr2 := [(7, .int (iI (30 - ((i + 1 : Nat) : Int)))), (6, .int (lBe (sFar gM hM sM j p) (i + 1)).2), (5, .int (iI (lBe (sFar gM hM sM j p) (i + 1)).1)), (8, .int (sFar gM hM sM j p (30 - (i : Int)))), (0, .int (nI j)), (1, .int (nI p)), (2, .ref (e 0)), (3, .ref (e 1)), (4, .int (sM j))]) C 8 dL_best_76 rfl ((by rw [show (Int32.ofInt (-1)) = iI (-1) from rfl, iI_add]; congr 1; omega)) (by decide) rfl rfl ?_
          refine k_goto (q := 19) C dL_best_79 (by decide) ?_
          refine k_fr (fr2 := [(0, .int (nI j)), (1, .int (nI p)), (2, .ref (e 0)), (3, .ref (e 1)), (4, .int (sM j)), (5, .int (iI (lBe (sFar gM hM sM j p) (i + 1)).1)), (6, .int (lBe (sFar gM hM sM j p) (i + 1)).2), (7, .int (iI (30 - ((i + 1 : Nat) : Int))))]) ⟨[4, 5, 6, 7, 8, 2, 1, 0], rfl⟩ ?_
          exact ih (i + 1) (upd s1 j (iI (30 - (i : Int)))) (by omega) (by omega) (upd_back hs1)
        refine k_iload (q := 62) C 1 dL_best_60 rfl rfl ?_
        refine k_iload (q := 64) C 7 dL_best_62 rfl rfl ?_
        refine k_icmp_gt (tgt := 72) (q := 67) C dL_best_64 (by decide) rfl ?_ ?_
        · intro c_64
          refine k_iload (q := 74) C 7 dL_best_72 rfl rfl ?_
          exact k_sti (show (lBe (sFar gM hM sM j p) i).2 = (lBe (sFar gM hM sM j p) (i + 1)).2 from by rw [lBe_n c_64]) J_60
        · intro c_64
          have c_64 := Int32.not_lt.mp c_64
          refine k_iload (q := 69) C 1 dL_best_67 rfl rfl ?_
          refine k_goto (q := 74) C dL_best_69 (by decide) ?_
          exact k_sti (show sFar gM hM sM j p (30 - (i : Int)) = (lBe (sFar gM hM sM j p) (i + 1)).2 from by rw [lBe_y c_64]) J_60
      refine k_iload (q := 46) C 0 dL_best_44 rfl rfl ?_
      refine k_iload (q := 48) C 7 dL_best_46 rfl rfl ?_
      refine k_icmp_gt (tgt := 56) (q := 51) C dL_best_48 (by decide) rfl ?_ ?_
      · intro c_48
        refine k_iload (q := 58) C 6 dL_best_56 rfl rfl ?_
        exact k_sti (show iI (lBe (sFar gM hM sM j p) i).1 = iI (lBe (sFar gM hM sM j p) (i + 1)).1 from by rw [lBe_n c_48]) J_44
      · intro c_48
        have c_48 := Int32.not_lt.mp c_48
        refine k_iload (q := 53) C 8 dL_best_51 rfl rfl ?_
        refine k_goto (q := 58) C dL_best_53 (by decide) ?_
        exact k_sti (show iI (30 - (i : Int)) = iI (lBe (sFar gM hM sM j p) (i + 1)).1 from by rw [lBe_y c_48]) J_44
set_option maxHeartbeats 4000000 in
set_option maxRecDepth 100000 in
theorem c_L_best (cy : Nat → ClassId) (e : Nat → Nat) (nM : Nat) (oM : Nat → Int32) (sM : Nat → Int32) (gM : Nat → Int32) (knM : Nat) (loM : Int32) (lfM : Int32) (hM : Nat → Int32) (tM : Nat → Int32) (lM : Nat → Int32) (bM : Nat → Int32) (rM : Nat → Int32) (j : Nat) (p : Nat)  (hj : j < 2) (hp : p < 6) (hh : 50 ≤ (hM p).toInt ∧ (hM p).toInt ≤ 3000) (hg0 : 50 ≤ (gM 0).toInt ∧ (gM 0).toInt ≤ 1000) (hs : sOk (sM (1 - j))) : kI yL_best wsL_best rm_L_best cy [.int (nI j), .int (nI p), .ref (e 0), .ref (e 1)] (wLa e cy (qSt nM oM sM gM knM loM lfM) hM tM lM bM rM) (iI (sTry gM hM sM j p)) (wLa e cy (qSt nM oM sM gM knM loM lfM) hM tM lM bM rM) := by
  refine kI_of (cc := cL_best) (maxL := 9) (rt := .int) (by decide) rfl (rfl) (Nat.le_of_ble_eq_true rfl) ?_
  intro X hR C E
  have C : kC X 9 RL cL_best wsL_best cy := C
  refine k_fr (fr2 := [(0, .int (nI j)), (1, .int (nI p)), (2, .ref (e 0)), (3, .ref (e 1))]) ⟨[0, 1, 2, 3], rfl⟩ ?_
  refine k_aload_n (q := 1) C 2 dL_best_0 rfl rfl ?_
  refine k_iconst (q := 2) (v := 4) C dL_best_1 (by decide) rfl ?_
  refine k_iload_n (q := 3) C 0 dL_best_2 rfl rfl ?_
  refine k_iadd (q := 4) C dL_best_3 rfl ?_
  refine k_sti (show 4 + (nI j) = nI (4 + j) from nI_add 4 j) ?_
  refine k_iald (q := 5) C 0 rfl (vp_in_nI (n := 4 + j) (by omega) (by decide)) dL_best_4 rfl ?_
  refine k_sti (show (qSt nM oM sM gM knM loM lfM) (nI (4 + j)).toNatClampNeg = (qSt nM oM sM gM knM loM lfM) (4 + j) from congrArg (qSt nM oM sM gM knM loM lfM) (nI_clamp (n := 4 + j) (by omega))) ?_
  refine k_sti (show (qSt nM oM sM gM knM loM lfM) (4 + j) = sM j from mSt_s (k := j) (by omega)) ?_
  refine k_istore (q := 7) (fr2 := [(4, .int (sM j)), (0, .int (nI j)), (1, .int (nI p)), (2, .ref (e 0)), (3, .ref (e 1))]) C dL_best_5 (by decide) rfl rfl ?_
  refine k_bipush (q := 9) (v := 30) C dL_best_7 (by decide +kernel) rfl ?_
  refine k_istore (q := 11) (fr2 := [(5, .int 30), (4, .int (sM j)), (0, .int (nI j)), (1, .int (nI p)), (2, .ref (e 0)), (3, .ref (e 1))]) C dL_best_9 (by decide) rfl rfl ?_
  refine k_ldc (q := 13) (v := 999999) C (List.mem_of_getElem? (i := 1) rfl) dL_best_11 rfl ?_
  refine k_istore (q := 15) (fr2 := [(6, .int 999999), (5, .int 30), (4, .int (sM j)), (0, .int (nI j)), (1, .int (nI p)), (2, .ref (e 0)), (3, .ref (e 1))]) C dL_best_13 (by decide) rfl rfl ?_
  refine k_bipush (q := 17) (v := 30) C dL_best_15 (by decide +kernel) rfl ?_
  refine k_istore (q := 19) (fr2 := [(7, .int 30), (6, .int 999999), (5, .int 30), (4, .int (sM j)), (0, .int (nI j)), (1, .int (nI p)), (2, .ref (e 0)), (3, .ref (e 1))]) C dL_best_17 (by decide) rfl rfl ?_
  refine k_fr (fr2 := [(0, .int (nI j)), (1, .int (nI p)), (2, .ref (e 0)), (3, .ref (e 1)), (4, .int (sM j)), (5, .int 30), (6, .int 999999), (7, .int 30)]) ⟨[4, 5, 6, 7, 3, 2, 1, 0], rfl⟩ ?_
  exact lp_L_best_19 cy e nM oM sM gM knM loM lfM hM tM lM bM rM j p hj hp hh hg0 hs X hR C E _ 0 sM (Nat.lt_succ_self _) (Nat.zero_le _) (upd_self sM j)
