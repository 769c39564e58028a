abbrev rm_L_close : Room := { frames := 2, cells := 0, slots := 0, locals := 45 }
set_option maxHeartbeats 4000000 in
set_option maxRecDepth 100000 in
theorem c_L_close (cy : Nat → ClassId) (e : Nat → Nat) (nM : Nat) (oM : Nat → Int32) (sM : Nat → Int32) (gM : Nat → Int32) (knM : Nat) (loM : Int32) (lfM : Int32) (hM : Nat → Int32) (tM : Nat → Int32) (lM : Nat → Int32) (bM : Nat → Int32) (rM : Nat → Int32) (p : Nat)  (hn : nM ≤ 6) (hp : p < nM) (hb : lB nM hM tM (gM 1) bM) (ho : mBin oM) : kI yL_close wsL_close rm_L_close cy [.int (nI p), .ref (e 0), .ref (e 1), .ref (e 4)] (wLa e cy (qSt nM oM sM gM knM loM lfM) hM tM lM bM rM) (bI (sClose (mLit oM) hM tM sM gM p = true)) (wLa e cy (qSt nM oM sM gM knM loM lfM) hM tM lM bM rM) := by
  refine kI_of (cc := cL_close) (maxL := 4) (rt := .boolean) (by decide) rfl (kb_nar _) (Nat.le_of_ble_eq_true rfl) ?_
  intro X hR C E
  have C : kC X 4 RL cL_close wsL_close cy := C
  refine k_fr (fr2 := [(0, .int (nI p)), (1, .ref (e 0)), (2, .ref (e 1)), (3, .ref (e 4))]) ⟨[0, 1, 2, 3], rfl⟩ ?_
  refine k_iconst (q := 1) (v := 0) C dL_close_0 (by decide) rfl ?_
  refine k_iload_n (q := 2) C 0 dL_close_1 rfl rfl ?_
  refine k_aload_n (q := 3) C 1 dL_close_2 rfl rfl ?_
  refine k_aload_n (q := 4) C 3 dL_close_3 rfl rfl ?_
  refine k_callSI (n := 4) (q := 7) (pre := ([] : va_W)) (post := ([] : va_W)) (w2 := (wLa e cy (qSt nM oM sM gM knM loM lfM) hM tM lM bM rM)) (As := [.int 0, .int (nI p), .ref (e 0), .ref (e 4)]) (rest := []) C (c_L_seen cy e nM oM sM gM knM loM lfM hM tM lM bM rM 0 p (gM 1) (by decide) hn hp hb) gL_close_L_seen rfl rfl rfl (by decide +kernel) (k_room hR (by decide)) ⟨Nat.zero_le _, Nat.zero_le _⟩  rfl rfl (Nat.le_of_ble_eq_true rfl) ((List.append_nil _).symm) (List.append_nil _) dL_close_4 rfl ?_
  refine k_ifB_eq (tgt := 39) (q := 10) C dL_close_7 (by decide) rfl ?_ ?_
  · intro c_7
    refine k_iconst (q := 40) (v := 0) C dL_close_39 (by decide) rfl ?_
    exact k_fin E dL_close_40 (bI_f (fun q => c_7 (mPair_1 ho (sClose_1 q)))) (rfl)
  · intro c_7
    refine k_iconst (q := 11) (v := 1) C dL_close_10 (by decide) rfl ?_
    refine k_iload_n (q := 12) C 0 dL_close_11 rfl rfl ?_
    refine k_aload_n (q := 13) C 1 dL_close_12 rfl rfl ?_
    refine k_aload_n (q := 14) C 3 dL_close_13 rfl rfl ?_
    refine k_callSI (n := 4) (q := 17) (pre := ([] : va_W)) (post := ([] : va_W)) (w2 := (wLa e cy (qSt nM oM sM gM knM loM lfM) hM tM lM bM rM)) (As := [.int 1, .int (nI p), .ref (e 0), .ref (e 4)]) (rest := []) C (c_L_seen cy e nM oM sM gM knM loM lfM hM tM lM bM rM 1 p (gM 1) (by decide) hn hp hb) gL_close_L_seen rfl rfl rfl (by decide +kernel) (k_room hR (by decide)) ⟨Nat.zero_le _, Nat.zero_le _⟩  rfl rfl (Nat.le_of_ble_eq_true rfl) ((List.append_nil _).symm) (List.append_nil _) dL_close_14 rfl ?_
    refine k_ifB_eq (tgt := 39) (q := 20) C dL_close_17 (by decide) rfl ?_ ?_
    · intro c_17
      refine k_iconst (q := 40) (v := 0) C dL_close_39 (by decide) rfl ?_
      exact k_fin E dL_close_40 (bI_f (fun q => c_17 (mPair_2 ho (sClose_1 q)))) (rfl)
    · intro c_17
      refine k_iload_n (q := 21) C 0 dL_close_20 rfl rfl ?_
      refine k_aload_n (q := 22) C 1 dL_close_21 rfl rfl ?_
      refine k_aload_n (q := 23) C 2 dL_close_22 rfl rfl ?_
      refine k_callSI (n := 3) (q := 26) (pre := ([] : va_W)) (post := ([] : va_W)) (w2 := (wLa e cy (qSt nM oM sM gM knM loM lfM) hM tM lM bM rM)) (As := [.int (nI p), .ref (e 0), .ref (e 1)]) (rest := []) C (c_L_apart cy e nM oM sM gM knM loM lfM hM tM lM bM rM p (by omega)) gL_close_L_apart rfl rfl rfl (by decide +kernel) (k_room hR (by decide)) ⟨Nat.zero_le _, Nat.zero_le _⟩  rfl rfl (Nat.le_of_ble_eq_true rfl) ((List.append_nil _).symm) (List.append_nil _) dL_close_23 rfl ?_
      refine k_callSI (n := 1) (q := 29) (pre := ([] : va_W)) (post := (wLa e cy (qSt nM oM sM gM knM loM lfM) hM tM lM bM rM)) (w2 := (wLa e cy (qSt nM oM sM gM knM loM lfM) hM tM lM bM rM)) (As := [.int (sDist hM gM p (sM 0) (sM 1))]) (rest := []) C (c_L_size (sDist hM gM p (sM 0) (sM 1))) gL_close_L_size rfl rfl rfl (by decide +kernel) (k_room hR (by decide)) ⟨Nat.zero_le _, Nat.zero_le _⟩  rfl rfl (Nat.le_of_ble_eq_true rfl) (rfl) (rfl) dL_close_26 rfl ?_
      refine k_aload_n (q := 30) C 1 dL_close_29 rfl rfl ?_
      refine k_iconst (q := 31) (v := 3) C dL_close_30 (by decide) rfl ?_
      refine k_iald (q := 32) C 0 rfl (vp_in_nI (n := 3) (by decide) (by decide)) dL_close_31 rfl ?_
      refine k_sti (show (qSt nM oM sM gM knM loM lfM) (3 : Int32).toNatClampNeg = (qSt nM oM sM gM knM loM lfM) 3 from congrArg (qSt nM oM sM gM knM loM lfM) (nI_clamp (n := 3) (by decide))) ?_
      refine k_sti (show (qSt nM oM sM gM knM loM lfM) 3 = gM 3 from mSt_g (k := 3) (by decide)) ?_
      refine k_icmp_gt (tgt := 39) (q := 35) C dL_close_32 (by decide) rfl ?_ ?_
      · intro c_32
        refine k_iconst (q := 40) (v := 0) C dL_close_39 (by decide) rfl ?_
        exact k_fin E dL_close_40 (bI_f (fun q => Int32.not_le.mpr c_32 (sClose_2 q))) (rfl)
      · intro c_32
        have c_32 := Int32.not_lt.mp c_32
        refine k_iconst (q := 36) (v := 1) C dL_close_35 (by decide) rfl ?_
        refine k_goto (q := 40) C dL_close_36 (by decide) ?_
        exact k_fin E dL_close_40 (bI_t (sClose_i (mPair_i ho c_7 c_17) c_32)) (rfl)
