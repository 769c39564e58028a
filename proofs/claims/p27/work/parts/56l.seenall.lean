abbrev rm_L_seenAll : Room := { frames := 1, cells := 0, slots := 0, locals := 23 }
set_option maxHeartbeats 4000000 in
set_option maxRecDepth 100000 in
theorem lp_L_seenAll_4 (cy : Nat → ClassId) (e : Nat → Nat) (nM : Nat) (oM : Nat → Int32) (sM : Nat → Int32) (gM : Nat → Int32) (knM : Nat) (loM : Int32) (lfM : Int32) (hM : Nat → Int32) (tM : Nat → Int32) (lM : Nat → Int32) (bM : Nat → Int32) (rM : Nat → Int32) (z : Int32)  (hn : nM ≤ 6) (hb : lB nM hM tM z bM) (X : kX) (hR : xR X = rm_L_seenAll) (C : kC X 4 RL cL_seenAll wsL_seenAll cy) (E : kEnd X 4 cL_seenAll (mSpots oM hM tM gM z nM) (wLa e cy (qSt nM oM sM gM knM loM lfM) hM tM lM bM rM)) : ∀ (fu : Nat) (k : Nat), nM - k < fu → (k ≤ nM) → kG X 4 0 0 (wLa e cy (qSt nM oM sM gM knM loM lfM) hM tM lM bM rM) 4 [(0, .ref (e 0)), (1, .ref (e 4)), (2, .int (mSpots oM hM tM gM z k)), (3, .int (nI k))] [] := by
  intro fu
  induction fu with
  | zero => intro k hfu; exact absurd hfu (Nat.not_lt_zero _)
  | succ fu ih =>
    intro k hfu hk
    refine k_iload_n (q := 5) C 3 dL_seenAll_4 rfl rfl ?_
    refine k_aload_n (q := 6) C 0 dL_seenAll_5 rfl rfl ?_
    refine k_bipush (q := 8) (v := 8) C dL_seenAll_6 (by decide +kernel) rfl ?_
    refine k_iald (q := 9) C 0 rfl (vp_in_nI (n := 8) (by decide) (by decide)) dL_seenAll_8 rfl ?_
    refine k_sti (show (qSt nM oM sM gM knM loM lfM) (8 : Int32).toNatClampNeg = (qSt nM oM sM gM knM loM lfM) 8 from congrArg (qSt nM oM sM gM knM loM lfM) (nI_clamp (n := 8) (by decide))) ?_
    refine k_sti (show (qSt nM oM sM gM knM loM lfM) 8 = nI nM from rfl) ?_
    refine k_nicmp_ge (a := k) (b := nM)  (tgt := 52) (q := 12) C dL_seenAll_9 (by decide) rfl (by omega) (by omega) ?_ ?_
    · intro c_9
      obtain rfl : nM = k := by omega
      refine k_iload_n (q := 53) C 2 dL_seenAll_52 rfl rfl ?_
      exact k_fin E dL_seenAll_53 (rfl) (rfl)
    · intro c_9
      refine k_iload_n (q := 13) C 2 dL_seenAll_12 rfl rfl ?_
      refine k_iconst (q := 14) (v := 0) C dL_seenAll_13 (by decide) rfl ?_
      refine k_iload_n (q := 15) C 3 dL_seenAll_14 rfl rfl ?_
      refine k_aload_n (q := 16) C 0 dL_seenAll_15 rfl rfl ?_
      refine k_aload_n (q := 17) C 1 dL_seenAll_16 rfl rfl ?_
      refine k_callSI (n := 4) (q := 20) (pre := ([] : va_W)) (post := ([] : va_W)) (w2 := (wLa e cy (qSt nM oM sM gM knM loM lfM) hM tM lM bM rM)) (As := [.int 0, .int (nI k), .ref (e 0), .ref (e 4)]) (rest := [.int (mSpots oM hM tM gM z k)]) C (c_L_seen cy e nM oM sM gM knM loM lfM hM tM lM bM rM 0 k z (by decide) hn (by omega) hb) gL_seenAll_L_seen rfl rfl rfl (by decide +kernel) (k_room hR (by decide)) ⟨Nat.zero_le _, Nat.zero_le _⟩  rfl rfl (Nat.le_of_ble_eq_true rfl) ((List.append_nil _).symm) (List.append_nil _) dL_seenAll_17 rfl ?_
      have J_20 : kG X 4 0 0 (wLa e cy (qSt nM oM sM gM knM loM lfM) hM tM lM bM rM) 28 [(0, .ref (e 0)), (1, .ref (e 4)), (2, .int (mSpots oM hM tM gM z k)), (3, .int (nI k))] [.int (bI (oM 0 = 1 ∧ sSeen hM tM gM z k = true)), .int (mSpots oM hM tM gM z k)] := by
        refine k_iconst (q := 29) (v := 1) C dL_seenAll_28 (by decide) rfl ?_
        refine k_iload_n (q := 30) C 3 dL_seenAll_29 rfl rfl ?_
        refine k_aload_n (q := 31) C 0 dL_seenAll_30 rfl rfl ?_
        refine k_aload_n (q := 32) C 1 dL_seenAll_31 rfl rfl ?_
        refine k_callSI (n := 4) (q := 35) (pre := ([] : va_W)) (post := ([] : va_W)) (w2 := (wLa e cy (qSt nM oM sM gM knM loM lfM) hM tM lM bM rM)) (As := [.int 1, .int (nI k), .ref (e 0), .ref (e 4)]) (rest := [.int (bI (oM 0 = 1 ∧ sSeen hM tM gM z k = true)), .int (mSpots oM hM tM gM z k)]) C (c_L_seen cy e nM oM sM gM knM loM lfM hM tM lM bM rM 1 k z (by decide) hn (by omega) hb) gL_seenAll_L_seen rfl rfl rfl (by decide +kernel) (k_room hR (by decide)) ⟨Nat.zero_le _, Nat.zero_le _⟩  rfl rfl (Nat.le_of_ble_eq_true rfl) ((List.append_nil _).symm) (List.append_nil _) dL_seenAll_32 rfl ?_
        have J_35 : kG X 4 0 0 (wLa e cy (qSt nM oM sM gM knM loM lfM) hM tM lM bM rM) 43 [(0, .ref (e 0)), (1, .ref (e 4)), (2, .int (mSpots oM hM tM gM z k)), (3, .int (nI k))] [.int (bI (oM 1 = 1 ∧ sSeen hM tM gM z k = true)), .int (bI (oM 0 = 1 ∧ sSeen hM tM gM z k = true)), .int (mSpots oM hM tM gM z k)] := by
          refine k_iadd (q := 44) C dL_seenAll_43 rfl ?_
          refine k_iadd (q := 45) C dL_seenAll_44 rfl ?_
          refine k_istore_n (q := 46) (fr2 := [(2, .int ((mSpots oM hM tM gM z k) + ((bI (oM 0 = 1 ∧ sSeen hM tM gM z k = true)) + (bI (oM 1 = 1 ∧ sSeen hM tM gM z k = true))))), (0, .ref (e 0)), (1, .ref (e 4)), (3, .int (nI k))]) C dL_seenAll_45 (by decide) rfl rfl ?_
          refine k_iinc (q := 49) (v := nI (k + 1)) (fr2 := [(3, .int (nI (k + 1))), (2, .int ((mSpots oM hM tM gM z k) + ((bI (oM 0 = 1 ∧ sSeen hM tM gM z k = true)) + (bI (oM 1 = 1 ∧ sSeen hM tM gM z k = true))))), (0, .ref (e 0)), (1, .ref (e 4))]) C 3 dL_seenAll_46 rfl (nI_add k 1) (by decide) rfl rfl ?_
          refine k_goto (q := 4) C dL_seenAll_49 (by decide) ?_
          refine k_fr (fr2 := [(0, .ref (e 0)), (1, .ref (e 4)), (2, .int ((mSpots oM hM tM gM z k) + ((bI (oM 0 = 1 ∧ sSeen hM tM gM z k = true)) + (bI (oM 1 = 1 ∧ sSeen hM tM gM z k = true))))), (3, .int (nI (k + 1)))]) ⟨[2, 3, 1, 0], rfl⟩ ?_
          exact ih (k + 1) (by omega) (by omega)
        refine k_ifB_eq (tgt := 42) (q := 38) C dL_seenAll_35 (by decide) rfl ?_ ?_
        · intro c_35
          refine k_iconst (q := 43) (v := 0) C dL_seenAll_42 (by decide) rfl ?_
          exact k_sti (show 0 = bI (oM 1 = 1 ∧ sSeen hM tM gM z k = true) from bI_f c_35) J_35
        · intro c_35
          refine k_iconst (q := 39) (v := 1) C dL_seenAll_38 (by decide) rfl ?_
          refine k_goto (q := 43) C dL_seenAll_39 (by decide) ?_
          exact k_sti (show 1 = bI (oM 1 = 1 ∧ sSeen hM tM gM z k = true) from bI_t c_35) J_35
      refine k_ifB_eq (tgt := 27) (q := 23) C dL_seenAll_20 (by decide) rfl ?_ ?_
      · intro c_20
        refine k_iconst (q := 28) (v := 0) C dL_seenAll_27 (by decide) rfl ?_
        exact k_sti (show 0 = bI (oM 0 = 1 ∧ sSeen hM tM gM z k = true) from bI_f c_20) J_20
      · intro c_20
        refine k_iconst (q := 24) (v := 1) C dL_seenAll_23 (by decide) rfl ?_
        refine k_goto (q := 28) C dL_seenAll_24 (by decide) ?_
        exact k_sti (show 1 = bI (oM 0 = 1 ∧ sSeen hM tM gM z k = true) from bI_t c_20) J_20
set_option maxHeartbeats 4000000 in
set_option maxRecDepth 100000 in
theorem c_L_seenAll (cy : Nat → ClassId) (e : Nat → Nat) (nM : Nat) (oM : Nat → Int32) (sM : Nat → Int32) (gM : Nat → Int32) (knM : Nat) (loM : Int32) (lfM : Int32) (hM : Nat → Int32) (tM : Nat → Int32) (lM : Nat → Int32) (bM : Nat → Int32) (rM : Nat → Int32) (z : Int32)  (hn : nM ≤ 6) (hb : lB nM hM tM z bM) : kI yL_seenAll wsL_seenAll rm_L_seenAll cy [.ref (e 0), .ref (e 4)] (wLa e cy (qSt nM oM sM gM knM loM lfM) hM tM lM bM rM) (mSpots oM hM tM gM z nM) (wLa e cy (qSt nM oM sM gM knM loM lfM) hM tM lM bM rM) := by
  refine kI_of (cc := cL_seenAll) (maxL := 4) (rt := .int) (by decide) rfl (rfl) (Nat.le_of_ble_eq_true rfl) ?_
  intro X hR C E
  have C : kC X 4 RL cL_seenAll wsL_seenAll cy := C
  refine k_fr (fr2 := [(0, .ref (e 0)), (1, .ref (e 4))]) ⟨[0, 1], rfl⟩ ?_
  refine k_iconst (q := 1) (v := 0) C dL_seenAll_0 (by decide) rfl ?_
  refine k_istore_n (q := 2) (fr2 := [(2, .int 0), (0, .ref (e 0)), (1, .ref (e 4))]) C dL_seenAll_1 (by decide) rfl rfl ?_
  refine k_iconst (q := 3) (v := 0) C dL_seenAll_2 (by decide) rfl ?_
  refine k_istore_n (q := 4) (fr2 := [(3, .int 0), (2, .int 0), (0, .ref (e 0)), (1, .ref (e 4))]) C dL_seenAll_3 (by decide) rfl rfl ?_
  refine k_fr (fr2 := [(0, .ref (e 0)), (1, .ref (e 4)), (2, .int 0), (3, .int 0)]) ⟨[2, 3, 1, 0], rfl⟩ ?_
  exact lp_L_seenAll_4 cy e nM oM sM gM knM loM lfM hM tM lM bM rM z hn hb X hR C E _ 0 (Nat.lt_succ_self _) (by omega)
