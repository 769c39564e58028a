abbrev rm_L_seen : Room := { frames := 0, cells := 0, slots := 0, locals := 0 }
set_option maxHeartbeats 4000000 in
set_option maxRecDepth 100000 in
theorem c_L_seen (cy : Nat → ClassId) (e : Nat → Nat) (nM : Nat) (oM : Nat → Int32) (sM : Nat → Int32) (gM : Nat → Int32) (knM : Nat) (loM : Int32) (lfM : Int32) (hM : Nat → Int32) (tM : Nat → Int32) (lM : Nat → Int32) (bM : Nat → Int32) (rM : Nat → Int32) (j : Nat) (p : Nat) (z : Int32)  (hj : j < 2) (hn : nM ≤ 6) (hp : p < nM) (hb : lB nM hM tM z bM) : kI yL_seen wsL_seen rm_L_seen cy [.int (nI j), .int (nI p), .ref (e 0), .ref (e 4)] (wLa e cy (qSt nM oM sM gM knM loM lfM) hM tM lM bM rM) (bI (oM j = 1 ∧ sSeen hM tM gM z p = true)) (wLa e cy (qSt nM oM sM gM knM loM lfM) hM tM lM bM rM) := by
  refine kI_of (cc := cL_seen) (maxL := 4) (rt := .boolean) (by decide) rfl (kb_nar _) (Nat.le_of_ble_eq_true rfl) ?_
  intro X hR C E
  have C : kC X 4 RL cL_seen wsL_seen cy := C
  refine k_fr (fr2 := [(0, .int (nI j)), (1, .int (nI p)), (2, .ref (e 0)), (3, .ref (e 4))]) ⟨[0, 1, 2, 3], rfl⟩ ?_
  refine k_aload_n (q := 1) C 2 dL_seen_0 rfl rfl ?_
  refine k_bipush (q := 3) (v := 6) C dL_seen_1 (by decide +kernel) rfl ?_
  refine k_iload_n (q := 4) C 0 dL_seen_3 rfl rfl ?_
  refine k_iadd (q := 5) C dL_seen_4 rfl ?_
  refine k_sti (show 6 + (nI j) = nI (6 + j) from nI_add 6 j) ?_
  refine k_iald (q := 6) C 0 rfl (vp_in_nI (n := 6 + j) (by omega) (by decide)) dL_seen_5 rfl ?_
  refine k_sti (show (qSt nM oM sM gM knM loM lfM) (nI (6 + j)).toNatClampNeg = (qSt nM oM sM gM knM loM lfM) (6 + j) from congrArg (qSt nM oM sM gM knM loM lfM) (nI_clamp (n := 6 + j) (by omega))) ?_
  refine k_sti (show (qSt nM oM sM gM knM loM lfM) (6 + j) = oM j from mSt_o (k := j) (by omega)) ?_
  refine k_iconst (q := 7) (v := 1) C dL_seen_6 (by decide) rfl ?_
  refine k_icmp_ne (tgt := 33) (q := 10) C dL_seen_7 (by decide) rfl ?_ ?_
  · intro c_7
    refine k_iconst (q := 34) (v := 0) C dL_seen_33 (by decide) rfl ?_
    exact k_fin E dL_seen_34 (by first | exact bI_f (fun q => c_7 q.1) | exact bI_f (fun q => Int32.not_le.mpr c_26 (of_decide_eq_true q.2)) | exact bI_t ⟨c_7, decide_eq_true c_26⟩) (rfl)
  · intro c_7
    refine k_aload_n (q := 11) C 3 dL_seen_10 rfl rfl ?_
    refine k_iconst (q := 12) (v := 2) C dL_seen_11 (by decide) rfl ?_
    refine k_iload_n (q := 13) C 1 dL_seen_12 rfl rfl ?_
    refine k_imul (q := 14) C dL_seen_13 rfl ?_
    refine k_sti (show 2 * (nI p) = nI (2 * p) from pk_mul 2 p) ?_
    refine k_iald (q := 15) C 4 rfl (vp_in_nI (n := 2 * p) (by omega) (by decide)) dL_seen_14 rfl ?_
    refine k_sti (show bM (nI (2 * p)).toNatClampNeg = bM (2 * p) from congrArg bM (nI_clamp (n := 2 * p) (by omega))) ?_
    refine k_sti (show bM (2 * p) = sCo hM tM z p from (hb p hp).1) ?_
    refine k_aload_n (q := 16) C 3 dL_seen_15 rfl rfl ?_
    refine k_iconst (q := 17) (v := 2) C dL_seen_16 (by decide) rfl ?_
    refine k_iload_n (q := 18) C 1 dL_seen_17 rfl rfl ?_
    refine k_imul (q := 19) C dL_seen_18 rfl ?_
    refine k_sti (show 2 * (nI p) = nI (2 * p) from pk_mul 2 p) ?_
    refine k_iconst (q := 20) (v := 1) C dL_seen_19 (by decide) rfl ?_
    refine k_iadd (q := 21) C dL_seen_20 rfl ?_
    refine k_sti (show (nI (2 * p)) + 1 = nI (2 * p + 1) from nI_add (2 * p) 1) ?_
    refine k_iald (q := 22) C 4 rfl (vp_in_nI (n := 2 * p + 1) (by omega) (by decide)) dL_seen_21 rfl ?_
    refine k_sti (show bM (nI (2 * p + 1)).toNatClampNeg = bM (2 * p + 1) from congrArg bM (nI_clamp (n := 2 * p + 1) (by omega))) ?_
    refine k_sti (show bM (2 * p + 1) = sCo hM tM z p - sBr hM tM z p from (hb p hp).2) ?_
    refine k_isub (q := 23) C dL_seen_22 rfl ?_
    refine k_sti (show (sCo hM tM z p) - (sCo hM tM z p - sBr hM tM z p) = sBr hM tM z p from i32_sub_sub _ _) ?_
    refine k_aload_n (q := 24) C 2 dL_seen_23 rfl rfl ?_
    refine k_iconst (q := 25) (v := 2) C dL_seen_24 (by decide) rfl ?_
    refine k_iald (q := 26) C 0 rfl (vp_in_nI (n := 2) (by decide) (by decide)) dL_seen_25 rfl ?_
    refine k_sti (show (qSt nM oM sM gM knM loM lfM) (2 : Int32).toNatClampNeg = (qSt nM oM sM gM knM loM lfM) 2 from congrArg (qSt nM oM sM gM knM loM lfM) (nI_clamp (n := 2) (by decide))) ?_
    refine k_sti (show (qSt nM oM sM gM knM loM lfM) 2 = gM 2 from mSt_g (k := 2) (by decide)) ?_
    refine k_icmp_lt (tgt := 33) (q := 29) C dL_seen_26 (by decide) rfl ?_ ?_
    · intro c_26
      refine k_iconst (q := 34) (v := 0) C dL_seen_33 (by decide) rfl ?_
      exact k_fin E dL_seen_34 (by first | exact bI_f (fun q => c_7 q.1) | exact bI_f (fun q => Int32.not_le.mpr c_26 (of_decide_eq_true q.2)) | exact bI_t ⟨c_7, decide_eq_true c_26⟩) (rfl)
    · intro c_26
      have c_26 := Int32.not_lt.mp c_26
      refine k_iconst (q := 30) (v := 1) C dL_seen_29 (by decide) rfl ?_
      refine k_goto (q := 34) C dL_seen_30 (by decide) ?_
      exact k_fin E dL_seen_34 (by first | exact bI_f (fun q => c_7 q.1) | exact bI_f (fun q => Int32.not_le.mpr c_26 (of_decide_eq_true q.2)) | exact bI_t ⟨c_7, decide_eq_true c_26⟩) (rfl)
