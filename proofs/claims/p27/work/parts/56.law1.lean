abbrev rm_L_size : Room := { frames := 0, cells := 0, slots := 0, locals := 0 }
set_option maxHeartbeats 4000000 in
set_option maxRecDepth 100000 in
theorem c_L_size {cy : Nat → ClassId} (x : Int32)   : kI yL_size wsL_size rm_L_size cy [.int x] ([] : va_W) (mAbs x) ([] : va_W) := by
  refine kI_of (cc := cL_size) (maxL := 1) (rt := .int) (by decide) rfl (rfl) (Nat.le_of_ble_eq_true rfl) ?_
  intro X hR C E
  have C : kC X 1 RL cL_size wsL_size cy := C
  refine k_fr (fr2 := [(0, .int x)]) ⟨[0], rfl⟩ ?_
  refine k_iload_n (q := 1) C 0 dL_size_0 rfl rfl ?_
  refine k_if_ge (tgt := 9) (q := 4) C dL_size_1 (by decide) rfl ?_ ?_
  · intro c_1
    refine k_iload_n (q := 10) C 0 dL_size_9 rfl rfl ?_
    exact k_fin E dL_size_10 (by first | exact (mAbs_sz x).1 c_1 | exact (mAbs_sz x).2 (Int32.not_lt.mpr c_1)) (rfl)
  · intro c_1
    refine k_iload_n (q := 5) C 0 dL_size_4 rfl rfl ?_
    refine k_ineg (q := 6) C dL_size_5 rfl ?_
    refine k_goto (q := 10) C dL_size_6 (by decide) ?_
    exact k_fin E dL_size_10 (by first | exact (mAbs_sz x).1 c_1 | exact (mAbs_sz x).2 (Int32.not_lt.mpr c_1)) (rfl)
abbrev rm_L_low : Room := { frames := 0, cells := 0, slots := 0, locals := 0 }
set_option maxHeartbeats 4000000 in
set_option maxRecDepth 100000 in
theorem c_L_low {cy : Nat → ClassId} (x : Int32) (m : Nat)  (hm : 0 < m) (hm2 : m < 2 ^ 31) : kI yL_low wsL_low rm_L_low cy [.int x, .int (nI m)] ([] : va_W) (nI (lowN x m)) ([] : va_W) := by
  refine kI_of (cc := cL_low) (maxL := 2) (rt := .int) (by decide) rfl (rfl) (Nat.le_of_ble_eq_true rfl) ?_
  intro X hR C E
  have C : kC X 2 RL cL_low wsL_low cy := C
  refine k_fr (fr2 := [(0, .int x), (1, .int (nI m))]) ⟨[0, 1], rfl⟩ ?_
  refine k_iload_n (q := 1) C 0 dL_low_0 rfl rfl ?_
  refine k_ldc (q := 3) (v := 2147483647) C (List.mem_of_getElem? (i := 1) rfl) dL_low_1 rfl ?_
  refine k_iand (q := 4) C dL_low_3 rfl ?_
  refine k_iload_n (q := 5) C 1 dL_low_4 rfl rfl ?_
  refine k_irem (q := 6) C dL_low_5 (nI_ne0 hm hm2) rfl ?_
  exact k_fin E dL_low_6 (low_eq x hm hm2) (rfl)
abbrev rm_L_place : Room := { frames := 0, cells := 0, slots := 0, locals := 0 }
set_option maxHeartbeats 4000000 in
set_option maxRecDepth 100000 in
theorem c_L_place (cy : Nat → ClassId) (e : Nat → Nat) (nM : Nat) (oM : Nat → Int32) (sM : Nat → Int32) (gM : Nat → Int32) (knM : Nat) (loM : Int32) (lfM : Int32) (hM : Nat → Int32) (tM : Nat → Int32) (lM : Nat → Int32) (bM : Nat → Int32) (rM : Nat → Int32) (j : Nat) (p : Nat)  (hj : j < 2) (hp : p < 6) : kI yL_place wsL_place rm_L_place cy [.int (nI j), .int (nI p), .ref (e 0), .ref (e 1)] (wLa e cy (qSt nM oM sM gM knM loM lfM) hM tM lM bM rM) (sPlace gM (nI j) (sM j) (hM p)) (wLa e cy (qSt nM oM sM gM knM loM lfM) hM tM lM bM rM) := by
  refine kI_of (cc := cL_place) (maxL := 4) (rt := .int) (by decide) rfl (rfl) (Nat.le_of_ble_eq_true rfl) ?_
  intro X hR C E
  have C : kC X 4 RL cL_place wsL_place cy := C
  refine k_fr (fr2 := [(0, .int (nI j)), (1, .int (nI p)), (2, .ref (e 0)), (3, .ref (e 1))]) ⟨[0, 1, 2, 3], rfl⟩ ?_
  refine k_iload_n (q := 1) C 0 dL_place_0 rfl rfl ?_
  refine k_aload_n (q := 2) C 2 dL_place_1 rfl rfl ?_
  refine k_iconst (q := 3) (v := 0) C dL_place_2 (by decide) rfl ?_
  refine k_iald (q := 4) C 0 rfl (vp_in_nI (n := 0) (by decide) (by decide)) dL_place_3 rfl ?_
  refine k_st (st2 := (.int ((qSt nM oM sM gM knM loM lfM) 0) :: _)) (congrArg (fun z => Value.int z :: _) (show (qSt nM oM sM gM knM loM lfM) (0 : Int32).toNatClampNeg = (qSt nM oM sM gM knM loM lfM) 0 from congrArg (qSt nM oM sM gM knM loM lfM) (nI_clamp (n := 0) (by decide)))) ?_
  refine k_st (st2 := (.int (gM 0) :: _)) (congrArg (fun z => Value.int z :: _) (show (qSt nM oM sM gM knM loM lfM) 0 = gM 0 from mSt_g (k := 0) (by decide))) ?_
  refine k_imul (q := 5) C dL_place_4 rfl ?_
  refine k_aload_n (q := 6) C 2 dL_place_5 rfl rfl ?_
  refine k_iconst (q := 7) (v := 4) C dL_place_6 (by decide) rfl ?_
  refine k_iload_n (q := 8) C 0 dL_place_7 rfl rfl ?_
  refine k_iadd (q := 9) C dL_place_8 rfl ?_
  refine k_st (st2 := (.int (nI (4 + j)) :: _)) (congrArg (fun z => Value.int z :: _) (show 4 + (nI j) = nI (4 + j) from nI_add 4 j)) ?_
  refine k_iald (q := 10) C 0 rfl (vp_in_nI (n := 4 + j) (by omega) (by decide)) dL_place_9 rfl ?_
  refine k_st (st2 := (.int ((qSt nM oM sM gM knM loM lfM) (4 + j)) :: _)) (congrArg (fun z => Value.int z :: _) (show (qSt nM oM sM gM knM loM lfM) (nI (4 + j)).toNatClampNeg = (qSt nM oM sM gM knM loM lfM) (4 + j) from congrArg (qSt nM oM sM gM knM loM lfM) (nI_clamp (n := 4 + j) (by omega)))) ?_
  refine k_st (st2 := (.int (sM j) :: _)) (congrArg (fun z => Value.int z :: _) (show (qSt nM oM sM gM knM loM lfM) (4 + j) = sM j from mSt_s (k := j) (by omega))) ?_
  refine k_aload_n (q := 11) C 3 dL_place_10 rfl rfl ?_
  refine k_iload_n (q := 12) C 1 dL_place_11 rfl rfl ?_
  refine k_iald (q := 13) C 1 rfl (vp_in_nI (n := p) (by omega) (by decide)) dL_place_12 rfl ?_
  refine k_st (st2 := (.int (hM p) :: _)) (congrArg (fun z => Value.int z :: _) (show hM (nI p).toNatClampNeg = hM p from congrArg hM (nI_clamp (n := p) (by omega)))) ?_
  refine k_imul (q := 14) C dL_place_13 rfl ?_
  refine k_bipush (q := 16) (v := 10) C dL_place_14 (by decide +kernel) rfl ?_
  refine k_idiv (q := 17) C dL_place_16 (by decide) rfl ?_
  refine k_iadd (q := 18) C dL_place_17 rfl ?_
  exact k_fin E dL_place_18 (lPl (g := gM) (s := sM) (h := hM) (j := j) (p := p) hj) (rfl)
abbrev rm_L_apart : Room := { frames := 1, cells := 0, slots := 0, locals := 23 }
set_option maxHeartbeats 4000000 in
set_option maxRecDepth 100000 in
theorem c_L_apart (cy : Nat → ClassId) (e : Nat → Nat) (nM : Nat) (oM : Nat → Int32) (sM : Nat → Int32) (gM : Nat → Int32) (knM : Nat) (loM : Int32) (lfM : Int32) (hM : Nat → Int32) (tM : Nat → Int32) (lM : Nat → Int32) (bM : Nat → Int32) (rM : Nat → Int32) (p : Nat)  (hp : p < 6) : kI yL_apart wsL_apart rm_L_apart cy [.int (nI p), .ref (e 0), .ref (e 1)] (wLa e cy (qSt nM oM sM gM knM loM lfM) hM tM lM bM rM) (sDist hM gM p (sM 0) (sM 1)) (wLa e cy (qSt nM oM sM gM knM loM lfM) hM tM lM bM rM) := by
  refine kI_of (cc := cL_apart) (maxL := 3) (rt := .int) (by decide) rfl (rfl) (Nat.le_of_ble_eq_true rfl) ?_
  intro X hR C E
  have C : kC X 3 RL cL_apart wsL_apart cy := C
  refine k_fr (fr2 := [(0, .int (nI p)), (1, .ref (e 0)), (2, .ref (e 1))]) ⟨[0, 1, 2], rfl⟩ ?_
  refine k_iconst (q := 1) (v := 1) C dL_apart_0 (by decide) rfl ?_
  refine k_iload_n (q := 2) C 0 dL_apart_1 rfl rfl ?_
  refine k_aload_n (q := 3) C 1 dL_apart_2 rfl rfl ?_
  refine k_aload_n (q := 4) C 2 dL_apart_3 rfl rfl ?_
  refine k_callSI (n := 4) (q := 7) (pre := ([] : va_W)) (post := ([] : va_W)) (w2 := (wLa e cy (qSt nM oM sM gM knM loM lfM) hM tM lM bM rM)) (As := [.int 1, .int (nI p), .ref (e 0), .ref (e 1)]) (rest := []) C (c_L_place cy e nM oM sM gM knM loM lfM hM tM lM bM rM 1 p (by omega) (by omega)) gL_apart_L_place rfl rfl rfl (by decide +kernel) (k_room hR (by decide)) ⟨Nat.zero_le _, Nat.zero_le _⟩  rfl rfl (Nat.le_of_ble_eq_true rfl) ((List.append_nil _).symm) (List.append_nil _) dL_apart_4 rfl ?_
  refine k_iconst (q := 8) (v := 0) C dL_apart_7 (by decide) rfl ?_
  refine k_iload_n (q := 9) C 0 dL_apart_8 rfl rfl ?_
  refine k_aload_n (q := 10) C 1 dL_apart_9 rfl rfl ?_
  refine k_aload_n (q := 11) C 2 dL_apart_10 rfl rfl ?_
  refine k_callSI (n := 4) (q := 14) (pre := ([] : va_W)) (post := ([] : va_W)) (w2 := (wLa e cy (qSt nM oM sM gM knM loM lfM) hM tM lM bM rM)) (As := [.int 0, .int (nI p), .ref (e 0), .ref (e 1)]) (rest := [.int (sPlace gM (nI 1) (sM 1) (hM p))]) C (c_L_place cy e nM oM sM gM knM loM lfM hM tM lM bM rM 0 p (by omega) (by omega)) gL_apart_L_place rfl rfl rfl (by decide +kernel) (k_room hR (by decide)) ⟨Nat.zero_le _, Nat.zero_le _⟩  rfl rfl (Nat.le_of_ble_eq_true rfl) ((List.append_nil _).symm) (List.append_nil _) dL_apart_11 rfl ?_
  refine k_isub (q := 15) C dL_apart_14 rfl ?_
  exact k_fin E dL_apart_15 (rfl) (rfl)
abbrev rm_L_seen : Room := { frames := 0, cells := 0, slots := 0, locals := 0 }
set_option maxHeartbeats 4000000 in
set_option maxRecDepth 100000 in
theorem c_L_seen (cy : Nat → ClassId) (e : Nat → Nat) (nM : Nat) (oM : Nat → Int32) (sM : Nat → Int32) (gM : Nat → Int32) (knM : Nat) (loM : Int32) (lfM : Int32) (hM : Nat → Int32) (tM : Nat → Int32) (lM : Nat → Int32) (bM : Nat → Int32) (rM : Nat → Int32) (j : Nat) (p : Nat) (z : Int32)  (hj : j < 2) (hn : nM ≤ 6) (hp : p < nM) (hb : lB nM hM tM z bM) : kI yL_seen wsL_seen rm_L_seen cy [.int (nI j), .int (nI p), .ref (e 0), .ref (e 4)] (wLa e cy (qSt nM oM sM gM knM loM lfM) hM tM lM bM rM) (bI (oM j = 1 ∧ sSeen hM tM gM z p = true)) (wLa e cy (qSt nM oM sM gM knM loM lfM) hM tM lM bM rM) := by
  refine kI_of (cc := cL_seen) (maxL := 4) (rt := .boolean) (by decide) rfl (kb_nar _) (Nat.le_of_ble_eq_true rfl) ?_
  intro X hR C E
  have C : kC X 4 RL cL_seen wsL_seen cy := C
  refine k_fr (fr2 := [(0, .int (nI j)), (1, .int (nI p)), (2, .ref (e 0)), (3, .ref (e 4))]) ⟨[0, 1, 2, 3], rfl⟩ ?_
  refine k_aload_n (q := 1) C 2 dL_seen_0 rfl rfl ?_
  refine k_bipush (q := 3) (v := 6) C dL_seen_1 (by decide +kernel) rfl ?_
  refine k_iload_n (q := 4) C 0 dL_seen_3 rfl rfl ?_
  refine k_iadd (q := 5) C dL_seen_4 rfl ?_
  refine k_st (st2 := (.int (nI (6 + j)) :: _)) (congrArg (fun z => Value.int z :: _) (show 6 + (nI j) = nI (6 + j) from nI_add 6 j)) ?_
  refine k_iald (q := 6) C 0 rfl (vp_in_nI (n := 6 + j) (by omega) (by decide)) dL_seen_5 rfl ?_
  refine k_st (st2 := (.int ((qSt nM oM sM gM knM loM lfM) (6 + j)) :: _)) (congrArg (fun z => Value.int z :: _) (show (qSt nM oM sM gM knM loM lfM) (nI (6 + j)).toNatClampNeg = (qSt nM oM sM gM knM loM lfM) (6 + j) from congrArg (qSt nM oM sM gM knM loM lfM) (nI_clamp (n := 6 + j) (by omega)))) ?_
  refine k_st (st2 := (.int (oM j) :: _)) (congrArg (fun z => Value.int z :: _) (show (qSt nM oM sM gM knM loM lfM) (6 + j) = oM j from mSt_o (k := j) (by omega))) ?_
  refine k_iconst (q := 7) (v := 1) C dL_seen_6 (by decide) rfl ?_
  refine k_icmp_ne (tgt := 33) (q := 10) C dL_seen_7 (by decide) rfl ?_ ?_
  · intro c_7
    refine k_iconst (q := 34) (v := 0) C dL_seen_33 (by decide) rfl ?_
    exact k_fin E dL_seen_34 (by first | exact bI_f (fun q => c_7 q.1) | exact bI_f (fun q => Int32.not_le.mpr c_26 (of_decide_eq_true q.2)) | exact bI_t ⟨c_7, decide_eq_true c_26⟩) (rfl)
  · intro c_7
    refine k_aload_n (q := 11) C 3 dL_seen_10 rfl rfl ?_
    refine k_iconst (q := 12) (v := 2) C dL_seen_11 (by decide) rfl ?_
    refine k_iload_n (q := 13) C 1 dL_seen_12 rfl rfl ?_
    refine k_imul (q := 14) C dL_seen_13 rfl ?_
    refine k_st (st2 := (.int (nI (2 * p)) :: _)) (congrArg (fun z => Value.int z :: _) (show 2 * (nI p) = nI (2 * p) from pk_mul 2 p)) ?_
    refine k_iald (q := 15) C 4 rfl (vp_in_nI (n := 2 * p) (by omega) (by decide)) dL_seen_14 rfl ?_
    refine k_st (st2 := (.int (bM (2 * p)) :: _)) (congrArg (fun z => Value.int z :: _) (show bM (nI (2 * p)).toNatClampNeg = bM (2 * p) from congrArg bM (nI_clamp (n := 2 * p) (by omega)))) ?_
    refine k_st (st2 := (.int (sCo hM tM z p) :: _)) (congrArg (fun z => Value.int z :: _) (show bM (2 * p) = sCo hM tM z p from (hb p hp).1)) ?_
    refine k_aload_n (q := 16) C 3 dL_seen_15 rfl rfl ?_
    refine k_iconst (q := 17) (v := 2) C dL_seen_16 (by decide) rfl ?_
    refine k_iload_n (q := 18) C 1 dL_seen_17 rfl rfl ?_
    refine k_imul (q := 19) C dL_seen_18 rfl ?_
    refine k_st (st2 := (.int (nI (2 * p)) :: _)) (congrArg (fun z => Value.int z :: _) (show 2 * (nI p) = nI (2 * p) from pk_mul 2 p)) ?_
    refine k_iconst (q := 20) (v := 1) C dL_seen_19 (by decide) rfl ?_
    refine k_iadd (q := 21) C dL_seen_20 rfl ?_
    refine k_st (st2 := (.int (nI (2 * p + 1)) :: _)) (congrArg (fun z => Value.int z :: _) (show (nI (2 * p)) + 1 = nI (2 * p + 1) from nI_add (2 * p) 1)) ?_
    refine k_iald (q := 22) C 4 rfl (vp_in_nI (n := 2 * p + 1) (by omega) (by decide)) dL_seen_21 rfl ?_
    refine k_st (st2 := (.int (bM (2 * p + 1)) :: _)) (congrArg (fun z => Value.int z :: _) (show bM (nI (2 * p + 1)).toNatClampNeg = bM (2 * p + 1) from congrArg bM (nI_clamp (n := 2 * p + 1) (by omega)))) ?_
    refine k_st (st2 := (.int (sCo hM tM z p - sBr hM tM z p) :: _)) (congrArg (fun z => Value.int z :: _) (show bM (2 * p + 1) = sCo hM tM z p - sBr hM tM z p from (hb p hp).2)) ?_
    refine k_isub (q := 23) C dL_seen_22 rfl ?_
    refine k_st (st2 := (.int (sBr hM tM z p) :: _)) (congrArg (fun z => Value.int z :: _) (show (sCo hM tM z p) - (sCo hM tM z p - sBr hM tM z p) = sBr hM tM z p from i32_sub_sub _ _)) ?_
    refine k_aload_n (q := 24) C 2 dL_seen_23 rfl rfl ?_
    refine k_iconst (q := 25) (v := 2) C dL_seen_24 (by decide) rfl ?_
    refine k_iald (q := 26) C 0 rfl (vp_in_nI (n := 2) (by decide) (by decide)) dL_seen_25 rfl ?_
    refine k_st (st2 := (.int ((qSt nM oM sM gM knM loM lfM) 2) :: _)) (congrArg (fun z => Value.int z :: _) (show (qSt nM oM sM gM knM loM lfM) (2 : Int32).toNatClampNeg = (qSt nM oM sM gM knM loM lfM) 2 from congrArg (qSt nM oM sM gM knM loM lfM) (nI_clamp (n := 2) (by decide)))) ?_
    refine k_st (st2 := (.int (gM 2) :: _)) (congrArg (fun z => Value.int z :: _) (show (qSt nM oM sM gM knM loM lfM) 2 = gM 2 from mSt_g (k := 2) (by decide))) ?_
    refine k_icmp_lt (tgt := 33) (q := 29) C dL_seen_26 (by decide) rfl ?_ ?_
    · intro c_26
      refine k_iconst (q := 34) (v := 0) C dL_seen_33 (by decide) rfl ?_
      exact k_fin E dL_seen_34 (by first | exact bI_f (fun q => c_7 q.1) | exact bI_f (fun q => Int32.not_le.mpr c_26 (of_decide_eq_true q.2)) | exact bI_t ⟨c_7, decide_eq_true c_26⟩) (rfl)
    · intro c_26
      refine k_iconst (q := 30) (v := 1) C dL_seen_29 (by decide) rfl ?_
      refine k_goto (q := 34) C dL_seen_30 (by decide) ?_
      exact k_fin E dL_seen_34 (by first | exact bI_f (fun q => c_7 q.1) | exact bI_f (fun q => Int32.not_le.mpr c_26 (of_decide_eq_true q.2)) | exact bI_t ⟨c_7, decide_eq_true c_26⟩) (rfl)
abbrev rm_L_close : Room := { frames := 2, cells := 0, slots := 0, locals := 45 }
set_option maxHeartbeats 4000000 in
set_option maxRecDepth 100000 in
theorem c_L_close (cy : Nat → ClassId) (e : Nat → Nat) (nM : Nat) (oM : Nat → Int32) (sM : Nat → Int32) (gM : Nat → Int32) (knM : Nat) (loM : Int32) (lfM : Int32) (hM : Nat → Int32) (tM : Nat → Int32) (lM : Nat → Int32) (bM : Nat → Int32) (rM : Nat → Int32) (p : Nat)  (hn : nM ≤ 6) (hp : p < nM) (hb : lB nM hM tM (gM 1) bM) (ho : mBin oM) : kI yL_close wsL_close rm_L_close cy [.int (nI p), .ref (e 0), .ref (e 1), .ref (e 4)] (wLa e cy (qSt nM oM sM gM knM loM lfM) hM tM lM bM rM) (bI (sClose (mLit oM) hM tM sM gM p = true)) (wLa e cy (qSt nM oM sM gM knM loM lfM) hM tM lM bM rM) := by
  refine kI_of (cc := cL_close) (maxL := 4) (rt := .boolean) (by decide) rfl (kb_nar _) (Nat.le_of_ble_eq_true rfl) ?_
  intro X hR C E
  have C : kC X 4 RL cL_close wsL_close cy := C
  refine k_fr (fr2 := [(0, .int (nI p)), (1, .ref (e 0)), (2, .ref (e 1)), (3, .ref (e 4))]) ⟨[0, 1, 2, 3], rfl⟩ ?_
  refine k_iconst (q := 1) (v := 0) C dL_close_0 (by decide) rfl ?_
  refine k_iload_n (q := 2) C 0 dL_close_1 rfl rfl ?_
  refine k_aload_n (q := 3) C 1 dL_close_2 rfl rfl ?_
  refine k_aload_n (q := 4) C 3 dL_close_3 rfl rfl ?_
  refine k_callSI (n := 4) (q := 7) (pre := ([] : va_W)) (post := ([] : va_W)) (w2 := (wLa e cy (qSt nM oM sM gM knM loM lfM) hM tM lM bM rM)) (As := [.int 0, .int (nI p), .ref (e 0), .ref (e 4)]) (rest := []) C (c_L_seen cy e nM oM sM gM knM loM lfM hM tM lM bM rM 0 p (gM 1) (by decide) hn hp hb) gL_close_L_seen rfl rfl rfl (by decide +kernel) (k_room hR (by decide)) ⟨Nat.zero_le _, Nat.zero_le _⟩  rfl rfl (Nat.le_of_ble_eq_true rfl) ((List.append_nil _).symm) (List.append_nil _) dL_close_4 rfl ?_
  refine k_ifB_eq (tgt := 39) (q := 10) C dL_close_7 (by decide) rfl ?_ ?_
  · intro c_7
    refine k_iconst (q := 40) (v := 0) C dL_close_39 (by decide) rfl ?_
    exact k_fin E dL_close_40 (by first | exact bI_f (fun q => c_7 (mPair_1 ho (sClose_1 q))) | exact bI_f (fun q => c_17 (mPair_2 ho (sClose_1 q))) | exact bI_f (fun q => Int32.not_le.mpr c_32 (sClose_2 q)) | exact bI_t (sClose_i (mPair_i ho c_7 c_17) c_32)) (rfl)
  · intro c_7
    refine k_iconst (q := 11) (v := 1) C dL_close_10 (by decide) rfl ?_
    refine k_iload_n (q := 12) C 0 dL_close_11 rfl rfl ?_
    refine k_aload_n (q := 13) C 1 dL_close_12 rfl rfl ?_
    refine k_aload_n (q := 14) C 3 dL_close_13 rfl rfl ?_
    refine k_callSI (n := 4) (q := 17) (pre := ([] : va_W)) (post := ([] : va_W)) (w2 := (wLa e cy (qSt nM oM sM gM knM loM lfM) hM tM lM bM rM)) (As := [.int 1, .int (nI p), .ref (e 0), .ref (e 4)]) (rest := []) C (c_L_seen cy e nM oM sM gM knM loM lfM hM tM lM bM rM 1 p (gM 1) (by decide) hn hp hb) gL_close_L_seen rfl rfl rfl (by decide +kernel) (k_room hR (by decide)) ⟨Nat.zero_le _, Nat.zero_le _⟩  rfl rfl (Nat.le_of_ble_eq_true rfl) ((List.append_nil _).symm) (List.append_nil _) dL_close_14 rfl ?_
    refine k_ifB_eq (tgt := 39) (q := 20) C dL_close_17 (by decide) rfl ?_ ?_
    · intro c_17
      refine k_iconst (q := 40) (v := 0) C dL_close_39 (by decide) rfl ?_
      exact k_fin E dL_close_40 (by first | exact bI_f (fun q => c_7 (mPair_1 ho (sClose_1 q))) | exact bI_f (fun q => c_17 (mPair_2 ho (sClose_1 q))) | exact bI_f (fun q => Int32.not_le.mpr c_32 (sClose_2 q)) | exact bI_t (sClose_i (mPair_i ho c_7 c_17) c_32)) (rfl)
    · intro c_17
      refine k_iload_n (q := 21) C 0 dL_close_20 rfl rfl ?_
      refine k_aload_n (q := 22) C 1 dL_close_21 rfl rfl ?_
      refine k_aload_n (q := 23) C 2 dL_close_22 rfl rfl ?_
      refine k_callSI (n := 3) (q := 26) (pre := ([] : va_W)) (post := ([] : va_W)) (w2 := (wLa e cy (qSt nM oM sM gM knM loM lfM) hM tM lM bM rM)) (As := [.int (nI p), .ref (e 0), .ref (e 1)]) (rest := []) C (c_L_apart cy e nM oM sM gM knM loM lfM hM tM lM bM rM p (by omega)) gL_close_L_apart rfl rfl rfl (by decide +kernel) (k_room hR (by decide)) ⟨Nat.zero_le _, Nat.zero_le _⟩  rfl rfl (Nat.le_of_ble_eq_true rfl) ((List.append_nil _).symm) (List.append_nil _) dL_close_23 rfl ?_
      refine k_callSI (n := 1) (q := 29) (pre := ([] : va_W)) (post := (wLa e cy (qSt nM oM sM gM knM loM lfM) hM tM lM bM rM)) (w2 := (wLa e cy (qSt nM oM sM gM knM loM lfM) hM tM lM bM rM)) (As := [.int (sDist hM gM p (sM 0) (sM 1))]) (rest := []) C (c_L_size (sDist hM gM p (sM 0) (sM 1))) gL_close_L_size rfl rfl rfl (by decide +kernel) (k_room hR (by decide)) ⟨Nat.zero_le _, Nat.zero_le _⟩  rfl rfl (Nat.le_of_ble_eq_true rfl) (rfl) (rfl) dL_close_26 rfl ?_
      refine k_aload_n (q := 30) C 1 dL_close_29 rfl rfl ?_
      refine k_iconst (q := 31) (v := 3) C dL_close_30 (by decide) rfl ?_
      refine k_iald (q := 32) C 0 rfl (vp_in_nI (n := 3) (by decide) (by decide)) dL_close_31 rfl ?_
      refine k_st (st2 := (.int ((qSt nM oM sM gM knM loM lfM) 3) :: _)) (congrArg (fun z => Value.int z :: _) (show (qSt nM oM sM gM knM loM lfM) (3 : Int32).toNatClampNeg = (qSt nM oM sM gM knM loM lfM) 3 from congrArg (qSt nM oM sM gM knM loM lfM) (nI_clamp (n := 3) (by decide)))) ?_
      refine k_st (st2 := (.int (gM 3) :: _)) (congrArg (fun z => Value.int z :: _) (show (qSt nM oM sM gM knM loM lfM) 3 = gM 3 from mSt_g (k := 3) (by decide))) ?_
      refine k_icmp_gt (tgt := 39) (q := 35) C dL_close_32 (by decide) rfl ?_ ?_
      · intro c_32
        refine k_iconst (q := 40) (v := 0) C dL_close_39 (by decide) rfl ?_
        exact k_fin E dL_close_40 (by first | exact bI_f (fun q => c_7 (mPair_1 ho (sClose_1 q))) | exact bI_f (fun q => c_17 (mPair_2 ho (sClose_1 q))) | exact bI_f (fun q => Int32.not_le.mpr c_32 (sClose_2 q)) | exact bI_t (sClose_i (mPair_i ho c_7 c_17) c_32)) (rfl)
      · intro c_32
        refine k_iconst (q := 36) (v := 1) C dL_close_35 (by decide) rfl ?_
        refine k_goto (q := 40) C dL_close_36 (by decide) ?_
        exact k_fin E dL_close_40 (by first | exact bI_f (fun q => c_7 (mPair_1 ho (sClose_1 q))) | exact bI_f (fun q => c_17 (mPair_2 ho (sClose_1 q))) | exact bI_f (fun q => Int32.not_le.mpr c_32 (sClose_2 q)) | exact bI_t (sClose_i (mPair_i ho c_7 c_17) c_32)) (rfl)
abbrev rm_L_beams : Room := { frames := 0, cells := 0, slots := 0, locals := 0 }
set_option maxHeartbeats 4000000 in
set_option maxRecDepth 100000 in
theorem lp_L_beams_8 (cy : Nat → ClassId) (e : Nat → Nat) (nM : Nat) (oM : Nat → Int32) (sM : Nat → Int32) (gM : Nat → Int32) (knM : Nat) (loM : Int32) (lfM : Int32) (hM : Nat → Int32) (tM : Nat → Int32) (lM : Nat → Int32) (bM : Nat → Int32) (rM : Nat → Int32) (z : Int32)  (hn : nM ≤ 6) (X : kX) (hR : xR X = rm_L_beams) (C : kC X 9 RL cL_beams wsL_beams cy) (E : kEndV X 9 cL_beams (wLa e cy (qSt nM oM sM gM knM loM lfM) hM tM lM (lBm hM tM z bM nM) rM)) : ∀ (fu : Nat) (k : Nat), nM - k < fu → (k ≤ nM) → kG X 9 0 0 (wLa e cy (qSt nM oM sM gM knM loM lfM) hM tM lM (lBm hM tM z bM k) rM) 8 [(0, .int z), (1, .ref (e 0)), (2, .ref (e 1)), (3, .ref (e 2)), (4, .ref (e 4)), (5, .int (sGo hM tM z k)), (6, .int (nI k))] [] := by
  intro fu
  induction fu with
  | zero => intro k hfu; exact absurd hfu (Nat.not_lt_zero _)
  | succ fu ih =>
    intro k hfu hk
    refine k_iload (q := 10) C 6 dL_beams_8 rfl rfl ?_
    refine k_aload_n (q := 11) C 1 dL_beams_10 rfl rfl ?_
    refine k_bipush (q := 13) (v := 8) C dL_beams_11 (by decide +kernel) rfl ?_
    refine k_iald (q := 14) C 0 rfl (vp_in_nI (n := 8) (by decide) (by decide)) dL_beams_13 rfl ?_
    refine k_st (st2 := (.int ((qSt nM oM sM gM knM loM lfM) 8) :: _)) (congrArg (fun z => Value.int z :: _) (show (qSt nM oM sM gM knM loM lfM) (8 : Int32).toNatClampNeg = (qSt nM oM sM gM knM loM lfM) 8 from congrArg (qSt nM oM sM gM knM loM lfM) (nI_clamp (n := 8) (by decide)))) ?_
    refine k_st (st2 := (.int (nI nM) :: _)) (congrArg (fun z => Value.int z :: _) (show (qSt nM oM sM gM knM loM lfM) 8 = nI nM from rfl)) ?_
    refine k_nicmp_ge (a := k) (b := nM)  (tgt := 115) (q := 17) C dL_beams_14 (by decide) rfl (by omega) (by omega) ?_ ?_
    · intro c_14
      obtain rfl : nM = k := by omega
      exact k_finV E dL_beams_115 (rfl)
    · intro c_14
      refine k_lconst (q := 18) (v := 1) C dL_beams_17 (by decide) rfl ?_
      refine k_iload (q := 20) C 5 dL_beams_18 rfl rfl ?_
      refine k_i2l (q := 21) C dL_beams_20 rfl ?_
      refine k_lmul (q := 22) C dL_beams_21 rfl ?_
      refine k_st (st2 := (.long ((sGo hM tM z k).toInt64) :: _)) (congrArg (fun z => Value.long z :: _) (show 1 * ((sGo hM tM z k).toInt64) = (sGo hM tM z k).toInt64 from Int64.one_mul _)) ?_
      refine k_iload_n (q := 23) C 0 dL_beams_22 rfl rfl ?_
      refine k_i2l (q := 24) C dL_beams_23 rfl ?_
      refine k_lmul (q := 25) C dL_beams_24 rfl ?_
      refine k_aload_n (q := 26) C 2 dL_beams_25 rfl rfl ?_
      refine k_iload (q := 28) C 6 dL_beams_26 rfl rfl ?_
      refine k_iald (q := 29) C 1 rfl (vp_in_nI (n := k) (by omega) (by decide)) dL_beams_28 rfl ?_
      refine k_st (st2 := (.int (hM k) :: _)) (congrArg (fun z => Value.int z :: _) (show hM (nI k).toNatClampNeg = hM k from congrArg hM (nI_clamp (n := k) (by omega)))) ?_
      have J_29 : kG X 9 0 0 (wLa e cy (qSt nM oM sM gM knM loM lfM) hM tM lM (lBm hM tM z bM k) rM) 44 [(0, .int z), (1, .ref (e 0)), (2, .ref (e 1)), (3, .ref (e 2)), (4, .ref (e 4)), (5, .int (sGo hM tM z k)), (6, .int (nI k))] [.int (sLow hM k), .int (hM k), .long (((sGo hM tM z k).toInt64) * z.toInt64)] := by
        refine k_isub (q := 45) C dL_beams_44 rfl ?_
        refine k_i2l (q := 46) C dL_beams_45 rfl ?_
        refine k_lmul (q := 47) C dL_beams_46 rfl ?_
        refine k_ldc2 (q := 50) (v := 10000000) C (List.mem_of_getElem? (i := 1) rfl) dL_beams_47 rfl ?_
        refine k_ldiv (q := 51) C dL_beams_50 (by decide) rfl ?_
        refine k_lstore (q := 53) (fr2 := [(7, .long (((((sGo hM tM z k).toInt64) * z.toInt64) * (((hM k) - (sLow hM k)).toInt64)) / 10000000)), (0, .int z), (1, .ref (e 0)), (2, .ref (e 1)), (3, .ref (e 2)), (4, .ref (e 4)), (5, .int (sGo hM tM z k)), (6, .int (nI k))]) C dL_beams_51 (by decide) rfl rfl ?_
        have J_53 : kG X 9 0 0 (wLa e cy (qSt nM oM sM gM knM loM lfM) hM tM lM (lBm hM tM z bM k) rM) 72 [(7, .long (((((sGo hM tM z k).toInt64) * z.toInt64) * (((hM k) - (sLow hM k)).toInt64)) / 10000000)), (0, .int z), (1, .ref (e 0)), (2, .ref (e 1)), (3, .ref (e 2)), (4, .ref (e 4)), (5, .int (sGo hM tM z k)), (6, .int (nI k))] [.int (sCo hM tM z k)] := by
          refine k_istore (q := 74) (fr2 := [(5, .int (sCo hM tM z k)), (7, .long (((((sGo hM tM z k).toInt64) * z.toInt64) * (((hM k) - (sLow hM k)).toInt64)) / 10000000)), (0, .int z), (1, .ref (e 0)), (2, .ref (e 1)), (3, .ref (e 2)), (4, .ref (e 4)), (6, .int (nI k))]) C dL_beams_72 (by decide) rfl rfl ?_
          refine k_aload (q := 76) C 6 dL_beams_74 rfl rfl ?_
          refine k_iconst (q := 77) (v := 2) C dL_beams_76 (by decide) rfl ?_
          refine k_iload (q := 79) C 7 dL_beams_77 rfl rfl ?_
          refine k_imul (q := 80) C dL_beams_79 rfl ?_
          refine k_st (st2 := (.int (nI (2 * k)) :: _)) (congrArg (fun z => Value.int z :: _) (show 2 * (nI k) = nI (2 * k) from pk_mul 2 k)) ?_
          refine k_iload (q := 82) C 0 dL_beams_80 rfl rfl ?_
          refine k_iast (q := 83) (w2 := (wLa e cy (qSt nM oM sM gM knM loM lfM) hM tM lM (upd (lBm hM tM z bM k) (2 * k) (sCo hM tM z k)) rM)) C 4 rfl (vp_in_nI (n := 2 * k) (by omega) (by decide)) (by rw [nI_clamp (n := 2 * k) (by omega)]; rfl) dL_beams_82 rfl ?_
          refine k_iload (q := 85) C 0 dL_beams_83 rfl rfl ?_
          refine k_iload (q := 87) C 0 dL_beams_85 rfl rfl ?_
          refine k_aload_n (q := 88) C 5 dL_beams_87 rfl rfl ?_
          refine k_iload (q := 90) C 7 dL_beams_88 rfl rfl ?_
          refine k_iald (q := 91) C 2 rfl (vp_in_nI (n := k) (by omega) (by decide)) dL_beams_90 rfl ?_
          refine k_st (st2 := (.int (tM k) :: _)) (congrArg (fun z => Value.int z :: _) (show tM (nI k).toNatClampNeg = tM k from congrArg tM (nI_clamp (n := k) (by omega)))) ?_
          refine k_imul (q := 92) C dL_beams_91 rfl ?_
          refine k_bipush (q := 94) (v := 100) C dL_beams_92 (by decide +kernel) rfl ?_
          refine k_idiv (q := 95) C dL_beams_94 (by decide) rfl ?_
          refine k_isub (q := 96) C dL_beams_95 rfl ?_
          refine k_istore (q := 98) (fr2 := [(5, .int ((sCo hM tM z k) - (((sCo hM tM z k) * (tM k)) / 100))), (7, .long (((((sGo hM tM z k).toInt64) * z.toInt64) * (((hM k) - (sLow hM k)).toInt64)) / 10000000)), (0, .int z), (1, .ref (e 0)), (2, .ref (e 1)), (3, .ref (e 2)), (4, .ref (e 4)), (6, .int (nI k))]) C dL_beams_96 (by decide) rfl rfl ?_
          refine k_aload (q := 100) C 6 dL_beams_98 rfl rfl ?_
          refine k_iconst (q := 101) (v := 2) C dL_beams_100 (by decide) rfl ?_
          refine k_iload (q := 103) C 7 dL_beams_101 rfl rfl ?_
          refine k_imul (q := 104) C dL_beams_103 rfl ?_
          refine k_st (st2 := (.int (nI (2 * k)) :: _)) (congrArg (fun z => Value.int z :: _) (show 2 * (nI k) = nI (2 * k) from pk_mul 2 k)) ?_
          refine k_iconst (q := 105) (v := 1) C dL_beams_104 (by decide) rfl ?_
          refine k_iadd (q := 106) C dL_beams_105 rfl ?_
          refine k_st (st2 := (.int (nI (2 * k + 1)) :: _)) (congrArg (fun z => Value.int z :: _) (show (nI (2 * k)) + 1 = nI (2 * k + 1) from nI_add (2 * k) 1)) ?_
          refine k_iload (q := 108) C 0 dL_beams_106 rfl rfl ?_
          refine k_iast (q := 109) (w2 := (wLa e cy (qSt nM oM sM gM knM loM lfM) hM tM lM (upd (upd (lBm hM tM z bM k) (2 * k) (sCo hM tM z k)) (2 * k + 1) ((sCo hM tM z k) - (((sCo hM tM z k) * (tM k)) / 100))) rM)) C 4 rfl (vp_in_nI (n := 2 * k + 1) (by omega) (by decide)) (by rw [nI_clamp (n := 2 * k + 1) (by omega)]; rfl) dL_beams_108 rfl ?_
          refine k_iinc (q := 112) (v := nI (k + 1)) (fr2 := [(6, .int (nI (k + 1))), (5, .int ((sCo hM tM z k) - (((sCo hM tM z k) * (tM k)) / 100))), (7, .long (((((sGo hM tM z k).toInt64) * z.toInt64) * (((hM k) - (sLow hM k)).toInt64)) / 10000000)), (0, .int z), (1, .ref (e 0)), (2, .ref (e 1)), (3, .ref (e 2)), (4, .ref (e 4))]) C 7 dL_beams_109 rfl (nI_add k 1) (by decide) rfl rfl ?_
          refine k_goto (q := 8) C dL_beams_112 (by decide) ?_
          refine k_fr (fr2 := [(0, .int z), (1, .ref (e 0)), (2, .ref (e 1)), (3, .ref (e 2)), (4, .ref (e 4)), (5, .int ((sCo hM tM z k) - (((sCo hM tM z k) * (tM k)) / 100))), (6, .int (nI (k + 1)))]) ⟨[3, 4, 5, 6, 7, 1, 0], rfl⟩ ?_
          exact ih (k + 1) (by omega) (by omega)
        refine k_lload (q := 55) C 0 dL_beams_53 rfl rfl ?_
        refine k_iload (q := 57) C 6 dL_beams_55 rfl rfl ?_
        refine k_i2l (q := 58) C dL_beams_57 rfl ?_
        refine k_lcmp (q := 59) C dL_beams_58 rfl ?_
        refine k_if_le (tgt := 66) (q := 62) C dL_beams_59 (by decide) rfl ?_ ?_
        · intro c_59
          refine k_iload (q := 68) C 6 dL_beams_66 rfl rfl ?_
          refine k_lload (q := 70) C 0 dL_beams_68 rfl rfl ?_
          refine k_l2i (q := 71) C dL_beams_70 rfl ?_
          refine k_isub (q := 72) C dL_beams_71 rfl ?_
          exact k_st (congrArg (fun z => Value.int z :: _) (show (sGo hM tM z k) - ((((((sGo hM tM z k).toInt64) * z.toInt64) * (((hM k) - (sLow hM k)).toInt64)) / 10000000).toInt32) = sCo hM tM z k from by first | exact lHaze0 c_59 | exact lHaze1 c_59)) J_53
        · intro c_59
          refine k_iconst (q := 63) (v := 0) C dL_beams_62 (by decide) rfl ?_
          refine k_goto (q := 72) C dL_beams_63 (by decide) ?_
          exact k_st (congrArg (fun z => Value.int z :: _) (show 0 = sCo hM tM z k from by first | exact lHaze0 c_59 | exact lHaze1 c_59)) J_53
      refine k_iload (q := 31) C 6 dL_beams_29 rfl rfl ?_
      refine k_nif_ne (a := k)  (tgt := 38) (q := 34) C dL_beams_31 (by decide) rfl (by omega) ?_ ?_
      · intro c_31
        refine k_aload_n (q := 39) C 2 dL_beams_38 rfl rfl ?_
        refine k_iload (q := 41) C 6 dL_beams_39 rfl rfl ?_
        refine k_iconst (q := 42) (v := 1) C dL_beams_41 (by decide) rfl ?_
        refine k_isub (q := 43) C dL_beams_42 rfl ?_
        refine k_st (st2 := (.int (nI (k - 1)) :: _)) (congrArg (fun z => Value.int z :: _) (show (nI k) - 1 = nI (k - 1) from pk_sub (a := k) (b := 1) (by omega))) ?_
        refine k_iald (q := 44) C 1 rfl (vp_in_nI (n := k - 1) (by omega) (by decide)) dL_beams_43 rfl ?_
        refine k_st (st2 := (.int (hM (k - 1)) :: _)) (congrArg (fun z => Value.int z :: _) (show hM (nI (k - 1)).toNatClampNeg = hM (k - 1) from congrArg hM (nI_clamp (n := k - 1) (by omega)))) ?_
        exact k_st (congrArg (fun z => Value.int z :: _) (show hM (k - 1) = sLow hM k from by first | (rw [c_31]; rfl) | (obtain ⟨m, rfl⟩ : ∃ m, k = m + 1 := ⟨k - 1, by omega⟩; rfl))) J_29
      · intro c_31
        refine k_iconst (q := 35) (v := 0) C dL_beams_34 (by decide) rfl ?_
        refine k_goto (q := 44) C dL_beams_35 (by decide) ?_
        exact k_st (congrArg (fun z => Value.int z :: _) (show 0 = sLow hM k from by first | (rw [c_31]; rfl) | (obtain ⟨m, rfl⟩ : ∃ m, k = m + 1 := ⟨k - 1, by omega⟩; rfl))) J_29
set_option maxHeartbeats 4000000 in
set_option maxRecDepth 100000 in
theorem c_L_beams (cy : Nat → ClassId) (e : Nat → Nat) (nM : Nat) (oM : Nat → Int32) (sM : Nat → Int32) (gM : Nat → Int32) (knM : Nat) (loM : Int32) (lfM : Int32) (hM : Nat → Int32) (tM : Nat → Int32) (lM : Nat → Int32) (bM : Nat → Int32) (rM : Nat → Int32) (z : Int32)  (hn : nM ≤ 6) : kV yL_beams wsL_beams rm_L_beams cy [.int z, .ref (e 0), .ref (e 1), .ref (e 2), .ref (e 4)] (wLa e cy (qSt nM oM sM gM knM loM lfM) hM tM lM bM rM) (wLa e cy (qSt nM oM sM gM knM loM lfM) hM tM lM (lBm hM tM z bM nM) rM) := by
  refine kV_of (cc := cL_beams) (maxL := 9) (by decide) rfl (Nat.le_of_ble_eq_true rfl) ?_
  intro X hR C E
  have C : kC X 9 RL cL_beams wsL_beams cy := C
  refine k_fr (fr2 := [(0, .int z), (1, .ref (e 0)), (2, .ref (e 1)), (3, .ref (e 2)), (4, .ref (e 4))]) ⟨[0, 1, 2, 3, 4], rfl⟩ ?_
  refine k_sipush (q := 3) (v := 1000) C dL_beams_0 (by decide +kernel) rfl ?_
  refine k_istore (q := 5) (fr2 := [(5, .int 1000), (0, .int z), (1, .ref (e 0)), (2, .ref (e 1)), (3, .ref (e 2)), (4, .ref (e 4))]) C dL_beams_3 (by decide) rfl rfl ?_
  refine k_iconst (q := 6) (v := 0) C dL_beams_5 (by decide) rfl ?_
  refine k_istore (q := 8) (fr2 := [(6, .int 0), (5, .int 1000), (0, .int z), (1, .ref (e 0)), (2, .ref (e 1)), (3, .ref (e 2)), (4, .ref (e 4))]) C dL_beams_6 (by decide) rfl rfl ?_
  refine k_fr (fr2 := [(0, .int z), (1, .ref (e 0)), (2, .ref (e 1)), (3, .ref (e 2)), (4, .ref (e 4)), (5, .int 1000), (6, .int 0)]) ⟨[2, 3, 4, 5, 6, 1, 0], rfl⟩ ?_
  exact lp_L_beams_8 cy e nM oM sM gM knM loM lfM hM tM lM bM rM z hn X hR C E _ 0 (Nat.lt_succ_self _) (by omega)
abbrev rm_L_reads : Room := { frames := 3, cells := 0, slots := 0, locals := 68 }
set_option maxHeartbeats 4000000 in
set_option maxRecDepth 100000 in
theorem lp_L_reads_188 (cy : Nat → ClassId) (e : Nat → Nat) (nM : Nat) (oM : Nat → Int32) (sM : Nat → Int32) (gM : Nat → Int32) (knM : Nat) (loM : Int32) (lfM : Int32) (hM : Nat → Int32) (tM : Nat → Int32) (lM : Nat → Int32) (bM : Nat → Int32) (rM : Nat → Int32)  (hn : nM ≤ 6) (hb : lB nM hM tM (gM 1) bM) (ho : mBin oM) (hs0 : sOk (sM 0)) (hs1 : sOk (sM 1)) (hg0 : 50 ≤ (gM 0).toInt ∧ (gM 0).toInt ≤ 1000) (X : kX) (hR : xR X = rm_L_reads) (C : kC X 8 RL cL_reads wsL_reads cy) (E : kEnd X 8 cL_reads (bI (lIs (sMeet gM (sM 0) (sM 1)) (mC (sClose (mLit oM) hM tM sM gM) (mD hM sM gM) nM))) (wLa e cy (qSt nM oM sM gM knM loM lfM) hM tM lM bM (upd (upd (upd (upd rM 0 (mRn hM nM (sMeet gM (sM 0) (sM 1)) (mC (sClose (mLit oM) hM tM sM gM) (mD hM sM gM) nM) 0)) 1 (mRn hM nM (sMeet gM (sM 0) (sM 1)) (mC (sClose (mLit oM) hM tM sM gM) (mD hM sM gM) nM) 1)) 2 (mRn hM nM (sMeet gM (sM 0) (sM 1)) (mC (sClose (mLit oM) hM tM sM gM) (mD hM sM gM) nM) 2)) 3 (mRn hM nM (sMeet gM (sM 0) (sM 1)) (mC (sClose (mLit oM) hM tM sM gM) (mD hM sM gM) nM) 3)))) : ∀ (fu : Nat) (k : Nat), nM - k < fu → (k ≤ nM) → kG X 8 0 0 (wLa e cy (qSt nM oM sM gM knM loM lfM) hM tM lM bM (upd (upd (upd (upd rM 0 (mRn hM nM (sMeet gM (sM 0) (sM 1)) (mC (sClose (mLit oM) hM tM sM gM) (mD hM sM gM) nM) 0)) 1 (mRn hM nM (sMeet gM (sM 0) (sM 1)) (mC (sClose (mLit oM) hM tM sM gM) (mD hM sM gM) nM) 1)) 2 (mRn hM nM (sMeet gM (sM 0) (sM 1)) (mC (sClose (mLit oM) hM tM sM gM) (mD hM sM gM) nM) 2)) 3 (lR3 hM nM (sMeet gM (sM 0) (sM 1)) (mC (sClose (mLit oM) hM tM sM gM) (mD hM sM gM) nM) k))) 188 [(0, .ref (e 0)), (1, .ref (e 1)), (2, .ref (e 4)), (3, .ref (e 5)), (5, .int (bI (lIs (sMeet gM (sM 0) (sM 1)) (mC (sClose (mLit oM) hM tM sM gM) (mD hM sM gM) nM)))), (6, .int (sMeet gM (sM 0) (sM 1))), (7, .int (nI k))] [] := by
  intro fu
  induction fu with
  | zero => intro k hfu; exact absurd hfu (Nat.not_lt_zero _)
  | succ fu ih =>
    intro k hfu hk
    refine k_iload (q := 190) C 6 dL_reads_188 rfl rfl ?_
    refine k_aload_n (q := 191) C 0 dL_reads_190 rfl rfl ?_
    refine k_bipush (q := 193) (v := 8) C dL_reads_191 (by decide +kernel) rfl ?_
    refine k_iald (q := 194) C 0 rfl (vp_in_nI (n := 8) (by decide) (by decide)) dL_reads_193 rfl ?_
    refine k_st (st2 := (.int ((qSt nM oM sM gM knM loM lfM) 8) :: _)) (congrArg (fun z => Value.int z :: _) (show (qSt nM oM sM gM knM loM lfM) (8 : Int32).toNatClampNeg = (qSt nM oM sM gM knM loM lfM) 8 from congrArg (qSt nM oM sM gM knM loM lfM) (nI_clamp (n := 8) (by decide)))) ?_
    refine k_st (st2 := (.int (nI nM) :: _)) (congrArg (fun z => Value.int z :: _) (show (qSt nM oM sM gM knM loM lfM) 8 = nI nM from rfl)) ?_
    refine k_nicmp_ge (a := k) (b := nM)  (tgt := 237) (q := 197) C dL_reads_194 (by decide) rfl (by omega) (by omega) ?_ ?_
    · intro c_194
      refine k_iload (q := 239) C 4 dL_reads_237 rfl rfl ?_
      exact k_fin E dL_reads_239 (rfl) (by rw [lR3_end (by first | exact Or.inl (by omega) | exact Or.inr c_199)])
    · intro c_194
      refine k_iload (q := 199) C 4 dL_reads_197 rfl rfl ?_
      refine k_ifB_eq (tgt := 237) (q := 202) C dL_reads_199 (by decide) rfl ?_ ?_
      · intro c_199
        refine k_iload (q := 239) C 4 dL_reads_237 rfl rfl ?_
        exact k_fin E dL_reads_239 (rfl) (by rw [lR3_end (by first | exact Or.inl (by omega) | exact Or.inr c_199)])
      · intro c_199
        have hmc : mC (sClose (mLit oM) hM tM sM gM) (mD hM sM gM) nM = -99999 ∨ ∃ p, p < nM ∧ mC (sClose (mLit oM) hM tM sM gM) (mD hM sM gM) nM = nI p := mC_ex _ _ _
        obtain ⟨p, hp, ep⟩ := hmc.resolve_left (fun q => c_199 (Or.inr q))
        have hp2 : p < 6 := by omega
        refine k_aload_n (q := 203) C 3 dL_reads_202 rfl rfl ?_
        refine k_iconst (q := 204) (v := 3) C dL_reads_203 (by decide) rfl ?_
        have J_204 : kG X 8 0 0 (wLa e cy (qSt nM oM sM gM knM loM lfM) hM tM lM bM (upd (upd (upd (upd rM 0 (mRn hM nM (sMeet gM (sM 0) (sM 1)) (mC (sClose (mLit oM) hM tM sM gM) (mD hM sM gM) nM) 0)) 1 (mRn hM nM (sMeet gM (sM 0) (sM 1)) (mC (sClose (mLit oM) hM tM sM gM) (mD hM sM gM) nM) 1)) 2 (mRn hM nM (sMeet gM (sM 0) (sM 1)) (mC (sClose (mLit oM) hM tM sM gM) (mD hM sM gM) nM) 2)) 3 (lR3 hM nM (sMeet gM (sM 0) (sM 1)) (mC (sClose (mLit oM) hM tM sM gM) (mD hM sM gM) nM) k))) 230 [(0, .ref (e 0)), (1, .ref (e 1)), (2, .ref (e 4)), (3, .ref (e 5)), (5, .int (bI (lIs (sMeet gM (sM 0) (sM 1)) (mC (sClose (mLit oM) hM tM sM gM) (mD hM sM gM) nM)))), (6, .int (sMeet gM (sM 0) (sM 1))), (7, .int (nI k))] [.int (lR3 hM nM (sMeet gM (sM 0) (sM 1)) (mC (sClose (mLit oM) hM tM sM gM) (mD hM sM gM) nM) (k + 1)), .int 3, .ref (e 5)] := by
          refine k_iast (q := 231) (w2 := (wLa e cy (qSt nM oM sM gM knM loM lfM) hM tM lM bM (upd (upd (upd (upd (upd rM 0 (mRn hM nM (sMeet gM (sM 0) (sM 1)) (mC (sClose (mLit oM) hM tM sM gM) (mD hM sM gM) nM) 0)) 1 (mRn hM nM (sMeet gM (sM 0) (sM 1)) (mC (sClose (mLit oM) hM tM sM gM) (mD hM sM gM) nM) 1)) 2 (mRn hM nM (sMeet gM (sM 0) (sM 1)) (mC (sClose (mLit oM) hM tM sM gM) (mD hM sM gM) nM) 2)) 3 (lR3 hM nM (sMeet gM (sM 0) (sM 1)) (mC (sClose (mLit oM) hM tM sM gM) (mD hM sM gM) nM) k)) 3 (lR3 hM nM (sMeet gM (sM 0) (sM 1)) (mC (sClose (mLit oM) hM tM sM gM) (mD hM sM gM) nM) (k + 1))))) C 5 rfl (vp_in_nI (n := 3) (by decide) (by decide)) rfl dL_reads_230 rfl ?_
          refine k_w (w2 := (wLa e cy (qSt nM oM sM gM knM loM lfM) hM tM lM bM (upd (upd (upd (upd rM 0 (mRn hM nM (sMeet gM (sM 0) (sM 1)) (mC (sClose (mLit oM) hM tM sM gM) (mD hM sM gM) nM) 0)) 1 (mRn hM nM (sMeet gM (sM 0) (sM 1)) (mC (sClose (mLit oM) hM tM sM gM) (mD hM sM gM) nM) 1)) 2 (mRn hM nM (sMeet gM (sM 0) (sM 1)) (mC (sClose (mLit oM) hM tM sM gM) (mD hM sM gM) nM) 2)) 3 (lR3 hM nM (sMeet gM (sM 0) (sM 1)) (mC (sClose (mLit oM) hM tM sM gM) (mD hM sM gM) nM) (k + 1))))) (by rw [upd_upd]) ?_
          refine k_iinc (q := 234) (v := nI (k + 1)) (fr2 := [(7, .int (nI (k + 1))), (0, .ref (e 0)), (1, .ref (e 1)), (2, .ref (e 4)), (3, .ref (e 5)), (5, .int (bI (lIs (sMeet gM (sM 0) (sM 1)) (mC (sClose (mLit oM) hM tM sM gM) (mD hM sM gM) nM)))), (6, .int (sMeet gM (sM 0) (sM 1)))]) C 6 dL_reads_231 rfl (nI_add k 1) (by decide) rfl rfl ?_
          refine k_goto (q := 188) C dL_reads_234 (by decide) ?_
          refine k_fr (fr2 := [(0, .ref (e 0)), (1, .ref (e 1)), (2, .ref (e 4)), (3, .ref (e 5)), (5, .int (bI (lIs (sMeet gM (sM 0) (sM 1)) (mC (sClose (mLit oM) hM tM sM gM) (mD hM sM gM) nM)))), (6, .int (sMeet gM (sM 0) (sM 1))), (7, .int (nI (k + 1)))]) ⟨[1, 2, 3, 4, 5, 6, 0], rfl⟩ ?_
          exact ih (k + 1) (by omega) (by omega)
        refine k_aload_n (q := 205) C 1 dL_reads_204 rfl rfl ?_
        refine k_iload (q := 207) C 6 dL_reads_205 rfl rfl ?_
        refine k_iald (q := 208) C 1 rfl (vp_in_nI (n := k) (by omega) (by decide)) dL_reads_207 rfl ?_
        refine k_st (st2 := (.int (hM k) :: _)) (congrArg (fun z => Value.int z :: _) (show hM (nI k).toNatClampNeg = hM k from congrArg hM (nI_clamp (n := k) (by omega)))) ?_
        refine k_iload (q := 210) C 5 dL_reads_208 rfl rfl ?_
        refine k_isub (q := 211) C dL_reads_210 rfl ?_
        refine k_callSI (n := 1) (q := 214) (pre := ([] : va_W)) (post := (wLa e cy (qSt nM oM sM gM knM loM lfM) hM tM lM bM (upd (upd (upd (upd rM 0 (mRn hM nM (sMeet gM (sM 0) (sM 1)) (mC (sClose (mLit oM) hM tM sM gM) (mD hM sM gM) nM) 0)) 1 (mRn hM nM (sMeet gM (sM 0) (sM 1)) (mC (sClose (mLit oM) hM tM sM gM) (mD hM sM gM) nM) 1)) 2 (mRn hM nM (sMeet gM (sM 0) (sM 1)) (mC (sClose (mLit oM) hM tM sM gM) (mD hM sM gM) nM) 2)) 3 (lR3 hM nM (sMeet gM (sM 0) (sM 1)) (mC (sClose (mLit oM) hM tM sM gM) (mD hM sM gM) nM) k)))) (w2 := (wLa e cy (qSt nM oM sM gM knM loM lfM) hM tM lM bM (upd (upd (upd (upd rM 0 (mRn hM nM (sMeet gM (sM 0) (sM 1)) (mC (sClose (mLit oM) hM tM sM gM) (mD hM sM gM) nM) 0)) 1 (mRn hM nM (sMeet gM (sM 0) (sM 1)) (mC (sClose (mLit oM) hM tM sM gM) (mD hM sM gM) nM) 1)) 2 (mRn hM nM (sMeet gM (sM 0) (sM 1)) (mC (sClose (mLit oM) hM tM sM gM) (mD hM sM gM) nM) 2)) 3 (lR3 hM nM (sMeet gM (sM 0) (sM 1)) (mC (sClose (mLit oM) hM tM sM gM) (mD hM sM gM) nM) k)))) (As := [.int ((hM k) - (sMeet gM (sM 0) (sM 1)))]) (rest := [.int 3, .ref (e 5)]) C (c_L_size ((hM k) - (sMeet gM (sM 0) (sM 1)))) gL_reads_L_size rfl rfl rfl (by decide +kernel) (k_room hR (by decide)) ⟨Nat.zero_le _, Nat.zero_le _⟩  rfl rfl (Nat.le_of_ble_eq_true rfl) (rfl) (rfl) dL_reads_211 rfl ?_
        refine k_aload_n (q := 215) C 3 dL_reads_214 rfl rfl ?_
        refine k_iconst (q := 216) (v := 2) C dL_reads_215 (by decide) rfl ?_
        refine k_iald (q := 217) C 5 rfl (vp_in_nI (n := 2) (by decide) (by decide)) dL_reads_216 rfl ?_
        refine k_st (st2 := (.int ((upd (upd (upd (upd rM 0 (mRn hM nM (sMeet gM (sM 0) (sM 1)) (mC (sClose (mLit oM) hM tM sM gM) (mD hM sM gM) nM) 0)) 1 (mRn hM nM (sMeet gM (sM 0) (sM 1)) (mC (sClose (mLit oM) hM tM sM gM) (mD hM sM gM) nM) 1)) 2 (mRn hM nM (sMeet gM (sM 0) (sM 1)) (mC (sClose (mLit oM) hM tM sM gM) (mD hM sM gM) nM) 2)) 3 (lR3 hM nM (sMeet gM (sM 0) (sM 1)) (mC (sClose (mLit oM) hM tM sM gM) (mD hM sM gM) nM) k)) 2) :: _)) (congrArg (fun z => Value.int z :: _) (show (upd (upd (upd (upd rM 0 (mRn hM nM (sMeet gM (sM 0) (sM 1)) (mC (sClose (mLit oM) hM tM sM gM) (mD hM sM gM) nM) 0)) 1 (mRn hM nM (sMeet gM (sM 0) (sM 1)) (mC (sClose (mLit oM) hM tM sM gM) (mD hM sM gM) nM) 1)) 2 (mRn hM nM (sMeet gM (sM 0) (sM 1)) (mC (sClose (mLit oM) hM tM sM gM) (mD hM sM gM) nM) 2)) 3 (lR3 hM nM (sMeet gM (sM 0) (sM 1)) (mC (sClose (mLit oM) hM tM sM gM) (mD hM sM gM) nM) k)) (2 : Int32).toNatClampNeg = (upd (upd (upd (upd rM 0 (mRn hM nM (sMeet gM (sM 0) (sM 1)) (mC (sClose (mLit oM) hM tM sM gM) (mD hM sM gM) nM) 0)) 1 (mRn hM nM (sMeet gM (sM 0) (sM 1)) (mC (sClose (mLit oM) hM tM sM gM) (mD hM sM gM) nM) 1)) 2 (mRn hM nM (sMeet gM (sM 0) (sM 1)) (mC (sClose (mLit oM) hM tM sM gM) (mD hM sM gM) nM) 2)) 3 (lR3 hM nM (sMeet gM (sM 0) (sM 1)) (mC (sClose (mLit oM) hM tM sM gM) (mD hM sM gM) nM) k)) 2 from congrArg (upd (upd (upd (upd rM 0 (mRn hM nM (sMeet gM (sM 0) (sM 1)) (mC (sClose (mLit oM) hM tM sM gM) (mD hM sM gM) nM) 0)) 1 (mRn hM nM (sMeet gM (sM 0) (sM 1)) (mC (sClose (mLit oM) hM tM sM gM) (mD hM sM gM) nM) 1)) 2 (mRn hM nM (sMeet gM (sM 0) (sM 1)) (mC (sClose (mLit oM) hM tM sM gM) (mD hM sM gM) nM) 2)) 3 (lR3 hM nM (sMeet gM (sM 0) (sM 1)) (mC (sClose (mLit oM) hM tM sM gM) (mD hM sM gM) nM) k)) (nI_clamp (n := 2) (by decide)))) ?_
        refine k_st (st2 := (.int (mRn hM nM (sMeet gM (sM 0) (sM 1)) (mC (sClose (mLit oM) hM tM sM gM) (mD hM sM gM) nM) 2) :: _)) (congrArg (fun z => Value.int z :: _) (show (upd (upd (upd (upd rM 0 (mRn hM nM (sMeet gM (sM 0) (sM 1)) (mC (sClose (mLit oM) hM tM sM gM) (mD hM sM gM) nM) 0)) 1 (mRn hM nM (sMeet gM (sM 0) (sM 1)) (mC (sClose (mLit oM) hM tM sM gM) (mD hM sM gM) nM) 1)) 2 (mRn hM nM (sMeet gM (sM 0) (sM 1)) (mC (sClose (mLit oM) hM tM sM gM) (mD hM sM gM) nM) 2)) 3 (lR3 hM nM (sMeet gM (sM 0) (sM 1)) (mC (sClose (mLit oM) hM tM sM gM) (mD hM sM gM) nM) k)) 2 = mRn hM nM (sMeet gM (sM 0) (sM 1)) (mC (sClose (mLit oM) hM tM sM gM) (mD hM sM gM) nM) 2 from rfl)) ?_
        refine k_callSI (n := 1) (q := 220) (pre := ([] : va_W)) (post := (wLa e cy (qSt nM oM sM gM knM loM lfM) hM tM lM bM (upd (upd (upd (upd rM 0 (mRn hM nM (sMeet gM (sM 0) (sM 1)) (mC (sClose (mLit oM) hM tM sM gM) (mD hM sM gM) nM) 0)) 1 (mRn hM nM (sMeet gM (sM 0) (sM 1)) (mC (sClose (mLit oM) hM tM sM gM) (mD hM sM gM) nM) 1)) 2 (mRn hM nM (sMeet gM (sM 0) (sM 1)) (mC (sClose (mLit oM) hM tM sM gM) (mD hM sM gM) nM) 2)) 3 (lR3 hM nM (sMeet gM (sM 0) (sM 1)) (mC (sClose (mLit oM) hM tM sM gM) (mD hM sM gM) nM) k)))) (w2 := (wLa e cy (qSt nM oM sM gM knM loM lfM) hM tM lM bM (upd (upd (upd (upd rM 0 (mRn hM nM (sMeet gM (sM 0) (sM 1)) (mC (sClose (mLit oM) hM tM sM gM) (mD hM sM gM) nM) 0)) 1 (mRn hM nM (sMeet gM (sM 0) (sM 1)) (mC (sClose (mLit oM) hM tM sM gM) (mD hM sM gM) nM) 1)) 2 (mRn hM nM (sMeet gM (sM 0) (sM 1)) (mC (sClose (mLit oM) hM tM sM gM) (mD hM sM gM) nM) 2)) 3 (lR3 hM nM (sMeet gM (sM 0) (sM 1)) (mC (sClose (mLit oM) hM tM sM gM) (mD hM sM gM) nM) k)))) (As := [.int (mRn hM nM (sMeet gM (sM 0) (sM 1)) (mC (sClose (mLit oM) hM tM sM gM) (mD hM sM gM) nM) 2)]) (rest := [.int (mAbs ((hM k) - (sMeet gM (sM 0) (sM 1)))), .int 3, .ref (e 5)]) C (c_L_size (mRn hM nM (sMeet gM (sM 0) (sM 1)) (mC (sClose (mLit oM) hM tM sM gM) (mD hM sM gM) nM) 2)) gL_reads_L_size rfl rfl rfl (by decide +kernel) (k_room hR (by decide)) ⟨Nat.zero_le _, Nat.zero_le _⟩  rfl rfl (Nat.le_of_ble_eq_true rfl) (rfl) (rfl) dL_reads_217 rfl ?_
        refine k_icmp_ge (tgt := 227) (q := 223) C dL_reads_220 (by decide) rfl ?_ ?_
        · intro c_220
          refine k_aload_n (q := 228) C 3 dL_reads_227 rfl rfl ?_
          refine k_iconst (q := 229) (v := 3) C dL_reads_228 (by decide) rfl ?_
          refine k_iald (q := 230) C 5 rfl (vp_in_nI (n := 3) (by decide) (by decide)) dL_reads_229 rfl ?_
          refine k_st (st2 := (.int ((upd (upd (upd (upd rM 0 (mRn hM nM (sMeet gM (sM 0) (sM 1)) (mC (sClose (mLit oM) hM tM sM gM) (mD hM sM gM) nM) 0)) 1 (mRn hM nM (sMeet gM (sM 0) (sM 1)) (mC (sClose (mLit oM) hM tM sM gM) (mD hM sM gM) nM) 1)) 2 (mRn hM nM (sMeet gM (sM 0) (sM 1)) (mC (sClose (mLit oM) hM tM sM gM) (mD hM sM gM) nM) 2)) 3 (lR3 hM nM (sMeet gM (sM 0) (sM 1)) (mC (sClose (mLit oM) hM tM sM gM) (mD hM sM gM) nM) k)) 3) :: _)) (congrArg (fun z => Value.int z :: _) (show (upd (upd (upd (upd rM 0 (mRn hM nM (sMeet gM (sM 0) (sM 1)) (mC (sClose (mLit oM) hM tM sM gM) (mD hM sM gM) nM) 0)) 1 (mRn hM nM (sMeet gM (sM 0) (sM 1)) (mC (sClose (mLit oM) hM tM sM gM) (mD hM sM gM) nM) 1)) 2 (mRn hM nM (sMeet gM (sM 0) (sM 1)) (mC (sClose (mLit oM) hM tM sM gM) (mD hM sM gM) nM) 2)) 3 (lR3 hM nM (sMeet gM (sM 0) (sM 1)) (mC (sClose (mLit oM) hM tM sM gM) (mD hM sM gM) nM) k)) (3 : Int32).toNatClampNeg = (upd (upd (upd (upd rM 0 (mRn hM nM (sMeet gM (sM 0) (sM 1)) (mC (sClose (mLit oM) hM tM sM gM) (mD hM sM gM) nM) 0)) 1 (mRn hM nM (sMeet gM (sM 0) (sM 1)) (mC (sClose (mLit oM) hM tM sM gM) (mD hM sM gM) nM) 1)) 2 (mRn hM nM (sMeet gM (sM 0) (sM 1)) (mC (sClose (mLit oM) hM tM sM gM) (mD hM sM gM) nM) 2)) 3 (lR3 hM nM (sMeet gM (sM 0) (sM 1)) (mC (sClose (mLit oM) hM tM sM gM) (mD hM sM gM) nM) k)) 3 from congrArg (upd (upd (upd (upd rM 0 (mRn hM nM (sMeet gM (sM 0) (sM 1)) (mC (sClose (mLit oM) hM tM sM gM) (mD hM sM gM) nM) 0)) 1 (mRn hM nM (sMeet gM (sM 0) (sM 1)) (mC (sClose (mLit oM) hM tM sM gM) (mD hM sM gM) nM) 1)) 2 (mRn hM nM (sMeet gM (sM 0) (sM 1)) (mC (sClose (mLit oM) hM tM sM gM) (mD hM sM gM) nM) 2)) 3 (lR3 hM nM (sMeet gM (sM 0) (sM 1)) (mC (sClose (mLit oM) hM tM sM gM) (mD hM sM gM) nM) k)) (nI_clamp (n := 3) (by decide)))) ?_
          refine k_st (st2 := (.int (lR3 hM nM (sMeet gM (sM 0) (sM 1)) (mC (sClose (mLit oM) hM tM sM gM) (mD hM sM gM) nM) k) :: _)) (congrArg (fun z => Value.int z :: _) (show (upd (upd (upd (upd rM 0 (mRn hM nM (sMeet gM (sM 0) (sM 1)) (mC (sClose (mLit oM) hM tM sM gM) (mD hM sM gM) nM) 0)) 1 (mRn hM nM (sMeet gM (sM 0) (sM 1)) (mC (sClose (mLit oM) hM tM sM gM) (mD hM sM gM) nM) 1)) 2 (mRn hM nM (sMeet gM (sM 0) (sM 1)) (mC (sClose (mLit oM) hM tM sM gM) (mD hM sM gM) nM) 2)) 3 (lR3 hM nM (sMeet gM (sM 0) (sM 1)) (mC (sClose (mLit oM) hM tM sM gM) (mD hM sM gM) nM) k)) 3 = lR3 hM nM (sMeet gM (sM 0) (sM 1)) (mC (sClose (mLit oM) hM tM sM gM) (mD hM sM gM) nM) k from rfl)) ?_
          exact k_st (congrArg (fun z => Value.int z :: _) (show lR3 hM nM (sMeet gM (sM 0) (sM 1)) (mC (sClose (mLit oM) hM tM sM gM) (mD hM sM gM) nM) k = lR3 hM nM (sMeet gM (sM 0) (sM 1)) (mC (sClose (mLit oM) hM tM sM gM) (mD hM sM gM) nM) (k + 1) from by first | exact lR3_y ep hp2 c_199 c_220 | exact lR3_n ep hp2 c_199 c_220)) J_204
        · intro c_220
          refine k_iconst (q := 224) (v := 1) C dL_reads_223 (by decide) rfl ?_
          refine k_goto (q := 230) C dL_reads_224 (by decide) ?_
          exact k_st (congrArg (fun z => Value.int z :: _) (show 1 = lR3 hM nM (sMeet gM (sM 0) (sM 1)) (mC (sClose (mLit oM) hM tM sM gM) (mD hM sM gM) nM) (k + 1) from by first | exact lR3_y ep hp2 c_199 c_220 | exact lR3_n ep hp2 c_199 c_220)) J_204
set_option maxHeartbeats 4000000 in
set_option maxRecDepth 100000 in
theorem lp_L_reads_11 (cy : Nat → ClassId) (e : Nat → Nat) (nM : Nat) (oM : Nat → Int32) (sM : Nat → Int32) (gM : Nat → Int32) (knM : Nat) (loM : Int32) (lfM : Int32) (hM : Nat → Int32) (tM : Nat → Int32) (lM : Nat → Int32) (bM : Nat → Int32) (rM : Nat → Int32)  (hn : nM ≤ 6) (hb : lB nM hM tM (gM 1) bM) (ho : mBin oM) (hs0 : sOk (sM 0)) (hs1 : sOk (sM 1)) (hg0 : 50 ≤ (gM 0).toInt ∧ (gM 0).toInt ≤ 1000) (X : kX) (hR : xR X = rm_L_reads) (C : kC X 8 RL cL_reads wsL_reads cy) (E : kEnd X 8 cL_reads (bI (lIs (sMeet gM (sM 0) (sM 1)) (mC (sClose (mLit oM) hM tM sM gM) (mD hM sM gM) nM))) (wLa e cy (qSt nM oM sM gM knM loM lfM) hM tM lM bM (upd (upd (upd (upd rM 0 (mRn hM nM (sMeet gM (sM 0) (sM 1)) (mC (sClose (mLit oM) hM tM sM gM) (mD hM sM gM) nM) 0)) 1 (mRn hM nM (sMeet gM (sM 0) (sM 1)) (mC (sClose (mLit oM) hM tM sM gM) (mD hM sM gM) nM) 1)) 2 (mRn hM nM (sMeet gM (sM 0) (sM 1)) (mC (sClose (mLit oM) hM tM sM gM) (mD hM sM gM) nM) 2)) 3 (mRn hM nM (sMeet gM (sM 0) (sM 1)) (mC (sClose (mLit oM) hM tM sM gM) (mD hM sM gM) nM) 3)))) : ∀ (fu : Nat) (i : Nat) (x : Int32), i < fu → (i ≤ nM) → (rdP (sClose (mLit oM) hM tM sM gM) (mD hM sM gM) nM i x) → kG X 8 0 0 (wLa e cy (qSt nM oM sM gM knM loM lfM) hM tM lM bM rM) 11 [(0, .ref (e 0)), (1, .ref (e 1)), (2, .ref (e 4)), (3, .ref (e 5)), (4, .int x), (5, .int (iI ((i : Int) - 1)))] [] := by
  intro fu
  induction fu with
  | zero => intro i x hfu; exact absurd hfu (Nat.not_lt_zero _)
  | succ fu ih =>
    intro i x hfu hi hx
    refine k_iload (q := 13) C 5 dL_reads_11 rfl rfl ?_
    refine k_if_lt (tgt := 70) (q := 16) C dL_reads_13 (by decide) rfl ?_ ?_
    · intro c_13
      have hi0 : i = 0 := by
        rcases Nat.eq_zero_or_pos i with q | q
        · exact q
        · exfalso; rw [show (i : Int) - 1 = ((i - 1 : Nat) : Int) by omega, iI_nI] at c_13; exact nI_pos (by omega) c_13
      subst hi0
      have J_70 : kG X 8 0 0 (wLa e cy (qSt nM oM sM gM knM loM lfM) hM tM lM bM rM) 89 [(0, .ref (e 0)), (1, .ref (e 1)), (2, .ref (e 4)), (3, .ref (e 5)), (4, .int x), (5, .int (iI ((i : Int) - 1)))] [.int (bI (lIs (sMeet gM (sM 0) (sM 1)) (mC (sClose (mLit oM) hM tM sM gM) (mD hM sM gM) nM)))] := by
        refine k_istore (q := 91) (fr2 := [(5, .int (bI (lIs (sMeet gM (sM 0) (sM 1)) (mC (sClose (mLit oM) hM tM sM gM) (mD hM sM gM) nM)))), (0, .ref (e 0)), (1, .ref (e 1)), (2, .ref (e 4)), (3, .ref (e 5)), (4, .int x)]) C dL_reads_89 (by decide) rfl rfl ?_
        have J_91 : kG X 8 0 0 (wLa e cy (qSt nM oM sM gM knM loM lfM) hM tM lM bM rM) 119 [(5, .int (bI (lIs (sMeet gM (sM 0) (sM 1)) (mC (sClose (mLit oM) hM tM sM gM) (mD hM sM gM) nM)))), (0, .ref (e 0)), (1, .ref (e 1)), (2, .ref (e 4)), (3, .ref (e 5)), (4, .int x)] [.int (sMeet gM (sM 0) (sM 1))] := by
          refine k_istore (q := 121) (fr2 := [(6, .int (sMeet gM (sM 0) (sM 1))), (5, .int (bI (lIs (sMeet gM (sM 0) (sM 1)) (mC (sClose (mLit oM) hM tM sM gM) (mD hM sM gM) nM)))), (0, .ref (e 0)), (1, .ref (e 1)), (2, .ref (e 4)), (3, .ref (e 5)), (4, .int x)]) C dL_reads_119 (by decide) rfl rfl ?_
          refine k_aload_n (q := 122) C 5 dL_reads_121 rfl rfl ?_
          refine k_iconst (q := 123) (v := 0) C dL_reads_122 (by decide) rfl ?_
          have J_123 : kG X 8 0 0 (wLa e cy (qSt nM oM sM gM knM loM lfM) hM tM lM bM rM) 135 [(6, .int (sMeet gM (sM 0) (sM 1))), (5, .int (bI (lIs (sMeet gM (sM 0) (sM 1)) (mC (sClose (mLit oM) hM tM sM gM) (mD hM sM gM) nM)))), (0, .ref (e 0)), (1, .ref (e 1)), (2, .ref (e 4)), (3, .ref (e 5)), (4, .int x)] [.int (mRn hM nM (sMeet gM (sM 0) (sM 1)) (mC (sClose (mLit oM) hM tM sM gM) (mD hM sM gM) nM) 0), .int 0, .ref (e 5)] := by
            refine k_iast (q := 136) (w2 := (wLa e cy (qSt nM oM sM gM knM loM lfM) hM tM lM bM (upd rM 0 (mRn hM nM (sMeet gM (sM 0) (sM 1)) (mC (sClose (mLit oM) hM tM sM gM) (mD hM sM gM) nM) 0)))) C 5 rfl (vp_in_nI (n := 0) (by decide) (by decide)) rfl dL_reads_135 rfl ?_
            refine k_aload_n (q := 137) C 5 dL_reads_136 rfl rfl ?_
            refine k_iconst (q := 138) (v := 1) C dL_reads_137 (by decide) rfl ?_
            have J_138 : kG X 8 0 0 (wLa e cy (qSt nM oM sM gM knM loM lfM) hM tM lM bM (upd rM 0 (mRn hM nM (sMeet gM (sM 0) (sM 1)) (mC (sClose (mLit oM) hM tM sM gM) (mD hM sM gM) nM) 0))) 150 [(6, .int (sMeet gM (sM 0) (sM 1))), (5, .int (bI (lIs (sMeet gM (sM 0) (sM 1)) (mC (sClose (mLit oM) hM tM sM gM) (mD hM sM gM) nM)))), (0, .ref (e 0)), (1, .ref (e 1)), (2, .ref (e 4)), (3, .ref (e 5)), (4, .int x)] [.int (mRn hM nM (sMeet gM (sM 0) (sM 1)) (mC (sClose (mLit oM) hM tM sM gM) (mD hM sM gM) nM) 1), .int 1, .ref (e 5)] := by
              refine k_iast (q := 151) (w2 := (wLa e cy (qSt nM oM sM gM knM loM lfM) hM tM lM bM (upd (upd rM 0 (mRn hM nM (sMeet gM (sM 0) (sM 1)) (mC (sClose (mLit oM) hM tM sM gM) (mD hM sM gM) nM) 0)) 1 (mRn hM nM (sMeet gM (sM 0) (sM 1)) (mC (sClose (mLit oM) hM tM sM gM) (mD hM sM gM) nM) 1)))) C 5 rfl (vp_in_nI (n := 1) (by decide) (by decide)) rfl dL_reads_150 rfl ?_
              refine k_aload_n (q := 152) C 5 dL_reads_151 rfl rfl ?_
              refine k_iconst (q := 153) (v := 2) C dL_reads_152 (by decide) rfl ?_
              have J_153 : kG X 8 0 0 (wLa e cy (qSt nM oM sM gM knM loM lfM) hM tM lM bM (upd (upd rM 0 (mRn hM nM (sMeet gM (sM 0) (sM 1)) (mC (sClose (mLit oM) hM tM sM gM) (mD hM sM gM) nM) 0)) 1 (mRn hM nM (sMeet gM (sM 0) (sM 1)) (mC (sClose (mLit oM) hM tM sM gM) (mD hM sM gM) nM) 1))) 170 [(6, .int (sMeet gM (sM 0) (sM 1))), (5, .int (bI (lIs (sMeet gM (sM 0) (sM 1)) (mC (sClose (mLit oM) hM tM sM gM) (mD hM sM gM) nM)))), (0, .ref (e 0)), (1, .ref (e 1)), (2, .ref (e 4)), (3, .ref (e 5)), (4, .int x)] [.int (mRn hM nM (sMeet gM (sM 0) (sM 1)) (mC (sClose (mLit oM) hM tM sM gM) (mD hM sM gM) nM) 2), .int 2, .ref (e 5)] := by
                refine k_iast (q := 171) (w2 := (wLa e cy (qSt nM oM sM gM knM loM lfM) hM tM lM bM (upd (upd (upd rM 0 (mRn hM nM (sMeet gM (sM 0) (sM 1)) (mC (sClose (mLit oM) hM tM sM gM) (mD hM sM gM) nM) 0)) 1 (mRn hM nM (sMeet gM (sM 0) (sM 1)) (mC (sClose (mLit oM) hM tM sM gM) (mD hM sM gM) nM) 1)) 2 (mRn hM nM (sMeet gM (sM 0) (sM 1)) (mC (sClose (mLit oM) hM tM sM gM) (mD hM sM gM) nM) 2)))) C 5 rfl (vp_in_nI (n := 2) (by decide) (by decide)) rfl dL_reads_170 rfl ?_
                refine k_aload_n (q := 172) C 5 dL_reads_171 rfl rfl ?_
                refine k_iconst (q := 173) (v := 3) C dL_reads_172 (by decide) rfl ?_
                have J_173 : kG X 8 0 0 (wLa e cy (qSt nM oM sM gM knM loM lfM) hM tM lM bM (upd (upd (upd rM 0 (mRn hM nM (sMeet gM (sM 0) (sM 1)) (mC (sClose (mLit oM) hM tM sM gM) (mD hM sM gM) nM) 0)) 1 (mRn hM nM (sMeet gM (sM 0) (sM 1)) (mC (sClose (mLit oM) hM tM sM gM) (mD hM sM gM) nM) 1)) 2 (mRn hM nM (sMeet gM (sM 0) (sM 1)) (mC (sClose (mLit oM) hM tM sM gM) (mD hM sM gM) nM) 2))) 184 [(6, .int (sMeet gM (sM 0) (sM 1))), (5, .int (bI (lIs (sMeet gM (sM 0) (sM 1)) (mC (sClose (mLit oM) hM tM sM gM) (mD hM sM gM) nM)))), (0, .ref (e 0)), (1, .ref (e 1)), (2, .ref (e 4)), (3, .ref (e 5)), (4, .int x)] [.int (lR3 hM nM (sMeet gM (sM 0) (sM 1)) (mC (sClose (mLit oM) hM tM sM gM) (mD hM sM gM) nM) 0), .int 3, .ref (e 5)] := by
                  refine k_iast (q := 185) (w2 := (wLa e cy (qSt nM oM sM gM knM loM lfM) hM tM lM bM (upd (upd (upd (upd rM 0 (mRn hM nM (sMeet gM (sM 0) (sM 1)) (mC (sClose (mLit oM) hM tM sM gM) (mD hM sM gM) nM) 0)) 1 (mRn hM nM (sMeet gM (sM 0) (sM 1)) (mC (sClose (mLit oM) hM tM sM gM) (mD hM sM gM) nM) 1)) 2 (mRn hM nM (sMeet gM (sM 0) (sM 1)) (mC (sClose (mLit oM) hM tM sM gM) (mD hM sM gM) nM) 2)) 3 (lR3 hM nM (sMeet gM (sM 0) (sM 1)) (mC (sClose (mLit oM) hM tM sM gM) (mD hM sM gM) nM) 0)))) C 5 rfl (vp_in_nI (n := 3) (by decide) (by decide)) rfl dL_reads_184 rfl ?_
                  refine k_iconst (q := 186) (v := 0) C dL_reads_185 (by decide) rfl ?_
                  refine k_istore (q := 188) (fr2 := [(7, .int 0), (6, .int (sMeet gM (sM 0) (sM 1))), (5, .int (bI (lIs (sMeet gM (sM 0) (sM 1)) (mC (sClose (mLit oM) hM tM sM gM) (mD hM sM gM) nM)))), (0, .ref (e 0)), (1, .ref (e 1)), (2, .ref (e 4)), (3, .ref (e 5)), (4, .int x)]) C dL_reads_186 (by decide) rfl rfl ?_
                  refine k_fr (fr2 := [(0, .ref (e 0)), (1, .ref (e 1)), (2, .ref (e 4)), (3, .ref (e 5)), (5, .int (bI (lIs (sMeet gM (sM 0) (sM 1)) (mC (sClose (mLit oM) hM tM sM gM) (mD hM sM gM) nM)))), (6, .int (sMeet gM (sM 0) (sM 1))), (7, .int 0)]) ⟨[3, 4, 5, 6, 2, 1, 0], rfl⟩ ?_
                  exact lp_L_reads_188 cy e nM oM sM gM knM loM lfM hM tM lM bM rM hn hb ho hs0 hs1 hg0 X hR C E _ 0 (Nat.lt_succ_self _) (by omega)
                refine k_iload (q := 175) C 1 dL_reads_173 rfl rfl ?_
                refine k_ifB_eq (tgt := 182) (q := 178) C dL_reads_175 (by decide) rfl ?_ ?_
                · intro c_175
                  refine k_ldc (q := 184) (v := -99999) C (List.mem_of_getElem? (i := 1) rfl) dL_reads_182 rfl ?_
                  exact k_st (congrArg (fun z => Value.int z :: _) (show -99999 = lR3 hM nM (sMeet gM (sM 0) (sM 1)) (mC (sClose (mLit oM) hM tM sM gM) (mD hM sM gM) nM) 0 from by first | exact (lR3_0 c_175).symm | exact (lR3_no c_175).symm)) J_173
                · intro c_175
                  refine k_iconst (q := 179) (v := 0) C dL_reads_178 (by decide) rfl ?_
                  refine k_goto (q := 184) C dL_reads_179 (by decide) ?_
                  exact k_st (congrArg (fun z => Value.int z :: _) (show 0 = lR3 hM nM (sMeet gM (sM 0) (sM 1)) (mC (sClose (mLit oM) hM tM sM gM) (mD hM sM gM) nM) 0 from by first | exact (lR3_0 c_175).symm | exact (lR3_no c_175).symm)) J_173
              refine k_iload (q := 155) C 1 dL_reads_153 rfl rfl ?_
              refine k_ifB_eq (tgt := 168) (q := 158) C dL_reads_155 (by decide) rfl ?_ ?_
              · intro c_155
                refine k_ldc (q := 170) (v := -99999) C (List.mem_of_getElem? (i := 1) rfl) dL_reads_168 rfl ?_
                exact k_st (congrArg (fun z => Value.int z :: _) (show -99999 = mRn hM nM (sMeet gM (sM 0) (sM 1)) (mC (sClose (mLit oM) hM tM sM gM) (mD hM sM gM) nM) 2 from by first | exact (mRn_w2 ep2 hp2 c_155).symm | exact (mRn_no c_155).symm)) J_153
              · intro c_155
                obtain ⟨p, hp, ep, ep2⟩ := hmc.resolve_left (fun q => c_155 (Or.inr q.2))
                have hp2 : p < 6 := by omega
                obtain rfl : x = nI p := ep
                refine k_iload (q := 160) C 0 dL_reads_158 rfl rfl ?_
                refine k_aload_n (q := 161) C 3 dL_reads_160 rfl rfl ?_
                refine k_iload (q := 163) C 6 dL_reads_161 rfl rfl ?_
                refine k_iald (q := 164) C 1 rfl (vp_in_nI (n := p) (by omega) (by decide)) dL_reads_163 rfl ?_
                refine k_st (st2 := (.int (hM p) :: _)) (congrArg (fun z => Value.int z :: _) (show hM (nI p).toNatClampNeg = hM p from congrArg hM (nI_clamp (n := p) (by omega)))) ?_
                refine k_isub (q := 165) C dL_reads_164 rfl ?_
                refine k_goto (q := 170) C dL_reads_165 (by decide) ?_
                exact k_st (congrArg (fun z => Value.int z :: _) (show (sMeet gM (sM 0) (sM 1)) - (hM p) = mRn hM nM (sMeet gM (sM 0) (sM 1)) (mC (sClose (mLit oM) hM tM sM gM) (mD hM sM gM) nM) 2 from by first | exact (mRn_w2 ep2 hp2 c_155).symm | exact (mRn_no c_155).symm)) J_153
            refine k_iload (q := 140) C 1 dL_reads_138 rfl rfl ?_
            refine k_ifB_eq (tgt := 148) (q := 143) C dL_reads_140 (by decide) rfl ?_ ?_
            · intro c_140
              refine k_ldc (q := 150) (v := -99999) C (List.mem_of_getElem? (i := 1) rfl) dL_reads_148 rfl ?_
              exact k_st (congrArg (fun z => Value.int z :: _) (show -99999 = mRn hM nM (sMeet gM (sM 0) (sM 1)) (mC (sClose (mLit oM) hM tM sM gM) (mD hM sM gM) nM) 1 from by first | exact (mRn_w1 hmc c_140).symm | exact (mRn_no c_140).symm)) J_138
            · intro c_140
              refine k_iload (q := 145) C 6 dL_reads_143 rfl rfl ?_
              refine k_goto (q := 150) C dL_reads_145 (by decide) ?_
              exact k_st (congrArg (fun z => Value.int z :: _) (show x = mRn hM nM (sMeet gM (sM 0) (sM 1)) (mC (sClose (mLit oM) hM tM sM gM) (mD hM sM gM) nM) 1 from by first | exact (mRn_w1 hmc c_140).symm | exact (mRn_no c_140).symm)) J_138
          refine k_iload (q := 125) C 1 dL_reads_123 rfl rfl ?_
          refine k_ifB_eq (tgt := 133) (q := 128) C dL_reads_125 (by decide) rfl ?_ ?_
          · intro c_125
            refine k_ldc (q := 135) (v := -99999) C (List.mem_of_getElem? (i := 1) rfl) dL_reads_133 rfl ?_
            exact k_st (congrArg (fun z => Value.int z :: _) (show -99999 = mRn hM nM (sMeet gM (sM 0) (sM 1)) (mC (sClose (mLit oM) hM tM sM gM) (mD hM sM gM) nM) 0 from by first | exact (mRn_w0 c_125).symm | exact (mRn_no c_125).symm)) J_123
          · intro c_125
            refine k_iload (q := 130) C 0 dL_reads_128 rfl rfl ?_
            refine k_goto (q := 135) C dL_reads_130 (by decide) ?_
            exact k_st (congrArg (fun z => Value.int z :: _) (show sMeet gM (sM 0) (sM 1) = mRn hM nM (sMeet gM (sM 0) (sM 1)) (mC (sClose (mLit oM) hM tM sM gM) (mD hM sM gM) nM) 0 from by first | exact (mRn_w0 c_125).symm | exact (mRn_no c_125).symm)) J_123
        refine k_aload_n (q := 92) C 1 dL_reads_91 rfl rfl ?_
        refine k_iconst (q := 93) (v := 4) C dL_reads_92 (by decide) rfl ?_
        refine k_iald (q := 94) C 0 rfl (vp_in_nI (n := 4) (by decide) (by decide)) dL_reads_93 rfl ?_
        refine k_st (st2 := (.int ((qSt nM oM sM gM knM loM lfM) 4) :: _)) (congrArg (fun z => Value.int z :: _) (show (qSt nM oM sM gM knM loM lfM) (4 : Int32).toNatClampNeg = (qSt nM oM sM gM knM loM lfM) 4 from congrArg (qSt nM oM sM gM knM loM lfM) (nI_clamp (n := 4) (by decide)))) ?_
        refine k_st (st2 := (.int (sM 0) :: _)) (congrArg (fun z => Value.int z :: _) (show (qSt nM oM sM gM knM loM lfM) 4 = sM 0 from mSt_s (k := 0) (by decide))) ?_
        refine k_aload_n (q := 95) C 1 dL_reads_94 rfl rfl ?_
        refine k_iconst (q := 96) (v := 5) C dL_reads_95 (by decide) rfl ?_
        refine k_iald (q := 97) C 0 rfl (vp_in_nI (n := 5) (by decide) (by decide)) dL_reads_96 rfl ?_
        refine k_st (st2 := (.int ((qSt nM oM sM gM knM loM lfM) 5) :: _)) (congrArg (fun z => Value.int z :: _) (show (qSt nM oM sM gM knM loM lfM) (5 : Int32).toNatClampNeg = (qSt nM oM sM gM knM loM lfM) 5 from congrArg (qSt nM oM sM gM knM loM lfM) (nI_clamp (n := 5) (by decide)))) ?_
        refine k_st (st2 := (.int (sM 1) :: _)) (congrArg (fun z => Value.int z :: _) (show (qSt nM oM sM gM knM loM lfM) 5 = sM 1 from mSt_s (k := 1) (by decide))) ?_
        refine k_icmp_le (tgt := 117) (q := 100) C dL_reads_97 (by decide) rfl ?_ ?_
        · intro c_97
          refine k_ldc (q := 119) (v := -99999) C (List.mem_of_getElem? (i := 1) rfl) dL_reads_117 rfl ?_
          exact k_st (congrArg (fun z => Value.int z :: _) (show -99999 = sMeet gM (sM 0) (sM 1) from by first | exact (if_pos c_97).symm | exact (if_neg (Int32.not_lt.mpr c_97)).symm)) J_91
        · intro c_97
          refine k_bipush (q := 102) (v := 10) C dL_reads_100 (by decide +kernel) rfl ?_
          refine k_aload_n (q := 103) C 1 dL_reads_102 rfl rfl ?_
          refine k_iconst (q := 104) (v := 0) C dL_reads_103 (by decide) rfl ?_
          refine k_iald (q := 105) C 0 rfl (vp_in_nI (n := 0) (by decide) (by decide)) dL_reads_104 rfl ?_
          refine k_st (st2 := (.int ((qSt nM oM sM gM knM loM lfM) 0) :: _)) (congrArg (fun z => Value.int z :: _) (show (qSt nM oM sM gM knM loM lfM) (0 : Int32).toNatClampNeg = (qSt nM oM sM gM knM loM lfM) 0 from congrArg (qSt nM oM sM gM knM loM lfM) (nI_clamp (n := 0) (by decide)))) ?_
          refine k_st (st2 := (.int (gM 0) :: _)) (congrArg (fun z => Value.int z :: _) (show (qSt nM oM sM gM knM loM lfM) 0 = gM 0 from mSt_g (k := 0) (by decide))) ?_
          refine k_imul (q := 106) C dL_reads_105 rfl ?_
          refine k_aload_n (q := 107) C 1 dL_reads_106 rfl rfl ?_
          refine k_iconst (q := 108) (v := 4) C dL_reads_107 (by decide) rfl ?_
          refine k_iald (q := 109) C 0 rfl (vp_in_nI (n := 4) (by decide) (by decide)) dL_reads_108 rfl ?_
          refine k_st (st2 := (.int ((qSt nM oM sM gM knM loM lfM) 4) :: _)) (congrArg (fun z => Value.int z :: _) (show (qSt nM oM sM gM knM loM lfM) (4 : Int32).toNatClampNeg = (qSt nM oM sM gM knM loM lfM) 4 from congrArg (qSt nM oM sM gM knM loM lfM) (nI_clamp (n := 4) (by decide)))) ?_
          refine k_st (st2 := (.int (sM 0) :: _)) (congrArg (fun z => Value.int z :: _) (show (qSt nM oM sM gM knM loM lfM) 4 = sM 0 from mSt_s (k := 0) (by decide))) ?_
          refine k_aload_n (q := 110) C 1 dL_reads_109 rfl rfl ?_
          refine k_iconst (q := 111) (v := 5) C dL_reads_110 (by decide) rfl ?_
          refine k_iald (q := 112) C 0 rfl (vp_in_nI (n := 5) (by decide) (by decide)) dL_reads_111 rfl ?_
          refine k_st (st2 := (.int ((qSt nM oM sM gM knM loM lfM) 5) :: _)) (congrArg (fun z => Value.int z :: _) (show (qSt nM oM sM gM knM loM lfM) (5 : Int32).toNatClampNeg = (qSt nM oM sM gM knM loM lfM) 5 from congrArg (qSt nM oM sM gM knM loM lfM) (nI_clamp (n := 5) (by decide)))) ?_
          refine k_st (st2 := (.int (sM 1) :: _)) (congrArg (fun z => Value.int z :: _) (show (qSt nM oM sM gM knM loM lfM) 5 = sM 1 from mSt_s (k := 1) (by decide))) ?_
          refine k_isub (q := 113) C dL_reads_112 rfl ?_
          refine k_idiv (q := 114) C dL_reads_113 (k_ne_sub c_97) rfl ?_
          refine k_goto (q := 119) C dL_reads_114 (by decide) ?_
          exact k_st (congrArg (fun z => Value.int z :: _) (show (10 * (gM 0)) / ((sM 0) - (sM 1)) = sMeet gM (sM 0) (sM 1) from by first | exact (if_pos c_97).symm | exact (if_neg (Int32.not_lt.mpr c_97)).symm)) J_91
      have hmc := rdP_mC hn hx
      refine k_iload (q := 72) C 4 dL_reads_70 rfl rfl ?_
      refine k_if_lt (tgt := 88) (q := 75) C dL_reads_72 (by decide) rfl ?_ ?_
      · intro c_72
        refine k_iconst (q := 89) (v := 0) C dL_reads_88 (by decide) rfl ?_
        exact k_st (congrArg (fun z => Value.int z :: _) (show 0 = bI (lIs (sMeet gM (sM 0) (sM 1)) (mC (sClose (mLit oM) hM tM sM gM) (mD hM sM gM) nM)) from by first | exact lIs_t hmc hn hs0 hs1 hg0 c_72 c_81 | exact lIs_f1 hmc hn c_72 | exact lIs_f2 c_81)) J_70
      · intro c_72
        refine k_aload_n (q := 76) C 0 dL_reads_75 rfl rfl ?_
        refine k_iconst (q := 77) (v := 4) C dL_reads_76 (by decide) rfl ?_
        refine k_iald (q := 78) C 0 rfl (vp_in_nI (n := 4) (by decide) (by decide)) dL_reads_77 rfl ?_
        refine k_st (st2 := (.int ((qSt nM oM sM gM knM loM lfM) 4) :: _)) (congrArg (fun z => Value.int z :: _) (show (qSt nM oM sM gM knM loM lfM) (4 : Int32).toNatClampNeg = (qSt nM oM sM gM knM loM lfM) 4 from congrArg (qSt nM oM sM gM knM loM lfM) (nI_clamp (n := 4) (by decide)))) ?_
        refine k_st (st2 := (.int (sM 0) :: _)) (congrArg (fun z => Value.int z :: _) (show (qSt nM oM sM gM knM loM lfM) 4 = sM 0 from mSt_s (k := 0) (by decide))) ?_
        refine k_aload_n (q := 79) C 0 dL_reads_78 rfl rfl ?_
        refine k_iconst (q := 80) (v := 5) C dL_reads_79 (by decide) rfl ?_
        refine k_iald (q := 81) C 0 rfl (vp_in_nI (n := 5) (by decide) (by decide)) dL_reads_80 rfl ?_
        refine k_st (st2 := (.int ((qSt nM oM sM gM knM loM lfM) 5) :: _)) (congrArg (fun z => Value.int z :: _) (show (qSt nM oM sM gM knM loM lfM) (5 : Int32).toNatClampNeg = (qSt nM oM sM gM knM loM lfM) 5 from congrArg (qSt nM oM sM gM knM loM lfM) (nI_clamp (n := 5) (by decide)))) ?_
        refine k_st (st2 := (.int (sM 1) :: _)) (congrArg (fun z => Value.int z :: _) (show (qSt nM oM sM gM knM loM lfM) 5 = sM 1 from mSt_s (k := 1) (by decide))) ?_
        refine k_icmp_le (tgt := 88) (q := 84) C dL_reads_81 (by decide) rfl ?_ ?_
        · intro c_81
          refine k_iconst (q := 89) (v := 0) C dL_reads_88 (by decide) rfl ?_
          exact k_st (congrArg (fun z => Value.int z :: _) (show 0 = bI (lIs (sMeet gM (sM 0) (sM 1)) (mC (sClose (mLit oM) hM tM sM gM) (mD hM sM gM) nM)) from by first | exact lIs_t hmc hn hs0 hs1 hg0 c_72 c_81 | exact lIs_f1 hmc hn c_72 | exact lIs_f2 c_81)) J_70
        · intro c_81
          refine k_iconst (q := 85) (v := 1) C dL_reads_84 (by decide) rfl ?_
          refine k_goto (q := 89) C dL_reads_85 (by decide) ?_
          exact k_st (congrArg (fun z => Value.int z :: _) (show 1 = bI (lIs (sMeet gM (sM 0) (sM 1)) (mC (sClose (mLit oM) hM tM sM gM) (mD hM sM gM) nM)) from by first | exact lIs_t hmc hn hs0 hs1 hg0 c_72 c_81 | exact lIs_f1 hmc hn c_72 | exact lIs_f2 c_81)) J_70
    · intro c_13
      have hi0 : 0 < i := by
        rcases Nat.eq_zero_or_pos i with q | q
        · exfalso; rw [q] at c_13; exact absurd c_13 (by decide)
        · exact q
      have e_16_5 : iI ((i : Int) - 1) = nI (i - 1) := by rw [← iI_nI]; congr 1; omega
      rw [e_16_5]
      refine k_iload (q := 18) C 5 dL_reads_16 rfl rfl ?_
      refine k_aload_n (q := 19) C 0 dL_reads_18 rfl rfl ?_
      refine k_aload_n (q := 20) C 1 dL_reads_19 rfl rfl ?_
      refine k_aload_n (q := 21) C 2 dL_reads_20 rfl rfl ?_
      refine k_callSI (n := 4) (q := 24) (pre := ([] : va_W)) (post := ([] : va_W)) (w2 := (wLa e cy (qSt nM oM sM gM knM loM lfM) hM tM lM bM rM)) (As := [.int (nI (i - 1)), .ref (e 0), .ref (e 1), .ref (e 4)]) (rest := []) C (c_L_close cy e nM oM sM gM knM loM lfM hM tM lM bM rM (i - 1) hn (by omega) hb ho) gL_reads_L_close rfl rfl rfl (by decide +kernel) (k_room hR (by decide)) ⟨Nat.zero_le _, Nat.zero_le _⟩  rfl rfl (Nat.le_of_ble_eq_true rfl) ((List.append_nil _).symm) (List.append_nil _) dL_reads_21 rfl ?_
      refine k_ifB_eq (tgt := 60) (q := 27) C dL_reads_24 (by decide) rfl ?_ ?_
      · intro c_24
        refine k_iload (q := 62) C 4 dL_reads_60 rfl rfl ?_
        refine k_istore (q := 64) (fr2 := [(4, .int x), (0, .ref (e 0)), (1, .ref (e 1)), (2, .ref (e 4)), (3, .ref (e 5)), (5, .int (nI (i - 1)))]) C dL_reads_62 (by decide) rfl rfl ?_
        refine k_iinc (q := 67) (v := iI (((i - 1 : Nat) : Int) - 1)) (fr2 := [(5, .int (iI (((i - 1 : Nat) : Int) - 1))), (4, .int x), (0, .ref (e 0)), (1, .ref (e 1)), (2, .ref (e 4)), (3, .ref (e 5))]) C 5 dL_reads_64 rfl ((by rw [← iI_nI, show (Int32.ofInt (-1)) = iI (-1) from rfl, iI_add]; rfl)) (by decide) rfl rfl ?_
        refine k_goto (q := 11) C dL_reads_67 (by decide) ?_
        refine k_fr (fr2 := [(0, .ref (e 0)), (1, .ref (e 1)), (2, .ref (e 4)), (3, .ref (e 5)), (4, .int x), (5, .int (iI (((i - 1 : Nat) : Int) - 1)))]) ⟨[2, 3, 4, 5, 1, 0], rfl⟩ ?_
        exact ih (i - 1) x (by omega) (by omega) (by first | exact rdP_n hi0 hx c_24 | exact rdP_y1 hi0 hi hn hx c_24 c_29 | exact rdP_y2 hi0 hi hn hp hx c_24 c_52 | exact rdP_n2 hi0 hn hp hx c_52)
      · intro c_24
        refine k_iload (q := 29) C 4 dL_reads_27 rfl rfl ?_
        refine k_if_lt (tgt := 55) (q := 32) C dL_reads_29 (by decide) rfl ?_ ?_
        · intro c_29
          refine k_iload (q := 57) C 5 dL_reads_55 rfl rfl ?_
          refine k_goto (q := 62) C dL_reads_57 (by decide) ?_
          refine k_istore (q := 64) (fr2 := [(4, .int (nI (i - 1))), (0, .ref (e 0)), (1, .ref (e 1)), (2, .ref (e 4)), (3, .ref (e 5)), (5, .int (nI (i - 1)))]) C dL_reads_62 (by decide) rfl rfl ?_
          refine k_iinc (q := 67) (v := iI (((i - 1 : Nat) : Int) - 1)) (fr2 := [(5, .int (iI (((i - 1 : Nat) : Int) - 1))), (4, .int (nI (i - 1))), (0, .ref (e 0)), (1, .ref (e 1)), (2, .ref (e 4)), (3, .ref (e 5))]) C 5 dL_reads_64 rfl ((by rw [← iI_nI, show (Int32.ofInt (-1)) = iI (-1) from rfl, iI_add]; rfl)) (by decide) rfl rfl ?_
          refine k_goto (q := 11) C dL_reads_67 (by decide) ?_
          refine k_fr (fr2 := [(0, .ref (e 0)), (1, .ref (e 1)), (2, .ref (e 4)), (3, .ref (e 5)), (4, .int (nI (i - 1))), (5, .int (iI (((i - 1 : Nat) : Int) - 1)))]) ⟨[2, 3, 4, 5, 1, 0], rfl⟩ ?_
          exact ih (i - 1) (nI (i - 1)) (by omega) (by omega) (by first | exact rdP_n hi0 hx c_24 | exact rdP_y1 hi0 hi hn hx c_24 c_29 | exact rdP_y2 hi0 hi hn hp hx c_24 c_52 | exact rdP_n2 hi0 hn hp hx c_52)
        · intro c_29
          obtain ⟨p, ep, hp⟩ := rdP_ge hx c_29
          obtain rfl : x = nI p := ep
          refine k_iload (q := 34) C 5 dL_reads_32 rfl rfl ?_
          refine k_aload_n (q := 35) C 0 dL_reads_34 rfl rfl ?_
          refine k_aload_n (q := 36) C 1 dL_reads_35 rfl rfl ?_
          refine k_callSI (n := 3) (q := 39) (pre := ([] : va_W)) (post := ([] : va_W)) (w2 := (wLa e cy (qSt nM oM sM gM knM loM lfM) hM tM lM bM rM)) (As := [.int (nI (i - 1)), .ref (e 0), .ref (e 1)]) (rest := []) C (c_L_apart cy e nM oM sM gM knM loM lfM hM tM lM bM rM (i - 1) (by omega)) gL_reads_L_apart rfl rfl rfl (by decide +kernel) (k_room hR (by decide)) ⟨Nat.zero_le _, Nat.zero_le _⟩  rfl rfl (Nat.le_of_ble_eq_true rfl) ((List.append_nil _).symm) (List.append_nil _) dL_reads_36 rfl ?_
          refine k_callSI (n := 1) (q := 42) (pre := ([] : va_W)) (post := (wLa e cy (qSt nM oM sM gM knM loM lfM) hM tM lM bM rM)) (w2 := (wLa e cy (qSt nM oM sM gM knM loM lfM) hM tM lM bM rM)) (As := [.int (sDist hM gM (i - 1) (sM 0) (sM 1))]) (rest := []) C (c_L_size (sDist hM gM (i - 1) (sM 0) (sM 1))) gL_reads_L_size rfl rfl rfl (by decide +kernel) (k_room hR (by decide)) ⟨Nat.zero_le _, Nat.zero_le _⟩  rfl rfl (Nat.le_of_ble_eq_true rfl) (rfl) (rfl) dL_reads_39 rfl ?_
          refine k_iload (q := 44) C 4 dL_reads_42 rfl rfl ?_
          refine k_aload_n (q := 45) C 0 dL_reads_44 rfl rfl ?_
          refine k_aload_n (q := 46) C 1 dL_reads_45 rfl rfl ?_
          refine k_callSI (n := 3) (q := 49) (pre := ([] : va_W)) (post := ([] : va_W)) (w2 := (wLa e cy (qSt nM oM sM gM knM loM lfM) hM tM lM bM rM)) (As := [.int (nI p), .ref (e 0), .ref (e 1)]) (rest := [.int (mAbs (sDist hM gM (i - 1) (sM 0) (sM 1)))]) C (c_L_apart cy e nM oM sM gM knM loM lfM hM tM lM bM rM p (by omega)) gL_reads_L_apart rfl rfl rfl (by decide +kernel) (k_room hR (by decide)) ⟨Nat.zero_le _, Nat.zero_le _⟩  rfl rfl (Nat.le_of_ble_eq_true rfl) ((List.append_nil _).symm) (List.append_nil _) dL_reads_46 rfl ?_
          refine k_callSI (n := 1) (q := 52) (pre := ([] : va_W)) (post := (wLa e cy (qSt nM oM sM gM knM loM lfM) hM tM lM bM rM)) (w2 := (wLa e cy (qSt nM oM sM gM knM loM lfM) hM tM lM bM rM)) (As := [.int (sDist hM gM p (sM 0) (sM 1))]) (rest := [.int (mAbs (sDist hM gM (i - 1) (sM 0) (sM 1)))]) C (c_L_size (sDist hM gM p (sM 0) (sM 1))) gL_reads_L_size rfl rfl rfl (by decide +kernel) (k_room hR (by decide)) ⟨Nat.zero_le _, Nat.zero_le _⟩  rfl rfl (Nat.le_of_ble_eq_true rfl) (rfl) (rfl) dL_reads_49 rfl ?_
          refine k_icmp_gt (tgt := 60) (q := 55) C dL_reads_52 (by decide) rfl ?_ ?_
          · intro c_52
            refine k_iload (q := 62) C 4 dL_reads_60 rfl rfl ?_
            refine k_istore (q := 64) (fr2 := [(4, .int (nI p)), (0, .ref (e 0)), (1, .ref (e 1)), (2, .ref (e 4)), (3, .ref (e 5)), (5, .int (nI (i - 1)))]) C dL_reads_62 (by decide) rfl rfl ?_
            refine k_iinc (q := 67) (v := iI (((i - 1 : Nat) : Int) - 1)) (fr2 := [(5, .int (iI (((i - 1 : Nat) : Int) - 1))), (4, .int (nI p)), (0, .ref (e 0)), (1, .ref (e 1)), (2, .ref (e 4)), (3, .ref (e 5))]) C 5 dL_reads_64 rfl ((by rw [← iI_nI, show (Int32.ofInt (-1)) = iI (-1) from rfl, iI_add]; rfl)) (by decide) rfl rfl ?_
            refine k_goto (q := 11) C dL_reads_67 (by decide) ?_
            refine k_fr (fr2 := [(0, .ref (e 0)), (1, .ref (e 1)), (2, .ref (e 4)), (3, .ref (e 5)), (4, .int (nI p)), (5, .int (iI (((i - 1 : Nat) : Int) - 1)))]) ⟨[2, 3, 4, 5, 1, 0], rfl⟩ ?_
            exact ih (i - 1) (nI p) (by omega) (by omega) (by first | exact rdP_n hi0 hx c_24 | exact rdP_y1 hi0 hi hn hx c_24 c_29 | exact rdP_y2 hi0 hi hn hp hx c_24 c_52 | exact rdP_n2 hi0 hn hp hx c_52)
          · intro c_52
            refine k_iload (q := 57) C 5 dL_reads_55 rfl rfl ?_
            refine k_goto (q := 62) C dL_reads_57 (by decide) ?_
            refine k_istore (q := 64) (fr2 := [(4, .int (nI (i - 1))), (0, .ref (e 0)), (1, .ref (e 1)), (2, .ref (e 4)), (3, .ref (e 5)), (5, .int (nI (i - 1)))]) C dL_reads_62 (by decide) rfl rfl ?_
            refine k_iinc (q := 67) (v := iI (((i - 1 : Nat) : Int) - 1)) (fr2 := [(5, .int (iI (((i - 1 : Nat) : Int) - 1))), (4, .int (nI (i - 1))), (0, .ref (e 0)), (1, .ref (e 1)), (2, .ref (e 4)), (3, .ref (e 5))]) C 5 dL_reads_64 rfl ((by rw [← iI_nI, show (Int32.ofInt (-1)) = iI (-1) from rfl, iI_add]; rfl)) (by decide) rfl rfl ?_
            refine k_goto (q := 11) C dL_reads_67 (by decide) ?_
            refine k_fr (fr2 := [(0, .ref (e 0)), (1, .ref (e 1)), (2, .ref (e 4)), (3, .ref (e 5)), (4, .int (nI (i - 1))), (5, .int (iI (((i - 1 : Nat) : Int) - 1)))]) ⟨[2, 3, 4, 5, 1, 0], rfl⟩ ?_
            exact ih (i - 1) (nI (i - 1)) (by omega) (by omega) (by first | exact rdP_n hi0 hx c_24 | exact rdP_y1 hi0 hi hn hx c_24 c_29 | exact rdP_y2 hi0 hi hn hp hx c_24 c_52 | exact rdP_n2 hi0 hn hp hx c_52)
set_option maxHeartbeats 4000000 in
set_option maxRecDepth 100000 in
theorem c_L_reads (cy : Nat → ClassId) (e : Nat → Nat) (nM : Nat) (oM : Nat → Int32) (sM : Nat → Int32) (gM : Nat → Int32) (knM : Nat) (loM : Int32) (lfM : Int32) (hM : Nat → Int32) (tM : Nat → Int32) (lM : Nat → Int32) (bM : Nat → Int32) (rM : Nat → Int32)  (hn : nM ≤ 6) (hb : lB nM hM tM (gM 1) bM) (ho : mBin oM) (hs0 : sOk (sM 0)) (hs1 : sOk (sM 1)) (hg0 : 50 ≤ (gM 0).toInt ∧ (gM 0).toInt ≤ 1000) : kI yL_reads wsL_reads rm_L_reads cy [.ref (e 0), .ref (e 1), .ref (e 4), .ref (e 5)] (wLa e cy (qSt nM oM sM gM knM loM lfM) hM tM lM bM rM) (bI (lIs (sMeet gM (sM 0) (sM 1)) (mC (sClose (mLit oM) hM tM sM gM) (mD hM sM gM) nM))) (wLa e cy (qSt nM oM sM gM knM loM lfM) hM tM lM bM (upd (upd (upd (upd rM 0 (mRn hM nM (sMeet gM (sM 0) (sM 1)) (mC (sClose (mLit oM) hM tM sM gM) (mD hM sM gM) nM) 0)) 1 (mRn hM nM (sMeet gM (sM 0) (sM 1)) (mC (sClose (mLit oM) hM tM sM gM) (mD hM sM gM) nM) 1)) 2 (mRn hM nM (sMeet gM (sM 0) (sM 1)) (mC (sClose (mLit oM) hM tM sM gM) (mD hM sM gM) nM) 2)) 3 (mRn hM nM (sMeet gM (sM 0) (sM 1)) (mC (sClose (mLit oM) hM tM sM gM) (mD hM sM gM) nM) 3))) := by
  refine kI_of (cc := cL_reads) (maxL := 8) (rt := .boolean) (by decide) rfl (kb_nar _) (Nat.le_of_ble_eq_true rfl) ?_
  intro X hR C E
  have C : kC X 8 RL cL_reads wsL_reads cy := C
  refine k_fr (fr2 := [(0, .ref (e 0)), (1, .ref (e 1)), (2, .ref (e 4)), (3, .ref (e 5))]) ⟨[0, 1, 2, 3], rfl⟩ ?_
  refine k_iconst (q := 1) (v := -1) C dL_reads_0 (by decide) rfl ?_
  refine k_istore (q := 3) (fr2 := [(4, .int (-1)), (0, .ref (e 0)), (1, .ref (e 1)), (2, .ref (e 4)), (3, .ref (e 5))]) C dL_reads_1 (by decide) rfl rfl ?_
  refine k_aload_n (q := 4) C 1 dL_reads_3 rfl rfl ?_
  refine k_bipush (q := 6) (v := 8) C dL_reads_4 (by decide +kernel) rfl ?_
  refine k_iald (q := 7) C 0 rfl (vp_in_nI (n := 8) (by decide) (by decide)) dL_reads_6 rfl ?_
  refine k_st (st2 := (.int ((qSt nM oM sM gM knM loM lfM) 8) :: _)) (congrArg (fun z => Value.int z :: _) (show (qSt nM oM sM gM knM loM lfM) (8 : Int32).toNatClampNeg = (qSt nM oM sM gM knM loM lfM) 8 from congrArg (qSt nM oM sM gM knM loM lfM) (nI_clamp (n := 8) (by decide)))) ?_
  refine k_st (st2 := (.int (nI nM) :: _)) (congrArg (fun z => Value.int z :: _) (show (qSt nM oM sM gM knM loM lfM) 8 = nI nM from rfl)) ?_
  refine k_iconst (q := 8) (v := 1) C dL_reads_7 (by decide) rfl ?_
  refine k_isub (q := 9) C dL_reads_8 rfl ?_
  refine k_st (st2 := (.int (iI ((nM : Int) - 1)) :: _)) (congrArg (fun z => Value.int z :: _) (show (nI nM) - 1 = iI ((nM : Int) - 1) from (show nI nM - 1 = _ from by rw [← iI_nI, show (1 : Int32) = iI 1 from rfl, iI_sub]))) ?_
  refine k_istore (q := 11) (fr2 := [(5, .int (iI ((nM : Int) - 1))), (4, .int (-1)), (0, .ref (e 0)), (1, .ref (e 1)), (2, .ref (e 4)), (3, .ref (e 5))]) C dL_reads_9 (by decide) rfl rfl ?_
  refine k_fr (fr2 := [(0, .ref (e 0)), (1, .ref (e 1)), (2, .ref (e 4)), (3, .ref (e 5)), (4, .int (-1)), (5, .int (iI ((nM : Int) - 1)))]) ⟨[2, 3, 4, 5, 1, 0], rfl⟩ ?_
  exact lp_L_reads_11 cy e nM oM sM gM knM loM lfM hM tM lM bM rM hn hb ho hs0 hs1 hg0 X hR C E _ nM (-1) (Nat.lt_succ_self _) (Nat.le_refl _) rdP_0
abbrev rm_L_best : Room := { frames := 2, cells := 0, slots := 0, locals := 45 }
set_option maxHeartbeats 4000000 in
set_option maxRecDepth 100000 in
theorem lp_L_best_19 (cy : Nat → ClassId) (e : Nat → Nat) (nM : Nat) (oM : Nat → Int32) (sM : Nat → Int32) (gM : Nat → Int32) (knM : Nat) (loM : Int32) (lfM : Int32) (hM : Nat → Int32) (tM : Nat → Int32) (lM : Nat → Int32) (bM : Nat → Int32) (rM : Nat → Int32) (j : Nat) (p : Nat)  (hj : j < 2) (hp : p < 6) (hh : 50 ≤ (hM p).toInt ∧ (hM p).toInt ≤ 3000) (hg0 : 50 ≤ (gM 0).toInt ∧ (gM 0).toInt ≤ 1000) (hs : sOk (sM (1 - j))) (X : kX) (hR : xR X = rm_L_best) (C : kC X 9 RL cL_best wsL_best cy) (E : kEnd X 9 cL_best (iI (sTry gM hM sM j p)) (wLa e cy (qSt nM oM sM gM knM loM lfM) hM tM lM bM rM)) : ∀ (fu : Nat) (i : Nat) (s1 : Nat → Int32), 61 - i < fu → (i ≤ 61) → (upd s1 j (sM j) = sM) → kG X 9 0 0 (wLa e cy (qSt nM oM s1 gM knM loM lfM) hM tM lM bM rM) 19 [(0, .int (nI j)), (1, .int (nI p)), (2, .ref (e 0)), (3, .ref (e 1)), (4, .int (sM j)), (5, .int (iI (lBe (sFar gM hM sM j p) i).1)), (6, .int (lBe (sFar gM hM sM j p) i).2), (7, .int (iI (30 - (i : Int))))] [] := by
  intro fu
  induction fu with
  | zero => intro i s1 hfu; exact absurd hfu (Nat.not_lt_zero _)
  | succ fu ih =>
    intro i s1 hfu hi hs1
    refine k_iload (q := 21) C 7 dL_best_19 rfl rfl ?_
    refine k_bipush (q := 23) (v := -30) C dL_best_21 (by decide +kernel) rfl ?_
    refine k_icmp_lt (tgt := 82) (q := 26) C dL_best_23 (by decide) rfl ?_ ?_
    · intro c_23
      have c1 : 30 - (i : Int) < -30 := (iI_lt (b := -30) (by omega) (by omega)).mp c_23
      have hie : i = 61 := by omega
      obtain rfl : i = 61 := hie
      refine k_aload_n (q := 83) C 2 dL_best_82 rfl rfl ?_
      refine k_iconst (q := 84) (v := 4) C dL_best_83 (by decide) rfl ?_
      refine k_iload_n (q := 85) C 0 dL_best_84 rfl rfl ?_
      refine k_iadd (q := 86) C dL_best_85 rfl ?_
      refine k_st (st2 := (.int (nI (4 + j)) :: _)) (congrArg (fun z => Value.int z :: _) (show 4 + (nI j) = nI (4 + j) from nI_add 4 j)) ?_
      refine k_iload (q := 88) C 4 dL_best_86 rfl rfl ?_
      refine k_iast (q := 89) (w2 := (wLa e cy (qSt nM oM (upd s1 j (sM j)) gM knM loM lfM) hM tM lM bM rM)) C 0 rfl (vp_in_nI (n := 4 + j) (by omega) (by decide)) (by rw [nI_clamp (n := 4 + j) (by omega)]; exact wLa_q (mSt_ws (k := j) (by omega))) dL_best_88 rfl ?_
      refine k_iload (q := 91) C 5 dL_best_89 rfl rfl ?_
      exact k_fin E dL_best_91 (lBe_try hj hh hg0 hs) (by rw [hs1])
    · intro c_23
      have c1 : ¬ 30 - (i : Int) < -30 := fun q => absurd ((iI_lt (b := -30) (by omega) (by omega)).mpr q) (Int32.not_lt.mpr c_23)
      refine k_aload_n (q := 27) C 2 dL_best_26 rfl rfl ?_
      refine k_iconst (q := 28) (v := 4) C dL_best_27 (by decide) rfl ?_
      refine k_iload_n (q := 29) C 0 dL_best_28 rfl rfl ?_
      refine k_iadd (q := 30) C dL_best_29 rfl ?_
      refine k_st (st2 := (.int (nI (4 + j)) :: _)) (congrArg (fun z => Value.int z :: _) (show 4 + (nI j) = nI (4 + j) from nI_add 4 j)) ?_
      refine k_iload (q := 32) C 7 dL_best_30 rfl rfl ?_
      refine k_iast (q := 33) (w2 := (wLa e cy (qSt nM oM (upd s1 j (iI (30 - (i : Int)))) gM knM loM lfM) hM tM lM bM rM)) C 0 rfl (vp_in_nI (n := 4 + j) (by omega) (by decide)) (by rw [nI_clamp (n := 4 + j) (by omega)]; exact wLa_q (mSt_ws (k := j) (by omega))) dL_best_32 rfl ?_
      refine k_iload_n (q := 34) C 1 dL_best_33 rfl rfl ?_
      refine k_aload_n (q := 35) C 2 dL_best_34 rfl rfl ?_
      refine k_aload_n (q := 36) C 3 dL_best_35 rfl rfl ?_
      refine k_callSI (n := 3) (q := 39) (pre := ([] : va_W)) (post := ([] : va_W)) (w2 := (wLa e cy (qSt nM oM (upd s1 j (iI (30 - (i : Int)))) gM knM loM lfM) hM tM lM bM rM)) (As := [.int (nI p), .ref (e 0), .ref (e 1)]) (rest := []) C (c_L_apart cy e nM oM (upd s1 j (iI (30 - (i : Int)))) gM knM loM lfM hM tM lM bM rM p hp) gL_best_L_apart rfl rfl rfl (by decide +kernel) (k_room hR (by decide)) ⟨Nat.zero_le _, Nat.zero_le _⟩  rfl rfl (Nat.le_of_ble_eq_true rfl) ((List.append_nil _).symm) (List.append_nil _) dL_best_36 rfl ?_
      refine k_callSI (n := 1) (q := 42) (pre := ([] : va_W)) (post := (wLa e cy (qSt nM oM (upd s1 j (iI (30 - (i : Int)))) gM knM loM lfM) hM tM lM bM rM)) (w2 := (wLa e cy (qSt nM oM (upd s1 j (iI (30 - (i : Int)))) gM knM loM lfM) hM tM lM bM rM)) (As := [.int (sDist hM gM p ((upd s1 j (iI (30 - (i : Int)))) 0) ((upd s1 j (iI (30 - (i : Int)))) 1))]) (rest := []) C (c_L_size (sDist hM gM p ((upd s1 j (iI (30 - (i : Int)))) 0) ((upd s1 j (iI (30 - (i : Int)))) 1))) gL_best_L_size rfl rfl rfl (by decide +kernel) (k_room hR (by decide)) ⟨Nat.zero_le _, Nat.zero_le _⟩  rfl rfl (Nat.le_of_ble_eq_true rfl) (rfl) (rfl) dL_best_39 rfl ?_
      refine k_st (st2 := (.int (sFar gM hM sM j p (30 - (i : Int))) :: _)) (congrArg (fun z => Value.int z :: _) (show mAbs (sDist hM gM p ((upd s1 j (iI (30 - (i : Int)))) 0) ((upd s1 j (iI (30 - (i : Int)))) 1)) = sFar gM hM sM j p (30 - (i : Int)) from mFar (g := gM) (h := hM) (s := sM) (s1 := s1) (j := j) (p := p) (z := 30 - (i : Int)) hj hs1)) ?_
      refine k_istore (q := 44) (fr2 := [(8, .int (sFar gM hM sM j p (30 - (i : Int)))), (0, .int (nI j)), (1, .int (nI p)), (2, .ref (e 0)), (3, .ref (e 1)), (4, .int (sM j)), (5, .int (iI (lBe (sFar gM hM sM j p) i).1)), (6, .int (lBe (sFar gM hM sM j p) i).2), (7, .int (iI (30 - (i : Int))))]) C dL_best_42 (by decide) rfl rfl ?_
      have J_44 : kG X 9 0 0 (wLa e cy (qSt nM oM (upd s1 j (iI (30 - (i : Int)))) gM knM loM lfM) hM tM lM bM rM) 58 [(8, .int (sFar gM hM sM j p (30 - (i : Int)))), (0, .int (nI j)), (1, .int (nI p)), (2, .ref (e 0)), (3, .ref (e 1)), (4, .int (sM j)), (5, .int (iI (lBe (sFar gM hM sM j p) i).1)), (6, .int (lBe (sFar gM hM sM j p) i).2), (7, .int (iI (30 - (i : Int))))] [.int (iI (lBe (sFar gM hM sM j p) (i + 1)).1)] := by
        refine k_istore (q := 60) (fr2 := [(5, .int (iI (lBe (sFar gM hM sM j p) (i + 1)).1)), (8, .int (sFar gM hM sM j p (30 - (i : Int)))), (0, .int (nI j)), (1, .int (nI p)), (2, .ref (e 0)), (3, .ref (e 1)), (4, .int (sM j)), (6, .int (lBe (sFar gM hM sM j p) i).2), (7, .int (iI (30 - (i : Int))))]) C dL_best_58 (by decide) rfl rfl ?_
        have J_60 : kG X 9 0 0 (wLa e cy (qSt nM oM (upd s1 j (iI (30 - (i : Int)))) gM knM loM lfM) hM tM lM bM rM) 74 [(5, .int (iI (lBe (sFar gM hM sM j p) (i + 1)).1)), (8, .int (sFar gM hM sM j p (30 - (i : Int)))), (0, .int (nI j)), (1, .int (nI p)), (2, .ref (e 0)), (3, .ref (e 1)), (4, .int (sM j)), (6, .int (lBe (sFar gM hM sM j p) i).2), (7, .int (iI (30 - (i : Int))))] [.int (lBe (sFar gM hM sM j p) (i + 1)).2] := by
          refine k_istore (q := 76) (fr2 := [(6, .int (lBe (sFar gM hM sM j p) (i + 1)).2), (5, .int (iI (lBe (sFar gM hM sM j p) (i + 1)).1)), (8, .int (sFar gM hM sM j p (30 - (i : Int)))), (0, .int (nI j)), (1, .int (nI p)), (2, .ref (e 0)), (3, .ref (e 1)), (4, .int (sM j)), (7, .int (iI (30 - (i : Int))))]) C dL_best_74 (by decide) rfl rfl ?_
          refine k_iinc (q := 79) (v := iI (30 - ((i + 1 : Nat) : Int))) (fr2 := [(7, .int (iI (30 - ((i + 1 : Nat) : Int)))), (6, .int (lBe (sFar gM hM sM j p) (i + 1)).2), (5, .int (iI (lBe (sFar gM hM sM j p) (i + 1)).1)), (8, .int (sFar gM hM sM j p (30 - (i : Int)))), (0, .int (nI j)), (1, .int (nI p)), (2, .ref (e 0)), (3, .ref (e 1)), (4, .int (sM j))]) C 8 dL_best_76 rfl ((by rw [show (Int32.ofInt (-1)) = iI (-1) from rfl, iI_add]; congr 1; omega)) (by decide) rfl rfl ?_
          refine k_goto (q := 19) C dL_best_79 (by decide) ?_
          refine k_fr (fr2 := [(0, .int (nI j)), (1, .int (nI p)), (2, .ref (e 0)), (3, .ref (e 1)), (4, .int (sM j)), (5, .int (iI (lBe (sFar gM hM sM j p) (i + 1)).1)), (6, .int (lBe (sFar gM hM sM j p) (i + 1)).2), (7, .int (iI (30 - ((i + 1 : Nat) : Int))))]) ⟨[4, 5, 6, 7, 8, 2, 1, 0], rfl⟩ ?_
          exact ih (i + 1) (upd s1 j (iI (30 - (i : Int)))) (by omega) (by omega) (upd_back hs1)
        refine k_iload (q := 62) C 1 dL_best_60 rfl rfl ?_
        refine k_iload (q := 64) C 7 dL_best_62 rfl rfl ?_
        refine k_icmp_gt (tgt := 72) (q := 67) C dL_best_64 (by decide) rfl ?_ ?_
        · intro c_64
          refine k_iload (q := 74) C 7 dL_best_72 rfl rfl ?_
          exact k_st (congrArg (fun z => Value.int z :: _) (show (lBe (sFar gM hM sM j p) i).2 = (lBe (sFar gM hM sM j p) (i + 1)).2 from by first | (rw [lBe_y c_64]; done) | (rw [lBe_n c_64]; done))) J_60
        · intro c_64
          refine k_iload (q := 69) C 1 dL_best_67 rfl rfl ?_
          refine k_goto (q := 74) C dL_best_69 (by decide) ?_
          exact k_st (congrArg (fun z => Value.int z :: _) (show sFar gM hM sM j p (30 - (i : Int)) = (lBe (sFar gM hM sM j p) (i + 1)).2 from by first | (rw [lBe_y c_64]; done) | (rw [lBe_n c_64]; done))) J_60
      refine k_iload (q := 46) C 0 dL_best_44 rfl rfl ?_
      refine k_iload (q := 48) C 7 dL_best_46 rfl rfl ?_
      refine k_icmp_gt (tgt := 56) (q := 51) C dL_best_48 (by decide) rfl ?_ ?_
      · intro c_48
        refine k_iload (q := 58) C 6 dL_best_56 rfl rfl ?_
        exact k_st (congrArg (fun z => Value.int z :: _) (show iI (lBe (sFar gM hM sM j p) i).1 = iI (lBe (sFar gM hM sM j p) (i + 1)).1 from by first | (rw [lBe_y c_48]; done) | (rw [lBe_n c_48]; done))) J_44
      · intro c_48
        refine k_iload (q := 53) C 8 dL_best_51 rfl rfl ?_
        refine k_goto (q := 58) C dL_best_53 (by decide) ?_
        exact k_st (congrArg (fun z => Value.int z :: _) (show iI (30 - (i : Int)) = iI (lBe (sFar gM hM sM j p) (i + 1)).1 from by first | (rw [lBe_y c_48]; done) | (rw [lBe_n c_48]; done))) J_44
set_option maxHeartbeats 4000000 in
set_option maxRecDepth 100000 in
theorem c_L_best (cy : Nat → ClassId) (e : Nat → Nat) (nM : Nat) (oM : Nat → Int32) (sM : Nat → Int32) (gM : Nat → Int32) (knM : Nat) (loM : Int32) (lfM : Int32) (hM : Nat → Int32) (tM : Nat → Int32) (lM : Nat → Int32) (bM : Nat → Int32) (rM : Nat → Int32) (j : Nat) (p : Nat)  (hj : j < 2) (hp : p < 6) (hh : 50 ≤ (hM p).toInt ∧ (hM p).toInt ≤ 3000) (hg0 : 50 ≤ (gM 0).toInt ∧ (gM 0).toInt ≤ 1000) (hs : sOk (sM (1 - j))) : kI yL_best wsL_best rm_L_best cy [.int (nI j), .int (nI p), .ref (e 0), .ref (e 1)] (wLa e cy (qSt nM oM sM gM knM loM lfM) hM tM lM bM rM) (iI (sTry gM hM sM j p)) (wLa e cy (qSt nM oM sM gM knM loM lfM) hM tM lM bM rM) := by
  refine kI_of (cc := cL_best) (maxL := 9) (rt := .int) (by decide) rfl (rfl) (Nat.le_of_ble_eq_true rfl) ?_
  intro X hR C E
  have C : kC X 9 RL cL_best wsL_best cy := C
  refine k_fr (fr2 := [(0, .int (nI j)), (1, .int (nI p)), (2, .ref (e 0)), (3, .ref (e 1))]) ⟨[0, 1, 2, 3], rfl⟩ ?_
  refine k_aload_n (q := 1) C 2 dL_best_0 rfl rfl ?_
  refine k_iconst (q := 2) (v := 4) C dL_best_1 (by decide) rfl ?_
  refine k_iload_n (q := 3) C 0 dL_best_2 rfl rfl ?_
  refine k_iadd (q := 4) C dL_best_3 rfl ?_
  refine k_st (st2 := (.int (nI (4 + j)) :: _)) (congrArg (fun z => Value.int z :: _) (show 4 + (nI j) = nI (4 + j) from nI_add 4 j)) ?_
  refine k_iald (q := 5) C 0 rfl (vp_in_nI (n := 4 + j) (by omega) (by decide)) dL_best_4 rfl ?_
  refine k_st (st2 := (.int ((qSt nM oM sM gM knM loM lfM) (4 + j)) :: _)) (congrArg (fun z => Value.int z :: _) (show (qSt nM oM sM gM knM loM lfM) (nI (4 + j)).toNatClampNeg = (qSt nM oM sM gM knM loM lfM) (4 + j) from congrArg (qSt nM oM sM gM knM loM lfM) (nI_clamp (n := 4 + j) (by omega)))) ?_
  refine k_st (st2 := (.int (sM j) :: _)) (congrArg (fun z => Value.int z :: _) (show (qSt nM oM sM gM knM loM lfM) (4 + j) = sM j from mSt_s (k := j) (by omega))) ?_
  refine k_istore (q := 7) (fr2 := [(4, .int (sM j)), (0, .int (nI j)), (1, .int (nI p)), (2, .ref (e 0)), (3, .ref (e 1))]) C dL_best_5 (by decide) rfl rfl ?_
  refine k_bipush (q := 9) (v := 30) C dL_best_7 (by decide +kernel) rfl ?_
  refine k_istore (q := 11) (fr2 := [(5, .int 30), (4, .int (sM j)), (0, .int (nI j)), (1, .int (nI p)), (2, .ref (e 0)), (3, .ref (e 1))]) C dL_best_9 (by decide) rfl rfl ?_
  refine k_ldc (q := 13) (v := 999999) C (List.mem_of_getElem? (i := 1) rfl) dL_best_11 rfl ?_
  refine k_istore (q := 15) (fr2 := [(6, .int 999999), (5, .int 30), (4, .int (sM j)), (0, .int (nI j)), (1, .int (nI p)), (2, .ref (e 0)), (3, .ref (e 1))]) C dL_best_13 (by decide) rfl rfl ?_
  refine k_bipush (q := 17) (v := 30) C dL_best_15 (by decide +kernel) rfl ?_
  refine k_istore (q := 19) (fr2 := [(7, .int 30), (6, .int 999999), (5, .int 30), (4, .int (sM j)), (0, .int (nI j)), (1, .int (nI p)), (2, .ref (e 0)), (3, .ref (e 1))]) C dL_best_17 (by decide) rfl rfl ?_
  refine k_fr (fr2 := [(0, .int (nI j)), (1, .int (nI p)), (2, .ref (e 0)), (3, .ref (e 1)), (4, .int (sM j)), (5, .int 30), (6, .int 999999), (7, .int 30)]) ⟨[4, 5, 6, 7, 3, 2, 1, 0], rfl⟩ ?_
  exact lp_L_best_19 cy e nM oM sM gM knM loM lfM hM tM lM bM rM j p hj hp hh hg0 hs X hR C E _ 0 sM (Nat.lt_succ_self _) (Nat.zero_le _) (upd_self sM j)
abbrev rm_L_drops : Room := { frames := 0, cells := 0, slots := 0, locals := 0 }
set_option maxHeartbeats 4000000 in
set_option maxRecDepth 100000 in
theorem lp_L_drops_16 (cy : Nat → ClassId) (e : Nat → Nat) (nM : Nat) (oM : Nat → Int32) (sM : Nat → Int32) (gM : Nat → Int32) (knM : Nat) (loM : Int32) (lfM : Int32) (hM : Nat → Int32) (tM : Nat → Int32) (lM : Nat → Int32) (bM : Nat → Int32) (rM : Nat → Int32) (p : Nat)  (hn : nM ≤ 6) (hp : p < nM) (X : kX) (hR : xR X = rm_L_drops) (C : kC X 6 RL cL_drops wsL_drops cy) (E : kEnd X 6 cL_drops (hM p) (wLa e cy (qSt (nM - 1) oM sM gM knM loM lfM) (sDn hM p nM) (sDn tM p nM) lM bM rM)) : ∀ (fu : Nat) (k : Nat), nM - k < fu → (p ≤ k) → (k + 1 ≤ nM) → kG X 6 0 0 (wLa e cy (qSt (nM - 1) oM sM gM knM loM lfM) (sDn hM p (k + 1)) (sDn tM p (k + 1)) lM bM rM) 16 [(0, .int (nI p)), (1, .ref (e 0)), (2, .ref (e 1)), (3, .ref (e 2)), (4, .int (hM p)), (5, .int (nI k))] [] := by
  intro fu
  induction fu with
  | zero => intro k hfu; exact absurd hfu (Nat.not_lt_zero _)
  | succ fu ih =>
    intro k hfu h1 h2
    refine k_iload (q := 18) C 5 dL_drops_16 rfl rfl ?_
    refine k_aload_n (q := 19) C 1 dL_drops_18 rfl rfl ?_
    refine k_bipush (q := 21) (v := 8) C dL_drops_19 (by decide +kernel) rfl ?_
    refine k_iald (q := 22) C 0 rfl (vp_in_nI (n := 8) (by decide) (by decide)) dL_drops_21 rfl ?_
    refine k_st (st2 := (.int ((qSt (nM - 1) oM sM gM knM loM lfM) 8) :: _)) (congrArg (fun z => Value.int z :: _) (show (qSt (nM - 1) oM sM gM knM loM lfM) (8 : Int32).toNatClampNeg = (qSt (nM - 1) oM sM gM knM loM lfM) 8 from congrArg (qSt (nM - 1) oM sM gM knM loM lfM) (nI_clamp (n := 8) (by decide)))) ?_
    refine k_st (st2 := (.int (nI (nM - 1)) :: _)) (congrArg (fun z => Value.int z :: _) (show (qSt (nM - 1) oM sM gM knM loM lfM) 8 = nI (nM - 1) from rfl)) ?_
    refine k_nicmp_ge (a := k) (b := nM - 1)  (tgt := 51) (q := 25) C dL_drops_22 (by decide) rfl (by omega) (by omega) ?_ ?_
    · intro c_22
      have hke : k + 1 = nM := by omega
      refine k_iload (q := 53) C 4 dL_drops_51 rfl rfl ?_
      exact k_fin E dL_drops_53 (rfl) (by rw [hke])
    · intro c_22
      refine k_aload_n (q := 26) C 2 dL_drops_25 rfl rfl ?_
      refine k_iload (q := 28) C 5 dL_drops_26 rfl rfl ?_
      refine k_aload_n (q := 29) C 2 dL_drops_28 rfl rfl ?_
      refine k_iload (q := 31) C 5 dL_drops_29 rfl rfl ?_
      refine k_iconst (q := 32) (v := 1) C dL_drops_31 (by decide) rfl ?_
      refine k_iadd (q := 33) C dL_drops_32 rfl ?_
      refine k_st (st2 := (.int (nI (k + 1)) :: _)) (congrArg (fun z => Value.int z :: _) (show (nI k) + 1 = nI (k + 1) from nI_add k 1)) ?_
      refine k_iald (q := 34) C 1 rfl (vp_in_nI (n := k + 1) (by omega) (by decide)) dL_drops_33 rfl ?_
      refine k_st (st2 := (.int ((sDn hM p (k + 1)) (k + 1)) :: _)) (congrArg (fun z => Value.int z :: _) (show (sDn hM p (k + 1)) (nI (k + 1)).toNatClampNeg = (sDn hM p (k + 1)) (k + 1) from congrArg (sDn hM p (k + 1)) (nI_clamp (n := k + 1) (by omega)))) ?_
      refine k_st (st2 := (.int (hM (k + 1)) :: _)) (congrArg (fun z => Value.int z :: _) (show (sDn hM p (k + 1)) (k + 1) = hM (k + 1) from sDn_at)) ?_
      refine k_iast (q := 35) (w2 := (wLa e cy (qSt (nM - 1) oM sM gM knM loM lfM) (upd (sDn hM p (k + 1)) k (hM (k + 1))) (sDn tM p (k + 1)) lM bM rM)) C 1 rfl (vp_in_nI (n := k) (by omega) (by decide)) (by rw [nI_clamp (n := k) (by omega)]; rfl) dL_drops_34 rfl ?_
      refine k_w (w2 := (wLa e cy (qSt (nM - 1) oM sM gM knM loM lfM) (sDn hM p (k + 1 + 1)) (sDn tM p (k + 1)) lM bM rM)) (by rw [sDn_k h1]) ?_
      refine k_aload_n (q := 36) C 3 dL_drops_35 rfl rfl ?_
      refine k_iload (q := 38) C 5 dL_drops_36 rfl rfl ?_
      refine k_aload_n (q := 39) C 3 dL_drops_38 rfl rfl ?_
      refine k_iload (q := 41) C 5 dL_drops_39 rfl rfl ?_
      refine k_iconst (q := 42) (v := 1) C dL_drops_41 (by decide) rfl ?_
      refine k_iadd (q := 43) C dL_drops_42 rfl ?_
      refine k_st (st2 := (.int (nI (k + 1)) :: _)) (congrArg (fun z => Value.int z :: _) (show (nI k) + 1 = nI (k + 1) from nI_add k 1)) ?_
      refine k_iald (q := 44) C 2 rfl (vp_in_nI (n := k + 1) (by omega) (by decide)) dL_drops_43 rfl ?_
      refine k_st (st2 := (.int ((sDn tM p (k + 1)) (k + 1)) :: _)) (congrArg (fun z => Value.int z :: _) (show (sDn tM p (k + 1)) (nI (k + 1)).toNatClampNeg = (sDn tM p (k + 1)) (k + 1) from congrArg (sDn tM p (k + 1)) (nI_clamp (n := k + 1) (by omega)))) ?_
      refine k_st (st2 := (.int (tM (k + 1)) :: _)) (congrArg (fun z => Value.int z :: _) (show (sDn tM p (k + 1)) (k + 1) = tM (k + 1) from sDn_at)) ?_
      refine k_iast (q := 45) (w2 := (wLa e cy (qSt (nM - 1) oM sM gM knM loM lfM) (sDn hM p (k + 1 + 1)) (upd (sDn tM p (k + 1)) k (tM (k + 1))) lM bM rM)) C 2 rfl (vp_in_nI (n := k) (by omega) (by decide)) (by rw [nI_clamp (n := k) (by omega)]; rfl) dL_drops_44 rfl ?_
      refine k_w (w2 := (wLa e cy (qSt (nM - 1) oM sM gM knM loM lfM) (sDn hM p (k + 1 + 1)) (sDn tM p (k + 1 + 1)) lM bM rM)) (by rw [sDn_k h1]) ?_
      refine k_iinc (q := 48) (v := nI (k + 1)) (fr2 := [(5, .int (nI (k + 1))), (0, .int (nI p)), (1, .ref (e 0)), (2, .ref (e 1)), (3, .ref (e 2)), (4, .int (hM p))]) C 5 dL_drops_45 rfl (nI_add k 1) (by decide) rfl rfl ?_
      refine k_goto (q := 16) C dL_drops_48 (by decide) ?_
      refine k_fr (fr2 := [(0, .int (nI p)), (1, .ref (e 0)), (2, .ref (e 1)), (3, .ref (e 2)), (4, .int (hM p)), (5, .int (nI (k + 1)))]) ⟨[1, 2, 3, 4, 5, 0], rfl⟩ ?_
      exact ih (k + 1) (by omega) (by omega) (by omega)
set_option maxHeartbeats 4000000 in
set_option maxRecDepth 100000 in
theorem c_L_drops (cy : Nat → ClassId) (e : Nat → Nat) (nM : Nat) (oM : Nat → Int32) (sM : Nat → Int32) (gM : Nat → Int32) (knM : Nat) (loM : Int32) (lfM : Int32) (hM : Nat → Int32) (tM : Nat → Int32) (lM : Nat → Int32) (bM : Nat → Int32) (rM : Nat → Int32) (p : Nat)  (hn : nM ≤ 6) (hp : p < nM) : kI yL_drops wsL_drops rm_L_drops cy [.int (nI p), .ref (e 0), .ref (e 1), .ref (e 2)] (wLa e cy (qSt nM oM sM gM knM loM lfM) hM tM lM bM rM) (hM p) (wLa e cy (qSt (nM - 1) oM sM gM knM loM lfM) (sDn hM p nM) (sDn tM p nM) lM bM rM) := by
  refine kI_of (cc := cL_drops) (maxL := 6) (rt := .int) (by decide) rfl (rfl) (Nat.le_of_ble_eq_true rfl) ?_
  intro X hR C E
  have C : kC X 6 RL cL_drops wsL_drops cy := C
  refine k_fr (fr2 := [(0, .int (nI p)), (1, .ref (e 0)), (2, .ref (e 1)), (3, .ref (e 2))]) ⟨[0, 1, 2, 3], rfl⟩ ?_
  refine k_aload_n (q := 1) C 2 dL_drops_0 rfl rfl ?_
  refine k_iload_n (q := 2) C 0 dL_drops_1 rfl rfl ?_
  refine k_iald (q := 3) C 1 rfl (vp_in_nI (n := p) (by omega) (by decide)) dL_drops_2 rfl ?_
  refine k_st (st2 := (.int (hM p) :: _)) (congrArg (fun z => Value.int z :: _) (show hM (nI p).toNatClampNeg = hM p from congrArg hM (nI_clamp (n := p) (by omega)))) ?_
  refine k_istore (q := 5) (fr2 := [(4, .int (hM p)), (0, .int (nI p)), (1, .ref (e 0)), (2, .ref (e 1)), (3, .ref (e 2))]) C dL_drops_3 (by decide) rfl rfl ?_
  refine k_aload_n (q := 6) C 2 dL_drops_5 rfl rfl ?_
  refine k_bipush (q := 8) (v := 8) C dL_drops_6 (by decide +kernel) rfl ?_
  refine k_dup2 (q := 9) C dL_drops_8 rfl rfl rfl ?_
  refine k_iald (q := 10) C 0 rfl (vp_in_nI (n := 8) (by decide) (by decide)) dL_drops_9 rfl ?_
  refine k_st (st2 := (.int ((qSt nM oM sM gM knM loM lfM) 8) :: _)) (congrArg (fun z => Value.int z :: _) (show (qSt nM oM sM gM knM loM lfM) (8 : Int32).toNatClampNeg = (qSt nM oM sM gM knM loM lfM) 8 from congrArg (qSt nM oM sM gM knM loM lfM) (nI_clamp (n := 8) (by decide)))) ?_
  refine k_st (st2 := (.int (nI nM) :: _)) (congrArg (fun z => Value.int z :: _) (show (qSt nM oM sM gM knM loM lfM) 8 = nI nM from rfl)) ?_
  refine k_iconst (q := 11) (v := 1) C dL_drops_10 (by decide) rfl ?_
  refine k_isub (q := 12) C dL_drops_11 rfl ?_
  refine k_st (st2 := (.int (nI (nM - 1)) :: _)) (congrArg (fun z => Value.int z :: _) (show (nI nM) - 1 = nI (nM - 1) from pk_sub (a := nM) (b := 1) (by omega))) ?_
  refine k_iast (q := 13) (w2 := (wLa e cy (qSt (nM - 1) oM sM gM knM loM lfM) hM tM lM bM rM)) C 0 rfl (vp_in_nI (n := 8) (by decide) (by decide)) (by exact wLa_q (mSt_w8 (nM - 1))) dL_drops_12 rfl ?_
  refine k_iload_n (q := 14) C 1 dL_drops_13 rfl rfl ?_
  refine k_istore (q := 16) (fr2 := [(5, .int (nI p)), (4, .int (hM p)), (0, .int (nI p)), (1, .ref (e 0)), (2, .ref (e 1)), (3, .ref (e 2))]) C dL_drops_14 (by decide) rfl rfl ?_
  refine k_fr (fr2 := [(0, .int (nI p)), (1, .ref (e 0)), (2, .ref (e 1)), (3, .ref (e 2)), (4, .int (hM p)), (5, .int (nI p))]) ⟨[2, 3, 4, 5, 1, 0], rfl⟩ ?_
  have K := lp_L_drops_16 cy e nM oM sM gM knM loM lfM hM tM lM bM rM p hn hp X hR C E _ p (Nat.lt_succ_self _) (Nat.le_refl _) (by omega)
  rw [sDn_0, sDn_0] at K
  exact K
abbrev rm_L_logs : Room := { frames := 4, cells := 0, slots := 0, locals := 95 }
set_option maxHeartbeats 4000000 in
set_option maxRecDepth 100000 in
theorem lp_L_logs_14 (cy : Nat → ClassId) (e : Nat → Nat) (nM : Nat) (oM : Nat → Int32) (sM : Nat → Int32) (gM : Nat → Int32) (knM : Nat) (loM : Int32) (lfM : Int32) (hM : Nat → Int32) (tM : Nat → Int32) (lM : Nat → Int32) (bM : Nat → Int32) (rM : Nat → Int32)  (hn : nM ≤ 6) (hb : lB nM hM tM (gM 1) bM) (ho : mBin oM) (hs0 : sOk (sM 0)) (hs1 : sOk (sM 1)) (hg0 : 50 ≤ (gM 0).toInt ∧ (gM 0).toInt ≤ 1000) (hk : knM ≤ 8) (X : kX) (hR : xR X = rm_L_logs) (C : kC X 7 RL cL_logs wsL_logs cy) (E : kEnd X 7 cL_logs (nI (min (knM + 1) 8)) (wLa e cy (qSt nM oM sM gM (min (knM + 1) 8) (loM + 1) (lfM + bI ((mLg hM nM (sMeet gM (sM 0) (sM 1)) (mC (sClose (mLit oM) hM tM sM gM) (mD hM sM gM) nM)).2.2.2 = true))) hM tM (sWrL lM (mLg hM nM (sMeet gM (sM 0) (sM 1)) (mC (sClose (mLit oM) hM tM sM gM) (mD hM sM gM) nM))) bM (upd (upd (upd (upd rM 0 (mRn hM nM (sMeet gM (sM 0) (sM 1)) (mC (sClose (mLit oM) hM tM sM gM) (mD hM sM gM) nM) 0)) 1 (mRn hM nM (sMeet gM (sM 0) (sM 1)) (mC (sClose (mLit oM) hM tM sM gM) (mD hM sM gM) nM) 1)) 2 (mRn hM nM (sMeet gM (sM 0) (sM 1)) (mC (sClose (mLit oM) hM tM sM gM) (mD hM sM gM) nM) 2)) 3 (mRn hM nM (sMeet gM (sM 0) (sM 1)) (mC (sClose (mLit oM) hM tM sM gM) (mD hM sM gM) nM) 3)))) : ∀ (fu : Nat) (k : Nat), k < fu → (3 ≤ k) → (k ≤ 31) → kG X 7 0 0 (wLa e cy (qSt nM oM sM gM knM loM lfM) hM tM (mShN lM k) bM (upd (upd (upd (upd rM 0 (mRn hM nM (sMeet gM (sM 0) (sM 1)) (mC (sClose (mLit oM) hM tM sM gM) (mD hM sM gM) nM) 0)) 1 (mRn hM nM (sMeet gM (sM 0) (sM 1)) (mC (sClose (mLit oM) hM tM sM gM) (mD hM sM gM) nM) 1)) 2 (mRn hM nM (sMeet gM (sM 0) (sM 1)) (mC (sClose (mLit oM) hM tM sM gM) (mD hM sM gM) nM) 2)) 3 (mRn hM nM (sMeet gM (sM 0) (sM 1)) (mC (sClose (mLit oM) hM tM sM gM) (mD hM sM gM) nM) 3))) 14 [(0, .ref (e 0)), (1, .ref (e 1)), (2, .ref (e 3)), (4, .ref (e 5)), (5, .int (bI (lIs (sMeet gM (sM 0) (sM 1)) (mC (sClose (mLit oM) hM tM sM gM) (mD hM sM gM) nM)))), (6, .int (nI k))] [] := by
  intro fu
  induction fu with
  | zero => intro k hfu; exact absurd hfu (Nat.not_lt_zero _)
  | succ fu ih =>
    intro k hfu h1 h2
    refine k_iload (q := 16) C 5 dL_logs_14 rfl rfl ?_
    refine k_iconst (q := 17) (v := 3) C dL_logs_16 (by decide) rfl ?_
    refine k_nicmp_le (a := k) (b := 3)  (tgt := 36) (q := 20) C dL_logs_17 (by decide) rfl (by omega) (by decide) ?_ ?_
    · intro c_17
      have hke : k = 3 := by omega
      obtain rfl : k = 3 := hke
      refine k_aload_n (q := 37) C 2 dL_logs_36 rfl rfl ?_
      refine k_iconst (q := 38) (v := 0) C dL_logs_37 (by decide) rfl ?_
      refine k_aload (q := 40) C 3 dL_logs_38 rfl rfl ?_
      refine k_iconst (q := 41) (v := 0) C dL_logs_40 (by decide) rfl ?_
      refine k_iald (q := 42) C 5 rfl (vp_in_nI (n := 0) (by decide) (by decide)) dL_logs_41 rfl ?_
      refine k_st (st2 := (.int ((upd (upd (upd (upd rM 0 (mRn hM nM (sMeet gM (sM 0) (sM 1)) (mC (sClose (mLit oM) hM tM sM gM) (mD hM sM gM) nM) 0)) 1 (mRn hM nM (sMeet gM (sM 0) (sM 1)) (mC (sClose (mLit oM) hM tM sM gM) (mD hM sM gM) nM) 1)) 2 (mRn hM nM (sMeet gM (sM 0) (sM 1)) (mC (sClose (mLit oM) hM tM sM gM) (mD hM sM gM) nM) 2)) 3 (mRn hM nM (sMeet gM (sM 0) (sM 1)) (mC (sClose (mLit oM) hM tM sM gM) (mD hM sM gM) nM) 3)) 0) :: _)) (congrArg (fun z => Value.int z :: _) (show (upd (upd (upd (upd rM 0 (mRn hM nM (sMeet gM (sM 0) (sM 1)) (mC (sClose (mLit oM) hM tM sM gM) (mD hM sM gM) nM) 0)) 1 (mRn hM nM (sMeet gM (sM 0) (sM 1)) (mC (sClose (mLit oM) hM tM sM gM) (mD hM sM gM) nM) 1)) 2 (mRn hM nM (sMeet gM (sM 0) (sM 1)) (mC (sClose (mLit oM) hM tM sM gM) (mD hM sM gM) nM) 2)) 3 (mRn hM nM (sMeet gM (sM 0) (sM 1)) (mC (sClose (mLit oM) hM tM sM gM) (mD hM sM gM) nM) 3)) (0 : Int32).toNatClampNeg = (upd (upd (upd (upd rM 0 (mRn hM nM (sMeet gM (sM 0) (sM 1)) (mC (sClose (mLit oM) hM tM sM gM) (mD hM sM gM) nM) 0)) 1 (mRn hM nM (sMeet gM (sM 0) (sM 1)) (mC (sClose (mLit oM) hM tM sM gM) (mD hM sM gM) nM) 1)) 2 (mRn hM nM (sMeet gM (sM 0) (sM 1)) (mC (sClose (mLit oM) hM tM sM gM) (mD hM sM gM) nM) 2)) 3 (mRn hM nM (sMeet gM (sM 0) (sM 1)) (mC (sClose (mLit oM) hM tM sM gM) (mD hM sM gM) nM) 3)) 0 from congrArg (upd (upd (upd (upd rM 0 (mRn hM nM (sMeet gM (sM 0) (sM 1)) (mC (sClose (mLit oM) hM tM sM gM) (mD hM sM gM) nM) 0)) 1 (mRn hM nM (sMeet gM (sM 0) (sM 1)) (mC (sClose (mLit oM) hM tM sM gM) (mD hM sM gM) nM) 1)) 2 (mRn hM nM (sMeet gM (sM 0) (sM 1)) (mC (sClose (mLit oM) hM tM sM gM) (mD hM sM gM) nM) 2)) 3 (mRn hM nM (sMeet gM (sM 0) (sM 1)) (mC (sClose (mLit oM) hM tM sM gM) (mD hM sM gM) nM) 3)) (nI_clamp (n := 0) (by decide)))) ?_
      refine k_st (st2 := (.int (mRn hM nM (sMeet gM (sM 0) (sM 1)) (mC (sClose (mLit oM) hM tM sM gM) (mD hM sM gM) nM) 0) :: _)) (congrArg (fun z => Value.int z :: _) (show (upd (upd (upd (upd rM 0 (mRn hM nM (sMeet gM (sM 0) (sM 1)) (mC (sClose (mLit oM) hM tM sM gM) (mD hM sM gM) nM) 0)) 1 (mRn hM nM (sMeet gM (sM 0) (sM 1)) (mC (sClose (mLit oM) hM tM sM gM) (mD hM sM gM) nM) 1)) 2 (mRn hM nM (sMeet gM (sM 0) (sM 1)) (mC (sClose (mLit oM) hM tM sM gM) (mD hM sM gM) nM) 2)) 3 (mRn hM nM (sMeet gM (sM 0) (sM 1)) (mC (sClose (mLit oM) hM tM sM gM) (mD hM sM gM) nM) 3)) 0 = mRn hM nM (sMeet gM (sM 0) (sM 1)) (mC (sClose (mLit oM) hM tM sM gM) (mD hM sM gM) nM) 0 from rfl)) ?_
      refine k_st (st2 := (.int (mLg hM nM (sMeet gM (sM 0) (sM 1)) (mC (sClose (mLit oM) hM tM sM gM) (mD hM sM gM) nM)).1 :: _)) (congrArg (fun z => Value.int z :: _) (show mRn hM nM (sMeet gM (sM 0) (sM 1)) (mC (sClose (mLit oM) hM tM sM gM) (mD hM sM gM) nM) 0 = (mLg hM nM (sMeet gM (sM 0) (sM 1)) (mC (sClose (mLit oM) hM tM sM gM) (mD hM sM gM) nM)).1 from mRn_lg0)) ?_
      refine k_iast (q := 43) (w2 := (wLa e cy (qSt nM oM sM gM knM loM lfM) hM tM (upd (mShN lM 3) 0 (mLg hM nM (sMeet gM (sM 0) (sM 1)) (mC (sClose (mLit oM) hM tM sM gM) (mD hM sM gM) nM)).1) bM (upd (upd (upd (upd rM 0 (mRn hM nM (sMeet gM (sM 0) (sM 1)) (mC (sClose (mLit oM) hM tM sM gM) (mD hM sM gM) nM) 0)) 1 (mRn hM nM (sMeet gM (sM 0) (sM 1)) (mC (sClose (mLit oM) hM tM sM gM) (mD hM sM gM) nM) 1)) 2 (mRn hM nM (sMeet gM (sM 0) (sM 1)) (mC (sClose (mLit oM) hM tM sM gM) (mD hM sM gM) nM) 2)) 3 (mRn hM nM (sMeet gM (sM 0) (sM 1)) (mC (sClose (mLit oM) hM tM sM gM) (mD hM sM gM) nM) 3)))) C 3 rfl (vp_in_nI (n := 0) (by decide) (by decide)) rfl dL_logs_42 rfl ?_
      refine k_aload_n (q := 44) C 2 dL_logs_43 rfl rfl ?_
      refine k_iconst (q := 45) (v := 1) C dL_logs_44 (by decide) rfl ?_
      have J_45 : kG X 7 0 0 (wLa e cy (qSt nM oM sM gM knM loM lfM) hM tM (upd (mShN lM 3) 0 (mLg hM nM (sMeet gM (sM 0) (sM 1)) (mC (sClose (mLit oM) hM tM sM gM) (mD hM sM gM) nM)).1) bM (upd (upd (upd (upd rM 0 (mRn hM nM (sMeet gM (sM 0) (sM 1)) (mC (sClose (mLit oM) hM tM sM gM) (mD hM sM gM) nM) 0)) 1 (mRn hM nM (sMeet gM (sM 0) (sM 1)) (mC (sClose (mLit oM) hM tM sM gM) (mD hM sM gM) nM) 1)) 2 (mRn hM nM (sMeet gM (sM 0) (sM 1)) (mC (sClose (mLit oM) hM tM sM gM) (mD hM sM gM) nM) 2)) 3 (mRn hM nM (sMeet gM (sM 0) (sM 1)) (mC (sClose (mLit oM) hM tM sM gM) (mD hM sM gM) nM) 3))) 61 [(0, .ref (e 0)), (1, .ref (e 1)), (2, .ref (e 3)), (4, .ref (e 5)), (5, .int (bI (lIs (sMeet gM (sM 0) (sM 1)) (mC (sClose (mLit oM) hM tM sM gM) (mD hM sM gM) nM)))), (6, .int (nI 3))] [.int (mLg hM nM (sMeet gM (sM 0) (sM 1)) (mC (sClose (mLit oM) hM tM sM gM) (mD hM sM gM) nM)).2.1, .int 1, .ref (e 3)] := by
        refine k_iast (q := 62) (w2 := (wLa e cy (qSt nM oM sM gM knM loM lfM) hM tM (upd (upd (mShN lM 3) 0 (mLg hM nM (sMeet gM (sM 0) (sM 1)) (mC (sClose (mLit oM) hM tM sM gM) (mD hM sM gM) nM)).1) 1 (mLg hM nM (sMeet gM (sM 0) (sM 1)) (mC (sClose (mLit oM) hM tM sM gM) (mD hM sM gM) nM)).2.1) bM (upd (upd (upd (upd rM 0 (mRn hM nM (sMeet gM (sM 0) (sM 1)) (mC (sClose (mLit oM) hM tM sM gM) (mD hM sM gM) nM) 0)) 1 (mRn hM nM (sMeet gM (sM 0) (sM 1)) (mC (sClose (mLit oM) hM tM sM gM) (mD hM sM gM) nM) 1)) 2 (mRn hM nM (sMeet gM (sM 0) (sM 1)) (mC (sClose (mLit oM) hM tM sM gM) (mD hM sM gM) nM) 2)) 3 (mRn hM nM (sMeet gM (sM 0) (sM 1)) (mC (sClose (mLit oM) hM tM sM gM) (mD hM sM gM) nM) 3)))) C 3 rfl (vp_in_nI (n := 1) (by decide) (by decide)) rfl dL_logs_61 rfl ?_
        refine k_aload_n (q := 63) C 2 dL_logs_62 rfl rfl ?_
        refine k_iconst (q := 64) (v := 2) C dL_logs_63 (by decide) rfl ?_
        refine k_aload (q := 66) C 3 dL_logs_64 rfl rfl ?_
        refine k_iconst (q := 67) (v := 2) C dL_logs_66 (by decide) rfl ?_
        refine k_iald (q := 68) C 5 rfl (vp_in_nI (n := 2) (by decide) (by decide)) dL_logs_67 rfl ?_
        refine k_st (st2 := (.int ((upd (upd (upd (upd rM 0 (mRn hM nM (sMeet gM (sM 0) (sM 1)) (mC (sClose (mLit oM) hM tM sM gM) (mD hM sM gM) nM) 0)) 1 (mRn hM nM (sMeet gM (sM 0) (sM 1)) (mC (sClose (mLit oM) hM tM sM gM) (mD hM sM gM) nM) 1)) 2 (mRn hM nM (sMeet gM (sM 0) (sM 1)) (mC (sClose (mLit oM) hM tM sM gM) (mD hM sM gM) nM) 2)) 3 (mRn hM nM (sMeet gM (sM 0) (sM 1)) (mC (sClose (mLit oM) hM tM sM gM) (mD hM sM gM) nM) 3)) 2) :: _)) (congrArg (fun z => Value.int z :: _) (show (upd (upd (upd (upd rM 0 (mRn hM nM (sMeet gM (sM 0) (sM 1)) (mC (sClose (mLit oM) hM tM sM gM) (mD hM sM gM) nM) 0)) 1 (mRn hM nM (sMeet gM (sM 0) (sM 1)) (mC (sClose (mLit oM) hM tM sM gM) (mD hM sM gM) nM) 1)) 2 (mRn hM nM (sMeet gM (sM 0) (sM 1)) (mC (sClose (mLit oM) hM tM sM gM) (mD hM sM gM) nM) 2)) 3 (mRn hM nM (sMeet gM (sM 0) (sM 1)) (mC (sClose (mLit oM) hM tM sM gM) (mD hM sM gM) nM) 3)) (2 : Int32).toNatClampNeg = (upd (upd (upd (upd rM 0 (mRn hM nM (sMeet gM (sM 0) (sM 1)) (mC (sClose (mLit oM) hM tM sM gM) (mD hM sM gM) nM) 0)) 1 (mRn hM nM (sMeet gM (sM 0) (sM 1)) (mC (sClose (mLit oM) hM tM sM gM) (mD hM sM gM) nM) 1)) 2 (mRn hM nM (sMeet gM (sM 0) (sM 1)) (mC (sClose (mLit oM) hM tM sM gM) (mD hM sM gM) nM) 2)) 3 (mRn hM nM (sMeet gM (sM 0) (sM 1)) (mC (sClose (mLit oM) hM tM sM gM) (mD hM sM gM) nM) 3)) 2 from congrArg (upd (upd (upd (upd rM 0 (mRn hM nM (sMeet gM (sM 0) (sM 1)) (mC (sClose (mLit oM) hM tM sM gM) (mD hM sM gM) nM) 0)) 1 (mRn hM nM (sMeet gM (sM 0) (sM 1)) (mC (sClose (mLit oM) hM tM sM gM) (mD hM sM gM) nM) 1)) 2 (mRn hM nM (sMeet gM (sM 0) (sM 1)) (mC (sClose (mLit oM) hM tM sM gM) (mD hM sM gM) nM) 2)) 3 (mRn hM nM (sMeet gM (sM 0) (sM 1)) (mC (sClose (mLit oM) hM tM sM gM) (mD hM sM gM) nM) 3)) (nI_clamp (n := 2) (by decide)))) ?_
        refine k_st (st2 := (.int (mRn hM nM (sMeet gM (sM 0) (sM 1)) (mC (sClose (mLit oM) hM tM sM gM) (mD hM sM gM) nM) 2) :: _)) (congrArg (fun z => Value.int z :: _) (show (upd (upd (upd (upd rM 0 (mRn hM nM (sMeet gM (sM 0) (sM 1)) (mC (sClose (mLit oM) hM tM sM gM) (mD hM sM gM) nM) 0)) 1 (mRn hM nM (sMeet gM (sM 0) (sM 1)) (mC (sClose (mLit oM) hM tM sM gM) (mD hM sM gM) nM) 1)) 2 (mRn hM nM (sMeet gM (sM 0) (sM 1)) (mC (sClose (mLit oM) hM tM sM gM) (mD hM sM gM) nM) 2)) 3 (mRn hM nM (sMeet gM (sM 0) (sM 1)) (mC (sClose (mLit oM) hM tM sM gM) (mD hM sM gM) nM) 3)) 2 = mRn hM nM (sMeet gM (sM 0) (sM 1)) (mC (sClose (mLit oM) hM tM sM gM) (mD hM sM gM) nM) 2 from rfl)) ?_
        refine k_st (st2 := (.int (mLg hM nM (sMeet gM (sM 0) (sM 1)) (mC (sClose (mLit oM) hM tM sM gM) (mD hM sM gM) nM)).2.2.1 :: _)) (congrArg (fun z => Value.int z :: _) (show mRn hM nM (sMeet gM (sM 0) (sM 1)) (mC (sClose (mLit oM) hM tM sM gM) (mD hM sM gM) nM) 2 = (mLg hM nM (sMeet gM (sM 0) (sM 1)) (mC (sClose (mLit oM) hM tM sM gM) (mD hM sM gM) nM)).2.2.1 from mRn_lg2)) ?_
        refine k_iast (q := 69) (w2 := (wLa e cy (qSt nM oM sM gM knM loM lfM) hM tM (upd (upd (upd (mShN lM 3) 0 (mLg hM nM (sMeet gM (sM 0) (sM 1)) (mC (sClose (mLit oM) hM tM sM gM) (mD hM sM gM) nM)).1) 1 (mLg hM nM (sMeet gM (sM 0) (sM 1)) (mC (sClose (mLit oM) hM tM sM gM) (mD hM sM gM) nM)).2.1) 2 (mLg hM nM (sMeet gM (sM 0) (sM 1)) (mC (sClose (mLit oM) hM tM sM gM) (mD hM sM gM) nM)).2.2.1) bM (upd (upd (upd (upd rM 0 (mRn hM nM (sMeet gM (sM 0) (sM 1)) (mC (sClose (mLit oM) hM tM sM gM) (mD hM sM gM) nM) 0)) 1 (mRn hM nM (sMeet gM (sM 0) (sM 1)) (mC (sClose (mLit oM) hM tM sM gM) (mD hM sM gM) nM) 1)) 2 (mRn hM nM (sMeet gM (sM 0) (sM 1)) (mC (sClose (mLit oM) hM tM sM gM) (mD hM sM gM) nM) 2)) 3 (mRn hM nM (sMeet gM (sM 0) (sM 1)) (mC (sClose (mLit oM) hM tM sM gM) (mD hM sM gM) nM) 3)))) C 3 rfl (vp_in_nI (n := 2) (by decide) (by decide)) rfl dL_logs_68 rfl ?_
        refine k_aload_n (q := 70) C 2 dL_logs_69 rfl rfl ?_
        refine k_iconst (q := 71) (v := 3) C dL_logs_70 (by decide) rfl ?_
        have J_71 : kG X 7 0 0 (wLa e cy (qSt nM oM sM gM knM loM lfM) hM tM (upd (upd (upd (mShN lM 3) 0 (mLg hM nM (sMeet gM (sM 0) (sM 1)) (mC (sClose (mLit oM) hM tM sM gM) (mD hM sM gM) nM)).1) 1 (mLg hM nM (sMeet gM (sM 0) (sM 1)) (mC (sClose (mLit oM) hM tM sM gM) (mD hM sM gM) nM)).2.1) 2 (mLg hM nM (sMeet gM (sM 0) (sM 1)) (mC (sClose (mLit oM) hM tM sM gM) (mD hM sM gM) nM)).2.2.1) bM (upd (upd (upd (upd rM 0 (mRn hM nM (sMeet gM (sM 0) (sM 1)) (mC (sClose (mLit oM) hM tM sM gM) (mD hM sM gM) nM) 0)) 1 (mRn hM nM (sMeet gM (sM 0) (sM 1)) (mC (sClose (mLit oM) hM tM sM gM) (mD hM sM gM) nM) 1)) 2 (mRn hM nM (sMeet gM (sM 0) (sM 1)) (mC (sClose (mLit oM) hM tM sM gM) (mD hM sM gM) nM) 2)) 3 (mRn hM nM (sMeet gM (sM 0) (sM 1)) (mC (sClose (mLit oM) hM tM sM gM) (mD hM sM gM) nM) 3))) 84 [(0, .ref (e 0)), (1, .ref (e 1)), (2, .ref (e 3)), (4, .ref (e 5)), (5, .int (bI (lIs (sMeet gM (sM 0) (sM 1)) (mC (sClose (mLit oM) hM tM sM gM) (mD hM sM gM) nM)))), (6, .int (nI 3))] [.int (bI ((mLg hM nM (sMeet gM (sM 0) (sM 1)) (mC (sClose (mLit oM) hM tM sM gM) (mD hM sM gM) nM)).2.2.2 = true)), .int 3, .ref (e 3)] := by
          refine k_iast (q := 85) (w2 := (wLa e cy (qSt nM oM sM gM knM loM lfM) hM tM (upd (upd (upd (upd (mShN lM 3) 0 (mLg hM nM (sMeet gM (sM 0) (sM 1)) (mC (sClose (mLit oM) hM tM sM gM) (mD hM sM gM) nM)).1) 1 (mLg hM nM (sMeet gM (sM 0) (sM 1)) (mC (sClose (mLit oM) hM tM sM gM) (mD hM sM gM) nM)).2.1) 2 (mLg hM nM (sMeet gM (sM 0) (sM 1)) (mC (sClose (mLit oM) hM tM sM gM) (mD hM sM gM) nM)).2.2.1) 3 (bI ((mLg hM nM (sMeet gM (sM 0) (sM 1)) (mC (sClose (mLit oM) hM tM sM gM) (mD hM sM gM) nM)).2.2.2 = true))) bM (upd (upd (upd (upd rM 0 (mRn hM nM (sMeet gM (sM 0) (sM 1)) (mC (sClose (mLit oM) hM tM sM gM) (mD hM sM gM) nM) 0)) 1 (mRn hM nM (sMeet gM (sM 0) (sM 1)) (mC (sClose (mLit oM) hM tM sM gM) (mD hM sM gM) nM) 1)) 2 (mRn hM nM (sMeet gM (sM 0) (sM 1)) (mC (sClose (mLit oM) hM tM sM gM) (mD hM sM gM) nM) 2)) 3 (mRn hM nM (sMeet gM (sM 0) (sM 1)) (mC (sClose (mLit oM) hM tM sM gM) (mD hM sM gM) nM) 3)))) C 3 rfl (vp_in_nI (n := 3) (by decide) (by decide)) rfl dL_logs_84 rfl ?_
          refine k_aload_n (q := 86) C 0 dL_logs_85 rfl rfl ?_
          refine k_bipush (q := 88) (v := 9) C dL_logs_86 (by decide +kernel) rfl ?_
          refine k_dup2 (q := 89) C dL_logs_88 rfl rfl rfl ?_
          refine k_iald (q := 90) C 0 rfl (vp_in_nI (n := 9) (by decide) (by decide)) dL_logs_89 rfl ?_
          refine k_st (st2 := (.int ((qSt nM oM sM gM knM loM lfM) 9) :: _)) (congrArg (fun z => Value.int z :: _) (show (qSt nM oM sM gM knM loM lfM) (9 : Int32).toNatClampNeg = (qSt nM oM sM gM knM loM lfM) 9 from congrArg (qSt nM oM sM gM knM loM lfM) (nI_clamp (n := 9) (by decide)))) ?_
          refine k_st (st2 := (.int (nI knM) :: _)) (congrArg (fun z => Value.int z :: _) (show (qSt nM oM sM gM knM loM lfM) 9 = nI knM from rfl)) ?_
          have J_90 : kG X 7 0 0 (wLa e cy (qSt nM oM sM gM knM loM lfM) hM tM (upd (upd (upd (upd (mShN lM 3) 0 (mLg hM nM (sMeet gM (sM 0) (sM 1)) (mC (sClose (mLit oM) hM tM sM gM) (mD hM sM gM) nM)).1) 1 (mLg hM nM (sMeet gM (sM 0) (sM 1)) (mC (sClose (mLit oM) hM tM sM gM) (mD hM sM gM) nM)).2.1) 2 (mLg hM nM (sMeet gM (sM 0) (sM 1)) (mC (sClose (mLit oM) hM tM sM gM) (mD hM sM gM) nM)).2.2.1) 3 (bI ((mLg hM nM (sMeet gM (sM 0) (sM 1)) (mC (sClose (mLit oM) hM tM sM gM) (mD hM sM gM) nM)).2.2.2 = true))) bM (upd (upd (upd (upd rM 0 (mRn hM nM (sMeet gM (sM 0) (sM 1)) (mC (sClose (mLit oM) hM tM sM gM) (mD hM sM gM) nM) 0)) 1 (mRn hM nM (sMeet gM (sM 0) (sM 1)) (mC (sClose (mLit oM) hM tM sM gM) (mD hM sM gM) nM) 1)) 2 (mRn hM nM (sMeet gM (sM 0) (sM 1)) (mC (sClose (mLit oM) hM tM sM gM) (mD hM sM gM) nM) 2)) 3 (mRn hM nM (sMeet gM (sM 0) (sM 1)) (mC (sClose (mLit oM) hM tM sM gM) (mD hM sM gM) nM) 3))) 104 [(0, .ref (e 0)), (1, .ref (e 1)), (2, .ref (e 3)), (4, .ref (e 5)), (5, .int (bI (lIs (sMeet gM (sM 0) (sM 1)) (mC (sClose (mLit oM) hM tM sM gM) (mD hM sM gM) nM)))), (6, .int (nI 3))] [.int (nI (min (knM + 1) 8 - knM)), .int (nI knM), .int 9, .ref (e 0)] := by
            refine k_iadd (q := 105) C dL_logs_104 rfl ?_
            refine k_st (st2 := (.int (nI (knM + (min (knM + 1) 8 - knM))) :: _)) (congrArg (fun z => Value.int z :: _) (show (nI knM) + (nI (min (knM + 1) 8 - knM)) = nI (knM + (min (knM + 1) 8 - knM)) from nI_add knM (min (knM + 1) 8 - knM))) ?_
            refine k_st (st2 := (.int (nI (min (knM + 1) 8)) :: _)) (congrArg (fun z => Value.int z :: _) (show nI (knM + (min (knM + 1) 8 - knM)) = nI (min (knM + 1) 8) from by rw [show knM + (min (knM + 1) 8 - knM) = min (knM + 1) 8 by omega])) ?_
            refine k_iast (q := 106) (w2 := (wLa e cy (qSt nM oM sM gM (min (knM + 1) 8) loM lfM) hM tM (upd (upd (upd (upd (mShN lM 3) 0 (mLg hM nM (sMeet gM (sM 0) (sM 1)) (mC (sClose (mLit oM) hM tM sM gM) (mD hM sM gM) nM)).1) 1 (mLg hM nM (sMeet gM (sM 0) (sM 1)) (mC (sClose (mLit oM) hM tM sM gM) (mD hM sM gM) nM)).2.1) 2 (mLg hM nM (sMeet gM (sM 0) (sM 1)) (mC (sClose (mLit oM) hM tM sM gM) (mD hM sM gM) nM)).2.2.1) 3 (bI ((mLg hM nM (sMeet gM (sM 0) (sM 1)) (mC (sClose (mLit oM) hM tM sM gM) (mD hM sM gM) nM)).2.2.2 = true))) bM (upd (upd (upd (upd rM 0 (mRn hM nM (sMeet gM (sM 0) (sM 1)) (mC (sClose (mLit oM) hM tM sM gM) (mD hM sM gM) nM) 0)) 1 (mRn hM nM (sMeet gM (sM 0) (sM 1)) (mC (sClose (mLit oM) hM tM sM gM) (mD hM sM gM) nM) 1)) 2 (mRn hM nM (sMeet gM (sM 0) (sM 1)) (mC (sClose (mLit oM) hM tM sM gM) (mD hM sM gM) nM) 2)) 3 (mRn hM nM (sMeet gM (sM 0) (sM 1)) (mC (sClose (mLit oM) hM tM sM gM) (mD hM sM gM) nM) 3)))) C 0 rfl (vp_in_nI (n := 9) (by decide) (by decide)) (by exact wLa_q (mSt_w9 (min (knM + 1) 8))) dL_logs_105 rfl ?_
            refine k_aload_n (q := 107) C 0 dL_logs_106 rfl rfl ?_
            refine k_bipush (q := 109) (v := 10) C dL_logs_107 (by decide +kernel) rfl ?_
            refine k_dup2 (q := 110) C dL_logs_109 rfl rfl rfl ?_
            refine k_iald (q := 111) C 0 rfl (vp_in_nI (n := 10) (by decide) (by decide)) dL_logs_110 rfl ?_
            refine k_st (st2 := (.int ((qSt nM oM sM gM (min (knM + 1) 8) loM lfM) 10) :: _)) (congrArg (fun z => Value.int z :: _) (show (qSt nM oM sM gM (min (knM + 1) 8) loM lfM) (10 : Int32).toNatClampNeg = (qSt nM oM sM gM (min (knM + 1) 8) loM lfM) 10 from congrArg (qSt nM oM sM gM (min (knM + 1) 8) loM lfM) (nI_clamp (n := 10) (by decide)))) ?_
            refine k_st (st2 := (.int loM :: _)) (congrArg (fun z => Value.int z :: _) (show (qSt nM oM sM gM (min (knM + 1) 8) loM lfM) 10 = loM from rfl)) ?_
            refine k_iconst (q := 112) (v := 1) C dL_logs_111 (by decide) rfl ?_
            refine k_iadd (q := 113) C dL_logs_112 rfl ?_
            refine k_iast (q := 114) (w2 := (wLa e cy (qSt nM oM sM gM (min (knM + 1) 8) (loM + 1) lfM) hM tM (upd (upd (upd (upd (mShN lM 3) 0 (mLg hM nM (sMeet gM (sM 0) (sM 1)) (mC (sClose (mLit oM) hM tM sM gM) (mD hM sM gM) nM)).1) 1 (mLg hM nM (sMeet gM (sM 0) (sM 1)) (mC (sClose (mLit oM) hM tM sM gM) (mD hM sM gM) nM)).2.1) 2 (mLg hM nM (sMeet gM (sM 0) (sM 1)) (mC (sClose (mLit oM) hM tM sM gM) (mD hM sM gM) nM)).2.2.1) 3 (bI ((mLg hM nM (sMeet gM (sM 0) (sM 1)) (mC (sClose (mLit oM) hM tM sM gM) (mD hM sM gM) nM)).2.2.2 = true))) bM (upd (upd (upd (upd rM 0 (mRn hM nM (sMeet gM (sM 0) (sM 1)) (mC (sClose (mLit oM) hM tM sM gM) (mD hM sM gM) nM) 0)) 1 (mRn hM nM (sMeet gM (sM 0) (sM 1)) (mC (sClose (mLit oM) hM tM sM gM) (mD hM sM gM) nM) 1)) 2 (mRn hM nM (sMeet gM (sM 0) (sM 1)) (mC (sClose (mLit oM) hM tM sM gM) (mD hM sM gM) nM) 2)) 3 (mRn hM nM (sMeet gM (sM 0) (sM 1)) (mC (sClose (mLit oM) hM tM sM gM) (mD hM sM gM) nM) 3)))) C 0 rfl (vp_in_nI (n := 10) (by decide) (by decide)) (by exact wLa_q (mSt_w10)) dL_logs_113 rfl ?_
            refine k_aload_n (q := 115) C 0 dL_logs_114 rfl rfl ?_
            refine k_bipush (q := 117) (v := 11) C dL_logs_115 (by decide +kernel) rfl ?_
            refine k_dup2 (q := 118) C dL_logs_117 rfl rfl rfl ?_
            refine k_iald (q := 119) C 0 rfl (vp_in_nI (n := 11) (by decide) (by decide)) dL_logs_118 rfl ?_
            refine k_st (st2 := (.int ((qSt nM oM sM gM (min (knM + 1) 8) (loM + 1) lfM) 11) :: _)) (congrArg (fun z => Value.int z :: _) (show (qSt nM oM sM gM (min (knM + 1) 8) (loM + 1) lfM) (11 : Int32).toNatClampNeg = (qSt nM oM sM gM (min (knM + 1) 8) (loM + 1) lfM) 11 from congrArg (qSt nM oM sM gM (min (knM + 1) 8) (loM + 1) lfM) (nI_clamp (n := 11) (by decide)))) ?_
            refine k_st (st2 := (.int lfM :: _)) (congrArg (fun z => Value.int z :: _) (show (qSt nM oM sM gM (min (knM + 1) 8) (loM + 1) lfM) 11 = lfM from rfl)) ?_
            refine k_aload_n (q := 120) C 2 dL_logs_119 rfl rfl ?_
            refine k_iconst (q := 121) (v := 3) C dL_logs_120 (by decide) rfl ?_
            refine k_iald (q := 122) C 3 rfl (vp_in_nI (n := 3) (by decide) (by decide)) dL_logs_121 rfl ?_
            refine k_st (st2 := (.int ((upd (upd (upd (upd (mShN lM 3) 0 (mLg hM nM (sMeet gM (sM 0) (sM 1)) (mC (sClose (mLit oM) hM tM sM gM) (mD hM sM gM) nM)).1) 1 (mLg hM nM (sMeet gM (sM 0) (sM 1)) (mC (sClose (mLit oM) hM tM sM gM) (mD hM sM gM) nM)).2.1) 2 (mLg hM nM (sMeet gM (sM 0) (sM 1)) (mC (sClose (mLit oM) hM tM sM gM) (mD hM sM gM) nM)).2.2.1) 3 (bI ((mLg hM nM (sMeet gM (sM 0) (sM 1)) (mC (sClose (mLit oM) hM tM sM gM) (mD hM sM gM) nM)).2.2.2 = true))) 3) :: _)) (congrArg (fun z => Value.int z :: _) (show (upd (upd (upd (upd (mShN lM 3) 0 (mLg hM nM (sMeet gM (sM 0) (sM 1)) (mC (sClose (mLit oM) hM tM sM gM) (mD hM sM gM) nM)).1) 1 (mLg hM nM (sMeet gM (sM 0) (sM 1)) (mC (sClose (mLit oM) hM tM sM gM) (mD hM sM gM) nM)).2.1) 2 (mLg hM nM (sMeet gM (sM 0) (sM 1)) (mC (sClose (mLit oM) hM tM sM gM) (mD hM sM gM) nM)).2.2.1) 3 (bI ((mLg hM nM (sMeet gM (sM 0) (sM 1)) (mC (sClose (mLit oM) hM tM sM gM) (mD hM sM gM) nM)).2.2.2 = true))) (3 : Int32).toNatClampNeg = (upd (upd (upd (upd (mShN lM 3) 0 (mLg hM nM (sMeet gM (sM 0) (sM 1)) (mC (sClose (mLit oM) hM tM sM gM) (mD hM sM gM) nM)).1) 1 (mLg hM nM (sMeet gM (sM 0) (sM 1)) (mC (sClose (mLit oM) hM tM sM gM) (mD hM sM gM) nM)).2.1) 2 (mLg hM nM (sMeet gM (sM 0) (sM 1)) (mC (sClose (mLit oM) hM tM sM gM) (mD hM sM gM) nM)).2.2.1) 3 (bI ((mLg hM nM (sMeet gM (sM 0) (sM 1)) (mC (sClose (mLit oM) hM tM sM gM) (mD hM sM gM) nM)).2.2.2 = true))) 3 from congrArg (upd (upd (upd (upd (mShN lM 3) 0 (mLg hM nM (sMeet gM (sM 0) (sM 1)) (mC (sClose (mLit oM) hM tM sM gM) (mD hM sM gM) nM)).1) 1 (mLg hM nM (sMeet gM (sM 0) (sM 1)) (mC (sClose (mLit oM) hM tM sM gM) (mD hM sM gM) nM)).2.1) 2 (mLg hM nM (sMeet gM (sM 0) (sM 1)) (mC (sClose (mLit oM) hM tM sM gM) (mD hM sM gM) nM)).2.2.1) 3 (bI ((mLg hM nM (sMeet gM (sM 0) (sM 1)) (mC (sClose (mLit oM) hM tM sM gM) (mD hM sM gM) nM)).2.2.2 = true))) (nI_clamp (n := 3) (by decide)))) ?_
            refine k_st (st2 := (.int (bI ((mLg hM nM (sMeet gM (sM 0) (sM 1)) (mC (sClose (mLit oM) hM tM sM gM) (mD hM sM gM) nM)).2.2.2 = true)) :: _)) (congrArg (fun z => Value.int z :: _) (show (upd (upd (upd (upd (mShN lM 3) 0 (mLg hM nM (sMeet gM (sM 0) (sM 1)) (mC (sClose (mLit oM) hM tM sM gM) (mD hM sM gM) nM)).1) 1 (mLg hM nM (sMeet gM (sM 0) (sM 1)) (mC (sClose (mLit oM) hM tM sM gM) (mD hM sM gM) nM)).2.1) 2 (mLg hM nM (sMeet gM (sM 0) (sM 1)) (mC (sClose (mLit oM) hM tM sM gM) (mD hM sM gM) nM)).2.2.1) 3 (bI ((mLg hM nM (sMeet gM (sM 0) (sM 1)) (mC (sClose (mLit oM) hM tM sM gM) (mD hM sM gM) nM)).2.2.2 = true))) 3 = bI ((mLg hM nM (sMeet gM (sM 0) (sM 1)) (mC (sClose (mLit oM) hM tM sM gM) (mD hM sM gM) nM)).2.2.2 = true) from rfl)) ?_
            refine k_iadd (q := 123) C dL_logs_122 rfl ?_
            refine k_iast (q := 124) (w2 := (wLa e cy (qSt nM oM sM gM (min (knM + 1) 8) (loM + 1) (lfM + (bI ((mLg hM nM (sMeet gM (sM 0) (sM 1)) (mC (sClose (mLit oM) hM tM sM gM) (mD hM sM gM) nM)).2.2.2 = true)))) hM tM (upd (upd (upd (upd (mShN lM 3) 0 (mLg hM nM (sMeet gM (sM 0) (sM 1)) (mC (sClose (mLit oM) hM tM sM gM) (mD hM sM gM) nM)).1) 1 (mLg hM nM (sMeet gM (sM 0) (sM 1)) (mC (sClose (mLit oM) hM tM sM gM) (mD hM sM gM) nM)).2.1) 2 (mLg hM nM (sMeet gM (sM 0) (sM 1)) (mC (sClose (mLit oM) hM tM sM gM) (mD hM sM gM) nM)).2.2.1) 3 (bI ((mLg hM nM (sMeet gM (sM 0) (sM 1)) (mC (sClose (mLit oM) hM tM sM gM) (mD hM sM gM) nM)).2.2.2 = true))) bM (upd (upd (upd (upd rM 0 (mRn hM nM (sMeet gM (sM 0) (sM 1)) (mC (sClose (mLit oM) hM tM sM gM) (mD hM sM gM) nM) 0)) 1 (mRn hM nM (sMeet gM (sM 0) (sM 1)) (mC (sClose (mLit oM) hM tM sM gM) (mD hM sM gM) nM) 1)) 2 (mRn hM nM (sMeet gM (sM 0) (sM 1)) (mC (sClose (mLit oM) hM tM sM gM) (mD hM sM gM) nM) 2)) 3 (mRn hM nM (sMeet gM (sM 0) (sM 1)) (mC (sClose (mLit oM) hM tM sM gM) (mD hM sM gM) nM) 3)))) C 0 rfl (vp_in_nI (n := 11) (by decide) (by decide)) (by exact wLa_q (mSt_w11)) dL_logs_123 rfl ?_
            refine k_aload_n (q := 125) C 0 dL_logs_124 rfl rfl ?_
            refine k_bipush (q := 127) (v := 9) C dL_logs_125 (by decide +kernel) rfl ?_
            refine k_iald (q := 128) C 0 rfl (vp_in_nI (n := 9) (by decide) (by decide)) dL_logs_127 rfl ?_
            refine k_st (st2 := (.int ((qSt nM oM sM gM (min (knM + 1) 8) (loM + 1) (lfM + (bI ((mLg hM nM (sMeet gM (sM 0) (sM 1)) (mC (sClose (mLit oM) hM tM sM gM) (mD hM sM gM) nM)).2.2.2 = true)))) 9) :: _)) (congrArg (fun z => Value.int z :: _) (show (qSt nM oM sM gM (min (knM + 1) 8) (loM + 1) (lfM + (bI ((mLg hM nM (sMeet gM (sM 0) (sM 1)) (mC (sClose (mLit oM) hM tM sM gM) (mD hM sM gM) nM)).2.2.2 = true)))) (9 : Int32).toNatClampNeg = (qSt nM oM sM gM (min (knM + 1) 8) (loM + 1) (lfM + (bI ((mLg hM nM (sMeet gM (sM 0) (sM 1)) (mC (sClose (mLit oM) hM tM sM gM) (mD hM sM gM) nM)).2.2.2 = true)))) 9 from congrArg (qSt nM oM sM gM (min (knM + 1) 8) (loM + 1) (lfM + (bI ((mLg hM nM (sMeet gM (sM 0) (sM 1)) (mC (sClose (mLit oM) hM tM sM gM) (mD hM sM gM) nM)).2.2.2 = true)))) (nI_clamp (n := 9) (by decide)))) ?_
            refine k_st (st2 := (.int (nI (min (knM + 1) 8)) :: _)) (congrArg (fun z => Value.int z :: _) (show (qSt nM oM sM gM (min (knM + 1) 8) (loM + 1) (lfM + (bI ((mLg hM nM (sMeet gM (sM 0) (sM 1)) (mC (sClose (mLit oM) hM tM sM gM) (mD hM sM gM) nM)).2.2.2 = true)))) 9 = nI (min (knM + 1) 8) from rfl)) ?_
            exact k_fin E dL_logs_128 (rfl) (by rw [mShN_3]; rfl)
          refine k_aload_n (q := 91) C 0 dL_logs_90 rfl rfl ?_
          refine k_bipush (q := 93) (v := 9) C dL_logs_91 (by decide +kernel) rfl ?_
          refine k_iald (q := 94) C 0 rfl (vp_in_nI (n := 9) (by decide) (by decide)) dL_logs_93 rfl ?_
          refine k_st (st2 := (.int ((qSt nM oM sM gM knM loM lfM) 9) :: _)) (congrArg (fun z => Value.int z :: _) (show (qSt nM oM sM gM knM loM lfM) (9 : Int32).toNatClampNeg = (qSt nM oM sM gM knM loM lfM) 9 from congrArg (qSt nM oM sM gM knM loM lfM) (nI_clamp (n := 9) (by decide)))) ?_
          refine k_st (st2 := (.int (nI knM) :: _)) (congrArg (fun z => Value.int z :: _) (show (qSt nM oM sM gM knM loM lfM) 9 = nI knM from rfl)) ?_
          refine k_bipush (q := 96) (v := 8) C dL_logs_94 (by decide +kernel) rfl ?_
          refine k_nicmp_ge (a := knM) (b := 8)  (tgt := 103) (q := 99) C dL_logs_96 (by decide) rfl (by omega) (by decide) ?_ ?_
          · intro c_96
            refine k_iconst (q := 104) (v := 0) C dL_logs_103 (by decide) rfl ?_
            exact k_st (congrArg (fun z => Value.int z :: _) (show 0 = nI (min (knM + 1) 8 - knM) from by first | (rw [show min (knM + 1) 8 - knM = 1 by omega]; rfl) | (rw [show min (knM + 1) 8 - knM = 0 by omega]; rfl))) J_90
          · intro c_96
            refine k_iconst (q := 100) (v := 1) C dL_logs_99 (by decide) rfl ?_
            refine k_goto (q := 104) C dL_logs_100 (by decide) ?_
            exact k_st (congrArg (fun z => Value.int z :: _) (show 1 = nI (min (knM + 1) 8 - knM) from by first | (rw [show min (knM + 1) 8 - knM = 1 by omega]; rfl) | (rw [show min (knM + 1) 8 - knM = 0 by omega]; rfl))) J_90
        refine k_iload (q := 73) C 4 dL_logs_71 rfl rfl ?_
        refine k_ifB_eq (tgt := 83) (q := 76) C dL_logs_73 (by decide) rfl ?_ ?_
        · intro c_73
          refine k_iconst (q := 84) (v := 0) C dL_logs_83 (by decide) rfl ?_
          exact k_st (congrArg (fun z => Value.int z :: _) (show 0 = bI ((mLg hM nM (sMeet gM (sM 0) (sM 1)) (mC (sClose (mLit oM) hM tM sM gM) (mD hM sM gM) nM)).2.2.2 = true) from by first | exact mRn_lg3 c_73 | (rw [mLg_n (Decidable.not_not.mp c_73)]; rfl))) J_71
        · intro c_73
          refine k_aload (q := 78) C 3 dL_logs_76 rfl rfl ?_
          refine k_iconst (q := 79) (v := 3) C dL_logs_78 (by decide) rfl ?_
          refine k_iald (q := 80) C 5 rfl (vp_in_nI (n := 3) (by decide) (by decide)) dL_logs_79 rfl ?_
          refine k_st (st2 := (.int ((upd (upd (upd (upd rM 0 (mRn hM nM (sMeet gM (sM 0) (sM 1)) (mC (sClose (mLit oM) hM tM sM gM) (mD hM sM gM) nM) 0)) 1 (mRn hM nM (sMeet gM (sM 0) (sM 1)) (mC (sClose (mLit oM) hM tM sM gM) (mD hM sM gM) nM) 1)) 2 (mRn hM nM (sMeet gM (sM 0) (sM 1)) (mC (sClose (mLit oM) hM tM sM gM) (mD hM sM gM) nM) 2)) 3 (mRn hM nM (sMeet gM (sM 0) (sM 1)) (mC (sClose (mLit oM) hM tM sM gM) (mD hM sM gM) nM) 3)) 3) :: _)) (congrArg (fun z => Value.int z :: _) (show (upd (upd (upd (upd rM 0 (mRn hM nM (sMeet gM (sM 0) (sM 1)) (mC (sClose (mLit oM) hM tM sM gM) (mD hM sM gM) nM) 0)) 1 (mRn hM nM (sMeet gM (sM 0) (sM 1)) (mC (sClose (mLit oM) hM tM sM gM) (mD hM sM gM) nM) 1)) 2 (mRn hM nM (sMeet gM (sM 0) (sM 1)) (mC (sClose (mLit oM) hM tM sM gM) (mD hM sM gM) nM) 2)) 3 (mRn hM nM (sMeet gM (sM 0) (sM 1)) (mC (sClose (mLit oM) hM tM sM gM) (mD hM sM gM) nM) 3)) (3 : Int32).toNatClampNeg = (upd (upd (upd (upd rM 0 (mRn hM nM (sMeet gM (sM 0) (sM 1)) (mC (sClose (mLit oM) hM tM sM gM) (mD hM sM gM) nM) 0)) 1 (mRn hM nM (sMeet gM (sM 0) (sM 1)) (mC (sClose (mLit oM) hM tM sM gM) (mD hM sM gM) nM) 1)) 2 (mRn hM nM (sMeet gM (sM 0) (sM 1)) (mC (sClose (mLit oM) hM tM sM gM) (mD hM sM gM) nM) 2)) 3 (mRn hM nM (sMeet gM (sM 0) (sM 1)) (mC (sClose (mLit oM) hM tM sM gM) (mD hM sM gM) nM) 3)) 3 from congrArg (upd (upd (upd (upd rM 0 (mRn hM nM (sMeet gM (sM 0) (sM 1)) (mC (sClose (mLit oM) hM tM sM gM) (mD hM sM gM) nM) 0)) 1 (mRn hM nM (sMeet gM (sM 0) (sM 1)) (mC (sClose (mLit oM) hM tM sM gM) (mD hM sM gM) nM) 1)) 2 (mRn hM nM (sMeet gM (sM 0) (sM 1)) (mC (sClose (mLit oM) hM tM sM gM) (mD hM sM gM) nM) 2)) 3 (mRn hM nM (sMeet gM (sM 0) (sM 1)) (mC (sClose (mLit oM) hM tM sM gM) (mD hM sM gM) nM) 3)) (nI_clamp (n := 3) (by decide)))) ?_
          refine k_st (st2 := (.int (mRn hM nM (sMeet gM (sM 0) (sM 1)) (mC (sClose (mLit oM) hM tM sM gM) (mD hM sM gM) nM) 3) :: _)) (congrArg (fun z => Value.int z :: _) (show (upd (upd (upd (upd rM 0 (mRn hM nM (sMeet gM (sM 0) (sM 1)) (mC (sClose (mLit oM) hM tM sM gM) (mD hM sM gM) nM) 0)) 1 (mRn hM nM (sMeet gM (sM 0) (sM 1)) (mC (sClose (mLit oM) hM tM sM gM) (mD hM sM gM) nM) 1)) 2 (mRn hM nM (sMeet gM (sM 0) (sM 1)) (mC (sClose (mLit oM) hM tM sM gM) (mD hM sM gM) nM) 2)) 3 (mRn hM nM (sMeet gM (sM 0) (sM 1)) (mC (sClose (mLit oM) hM tM sM gM) (mD hM sM gM) nM) 3)) 3 = mRn hM nM (sMeet gM (sM 0) (sM 1)) (mC (sClose (mLit oM) hM tM sM gM) (mD hM sM gM) nM) 3 from rfl)) ?_
          refine k_goto (q := 84) C dL_logs_80 (by decide) ?_
          exact k_st (congrArg (fun z => Value.int z :: _) (show mRn hM nM (sMeet gM (sM 0) (sM 1)) (mC (sClose (mLit oM) hM tM sM gM) (mD hM sM gM) nM) 3 = bI ((mLg hM nM (sMeet gM (sM 0) (sM 1)) (mC (sClose (mLit oM) hM tM sM gM) (mD hM sM gM) nM)).2.2.2 = true) from by first | exact mRn_lg3 c_73 | (rw [mLg_n (Decidable.not_not.mp c_73)]; rfl))) J_71
      refine k_iload (q := 47) C 4 dL_logs_45 rfl rfl ?_
      refine k_ifB_eq (tgt := 59) (q := 50) C dL_logs_47 (by decide) rfl ?_ ?_
      · intro c_47
        refine k_ldc (q := 61) (v := -99999) C (List.mem_of_getElem? (i := 1) rfl) dL_logs_59 rfl ?_
        exact k_st (congrArg (fun z => Value.int z :: _) (show -99999 = (mLg hM nM (sMeet gM (sM 0) (sM 1)) (mC (sClose (mLit oM) hM tM sM gM) (mD hM sM gM) nM)).2.1 from by first | exact (mLg_h ep2 hp2 c_47).symm | (rw [mLg_n (Decidable.not_not.mp c_47)]))) J_45
      · intro c_47
        obtain ⟨p, hp, ep2⟩ := (mC_ex (sClose (mLit oM) hM tM sM gM) (mD hM sM gM) nM).resolve_left (fun q => c_47 (Or.inr q))
        have hp2 : p < 6 := by omega
        refine k_aload_n (q := 51) C 1 dL_logs_50 rfl rfl ?_
        refine k_aload (q := 53) C 3 dL_logs_51 rfl rfl ?_
        refine k_iconst (q := 54) (v := 1) C dL_logs_53 (by decide) rfl ?_
        refine k_iald (q := 55) C 5 rfl (vp_in_nI (n := 1) (by decide) (by decide)) dL_logs_54 rfl ?_
        refine k_st (st2 := (.int ((upd (upd (upd (upd rM 0 (mRn hM nM (sMeet gM (sM 0) (sM 1)) (mC (sClose (mLit oM) hM tM sM gM) (mD hM sM gM) nM) 0)) 1 (mRn hM nM (sMeet gM (sM 0) (sM 1)) (mC (sClose (mLit oM) hM tM sM gM) (mD hM sM gM) nM) 1)) 2 (mRn hM nM (sMeet gM (sM 0) (sM 1)) (mC (sClose (mLit oM) hM tM sM gM) (mD hM sM gM) nM) 2)) 3 (mRn hM nM (sMeet gM (sM 0) (sM 1)) (mC (sClose (mLit oM) hM tM sM gM) (mD hM sM gM) nM) 3)) 1) :: _)) (congrArg (fun z => Value.int z :: _) (show (upd (upd (upd (upd rM 0 (mRn hM nM (sMeet gM (sM 0) (sM 1)) (mC (sClose (mLit oM) hM tM sM gM) (mD hM sM gM) nM) 0)) 1 (mRn hM nM (sMeet gM (sM 0) (sM 1)) (mC (sClose (mLit oM) hM tM sM gM) (mD hM sM gM) nM) 1)) 2 (mRn hM nM (sMeet gM (sM 0) (sM 1)) (mC (sClose (mLit oM) hM tM sM gM) (mD hM sM gM) nM) 2)) 3 (mRn hM nM (sMeet gM (sM 0) (sM 1)) (mC (sClose (mLit oM) hM tM sM gM) (mD hM sM gM) nM) 3)) (1 : Int32).toNatClampNeg = (upd (upd (upd (upd rM 0 (mRn hM nM (sMeet gM (sM 0) (sM 1)) (mC (sClose (mLit oM) hM tM sM gM) (mD hM sM gM) nM) 0)) 1 (mRn hM nM (sMeet gM (sM 0) (sM 1)) (mC (sClose (mLit oM) hM tM sM gM) (mD hM sM gM) nM) 1)) 2 (mRn hM nM (sMeet gM (sM 0) (sM 1)) (mC (sClose (mLit oM) hM tM sM gM) (mD hM sM gM) nM) 2)) 3 (mRn hM nM (sMeet gM (sM 0) (sM 1)) (mC (sClose (mLit oM) hM tM sM gM) (mD hM sM gM) nM) 3)) 1 from congrArg (upd (upd (upd (upd rM 0 (mRn hM nM (sMeet gM (sM 0) (sM 1)) (mC (sClose (mLit oM) hM tM sM gM) (mD hM sM gM) nM) 0)) 1 (mRn hM nM (sMeet gM (sM 0) (sM 1)) (mC (sClose (mLit oM) hM tM sM gM) (mD hM sM gM) nM) 1)) 2 (mRn hM nM (sMeet gM (sM 0) (sM 1)) (mC (sClose (mLit oM) hM tM sM gM) (mD hM sM gM) nM) 2)) 3 (mRn hM nM (sMeet gM (sM 0) (sM 1)) (mC (sClose (mLit oM) hM tM sM gM) (mD hM sM gM) nM) 3)) (nI_clamp (n := 1) (by decide)))) ?_
        refine k_st (st2 := (.int (mRn hM nM (sMeet gM (sM 0) (sM 1)) (mC (sClose (mLit oM) hM tM sM gM) (mD hM sM gM) nM) 1) :: _)) (congrArg (fun z => Value.int z :: _) (show (upd (upd (upd (upd rM 0 (mRn hM nM (sMeet gM (sM 0) (sM 1)) (mC (sClose (mLit oM) hM tM sM gM) (mD hM sM gM) nM) 0)) 1 (mRn hM nM (sMeet gM (sM 0) (sM 1)) (mC (sClose (mLit oM) hM tM sM gM) (mD hM sM gM) nM) 1)) 2 (mRn hM nM (sMeet gM (sM 0) (sM 1)) (mC (sClose (mLit oM) hM tM sM gM) (mD hM sM gM) nM) 2)) 3 (mRn hM nM (sMeet gM (sM 0) (sM 1)) (mC (sClose (mLit oM) hM tM sM gM) (mD hM sM gM) nM) 3)) 1 = mRn hM nM (sMeet gM (sM 0) (sM 1)) (mC (sClose (mLit oM) hM tM sM gM) (mD hM sM gM) nM) 1 from rfl)) ?_
        refine k_st (st2 := (.int (nI p) :: _)) (congrArg (fun z => Value.int z :: _) (show mRn hM nM (sMeet gM (sM 0) (sM 1)) (mC (sClose (mLit oM) hM tM sM gM) (mD hM sM gM) nM) 1 = nI p from mRn_w1p ep2 hp2 c_47)) ?_
        refine k_iald (q := 56) C 1 rfl (vp_in_nI (n := p) (by omega) (by decide)) dL_logs_55 rfl ?_
        refine k_st (st2 := (.int (hM p) :: _)) (congrArg (fun z => Value.int z :: _) (show hM (nI p).toNatClampNeg = hM p from congrArg hM (nI_clamp (n := p) (by omega)))) ?_
        refine k_goto (q := 61) C dL_logs_56 (by decide) ?_
        exact k_st (congrArg (fun z => Value.int z :: _) (show hM p = (mLg hM nM (sMeet gM (sM 0) (sM 1)) (mC (sClose (mLit oM) hM tM sM gM) (mD hM sM gM) nM)).2.1 from by first | exact (mLg_h ep2 hp2 c_47).symm | (rw [mLg_n (Decidable.not_not.mp c_47)]))) J_45
    · intro c_17
      refine k_aload_n (q := 21) C 2 dL_logs_20 rfl rfl ?_
      refine k_iload (q := 23) C 5 dL_logs_21 rfl rfl ?_
      refine k_aload_n (q := 24) C 2 dL_logs_23 rfl rfl ?_
      refine k_iload (q := 26) C 5 dL_logs_24 rfl rfl ?_
      refine k_iconst (q := 27) (v := 4) C dL_logs_26 (by decide) rfl ?_
      refine k_isub (q := 28) C dL_logs_27 rfl ?_
      refine k_st (st2 := (.int (nI (k - 4)) :: _)) (congrArg (fun z => Value.int z :: _) (show (nI k) - 4 = nI (k - 4) from pk_sub (a := k) (b := 4) (by omega))) ?_
      refine k_iald (q := 29) C 3 rfl (vp_in_nI (n := k - 4) (by omega) (by decide)) dL_logs_28 rfl ?_
      refine k_st (st2 := (.int ((mShN lM k) (k - 4)) :: _)) (congrArg (fun z => Value.int z :: _) (show (mShN lM k) (nI (k - 4)).toNatClampNeg = (mShN lM k) (k - 4) from congrArg (mShN lM k) (nI_clamp (n := k - 4) (by omega)))) ?_
      refine k_st (st2 := (.int (lM (k - 4)) :: _)) (congrArg (fun z => Value.int z :: _) (show (mShN lM k) (k - 4) = lM (k - 4) from mShN_at (by omega))) ?_
      refine k_iast (q := 30) (w2 := (wLa e cy (qSt nM oM sM gM knM loM lfM) hM tM (upd (mShN lM k) k (lM (k - 4))) bM (upd (upd (upd (upd rM 0 (mRn hM nM (sMeet gM (sM 0) (sM 1)) (mC (sClose (mLit oM) hM tM sM gM) (mD hM sM gM) nM) 0)) 1 (mRn hM nM (sMeet gM (sM 0) (sM 1)) (mC (sClose (mLit oM) hM tM sM gM) (mD hM sM gM) nM) 1)) 2 (mRn hM nM (sMeet gM (sM 0) (sM 1)) (mC (sClose (mLit oM) hM tM sM gM) (mD hM sM gM) nM) 2)) 3 (mRn hM nM (sMeet gM (sM 0) (sM 1)) (mC (sClose (mLit oM) hM tM sM gM) (mD hM sM gM) nM) 3)))) C 3 rfl (vp_in_nI (n := k) (by omega) (by decide)) (by rw [nI_clamp (n := k) (by omega)]; rfl) dL_logs_29 rfl ?_
      refine k_w (w2 := (wLa e cy (qSt nM oM sM gM knM loM lfM) hM tM (mShN lM (k - 1)) bM (upd (upd (upd (upd rM 0 (mRn hM nM (sMeet gM (sM 0) (sM 1)) (mC (sClose (mLit oM) hM tM sM gM) (mD hM sM gM) nM) 0)) 1 (mRn hM nM (sMeet gM (sM 0) (sM 1)) (mC (sClose (mLit oM) hM tM sM gM) (mD hM sM gM) nM) 1)) 2 (mRn hM nM (sMeet gM (sM 0) (sM 1)) (mC (sClose (mLit oM) hM tM sM gM) (mD hM sM gM) nM) 2)) 3 (mRn hM nM (sMeet gM (sM 0) (sM 1)) (mC (sClose (mLit oM) hM tM sM gM) (mD hM sM gM) nM) 3)))) (by rw [mShN_s (by omega) h2]) ?_
      refine k_iinc (q := 33) (v := nI (k - 1)) (fr2 := [(6, .int (nI (k - 1))), (0, .ref (e 0)), (1, .ref (e 1)), (2, .ref (e 3)), (4, .ref (e 5)), (5, .int (bI (lIs (sMeet gM (sM 0) (sM 1)) (mC (sClose (mLit oM) hM tM sM gM) (mD hM sM gM) nM))))]) C 5 dL_logs_30 rfl ((by rw [show (Int32.ofInt (-1)) = -1 from by decide +kernel, ← Int32.sub_eq_add_neg]; exact pk_sub (a := k) (b := 1) (by omega))) (by decide) rfl rfl ?_
      refine k_goto (q := 14) C dL_logs_33 (by decide) ?_
      refine k_fr (fr2 := [(0, .ref (e 0)), (1, .ref (e 1)), (2, .ref (e 3)), (4, .ref (e 5)), (5, .int (bI (lIs (sMeet gM (sM 0) (sM 1)) (mC (sClose (mLit oM) hM tM sM gM) (mD hM sM gM) nM)))), (6, .int (nI (k - 1)))]) ⟨[1, 2, 3, 4, 5, 0], rfl⟩ ?_
      exact ih (k - 1) (by omega) (by omega) (by omega)
set_option maxHeartbeats 4000000 in
set_option maxRecDepth 100000 in
theorem c_L_logs (cy : Nat → ClassId) (e : Nat → Nat) (nM : Nat) (oM : Nat → Int32) (sM : Nat → Int32) (gM : Nat → Int32) (knM : Nat) (loM : Int32) (lfM : Int32) (hM : Nat → Int32) (tM : Nat → Int32) (lM : Nat → Int32) (bM : Nat → Int32) (rM : Nat → Int32)  (hn : nM ≤ 6) (hb : lB nM hM tM (gM 1) bM) (ho : mBin oM) (hs0 : sOk (sM 0)) (hs1 : sOk (sM 1)) (hg0 : 50 ≤ (gM 0).toInt ∧ (gM 0).toInt ≤ 1000) (hk : knM ≤ 8) : kI yL_logs wsL_logs rm_L_logs cy [.ref (e 0), .ref (e 1), .ref (e 3), .ref (e 4), .ref (e 5)] (wLa e cy (qSt nM oM sM gM knM loM lfM) hM tM lM bM rM) (nI (min (knM + 1) 8)) (wLa e cy (qSt nM oM sM gM (min (knM + 1) 8) (loM + 1) (lfM + bI ((mLg hM nM (sMeet gM (sM 0) (sM 1)) (mC (sClose (mLit oM) hM tM sM gM) (mD hM sM gM) nM)).2.2.2 = true))) hM tM (sWrL lM (mLg hM nM (sMeet gM (sM 0) (sM 1)) (mC (sClose (mLit oM) hM tM sM gM) (mD hM sM gM) nM))) bM (upd (upd (upd (upd rM 0 (mRn hM nM (sMeet gM (sM 0) (sM 1)) (mC (sClose (mLit oM) hM tM sM gM) (mD hM sM gM) nM) 0)) 1 (mRn hM nM (sMeet gM (sM 0) (sM 1)) (mC (sClose (mLit oM) hM tM sM gM) (mD hM sM gM) nM) 1)) 2 (mRn hM nM (sMeet gM (sM 0) (sM 1)) (mC (sClose (mLit oM) hM tM sM gM) (mD hM sM gM) nM) 2)) 3 (mRn hM nM (sMeet gM (sM 0) (sM 1)) (mC (sClose (mLit oM) hM tM sM gM) (mD hM sM gM) nM) 3))) := by
  refine kI_of (cc := cL_logs) (maxL := 7) (rt := .int) (by decide) rfl (rfl) (Nat.le_of_ble_eq_true rfl) ?_
  intro X hR C E
  have C : kC X 7 RL cL_logs wsL_logs cy := C
  refine k_fr (fr2 := [(0, .ref (e 0)), (1, .ref (e 1)), (2, .ref (e 3)), (3, .ref (e 4)), (4, .ref (e 5))]) ⟨[0, 1, 2, 3, 4], rfl⟩ ?_
  refine k_aload_n (q := 1) C 0 dL_logs_0 rfl rfl ?_
  refine k_aload_n (q := 2) C 1 dL_logs_1 rfl rfl ?_
  refine k_aload_n (q := 3) C 3 dL_logs_2 rfl rfl ?_
  refine k_aload (q := 5) C 4 dL_logs_3 rfl rfl ?_
  refine k_callSI (n := 4) (q := 8) (pre := ([] : va_W)) (post := ([] : va_W)) (w2 := (wLa e cy (qSt nM oM sM gM knM loM lfM) hM tM lM bM (upd (upd (upd (upd rM 0 (mRn hM nM (sMeet gM (sM 0) (sM 1)) (mC (sClose (mLit oM) hM tM sM gM) (mD hM sM gM) nM) 0)) 1 (mRn hM nM (sMeet gM (sM 0) (sM 1)) (mC (sClose (mLit oM) hM tM sM gM) (mD hM sM gM) nM) 1)) 2 (mRn hM nM (sMeet gM (sM 0) (sM 1)) (mC (sClose (mLit oM) hM tM sM gM) (mD hM sM gM) nM) 2)) 3 (mRn hM nM (sMeet gM (sM 0) (sM 1)) (mC (sClose (mLit oM) hM tM sM gM) (mD hM sM gM) nM) 3)))) (As := [.ref (e 0), .ref (e 1), .ref (e 4), .ref (e 5)]) (rest := []) C (c_L_reads cy e nM oM sM gM knM loM lfM hM tM lM bM rM hn hb ho hs0 hs1 hg0) gL_logs_L_reads rfl rfl rfl (by decide +kernel) (k_room hR (by decide)) ⟨Nat.zero_le _, Nat.zero_le _⟩  rfl rfl (Nat.le_of_ble_eq_true rfl) ((List.append_nil _).symm) (List.append_nil _) dL_logs_5 rfl ?_
  refine k_istore (q := 10) (fr2 := [(5, .int (bI (lIs (sMeet gM (sM 0) (sM 1)) (mC (sClose (mLit oM) hM tM sM gM) (mD hM sM gM) nM)))), (0, .ref (e 0)), (1, .ref (e 1)), (2, .ref (e 3)), (3, .ref (e 4)), (4, .ref (e 5))]) C dL_logs_8 (by decide) rfl rfl ?_
  refine k_bipush (q := 12) (v := 31) C dL_logs_10 (by decide +kernel) rfl ?_
  refine k_istore (q := 14) (fr2 := [(6, .int 31), (5, .int (bI (lIs (sMeet gM (sM 0) (sM 1)) (mC (sClose (mLit oM) hM tM sM gM) (mD hM sM gM) nM)))), (0, .ref (e 0)), (1, .ref (e 1)), (2, .ref (e 3)), (3, .ref (e 4)), (4, .ref (e 5))]) C dL_logs_12 (by decide) rfl rfl ?_
  refine k_fr (fr2 := [(0, .ref (e 0)), (1, .ref (e 1)), (2, .ref (e 3)), (4, .ref (e 5)), (5, .int (bI (lIs (sMeet gM (sM 0) (sM 1)) (mC (sClose (mLit oM) hM tM sM gM) (mD hM sM gM) nM)))), (6, .int 31)]) ⟨[2, 3, 4, 6, 1, 0], rfl⟩ ?_
  have K := lp_L_logs_14 cy e nM oM sM gM knM loM lfM hM tM lM bM rM hn hb ho hs0 hs1 hg0 hk X hR C E _ 31 (Nat.lt_succ_self _) (by decide) (by decide)
  rw [mShN_0] at K
  exact K
abbrev rm_L_seenAll : Room := { frames := 1, cells := 0, slots := 0, locals := 23 }
set_option maxHeartbeats 4000000 in
set_option maxRecDepth 100000 in
theorem lp_L_seenAll_4 (cy : Nat → ClassId) (e : Nat → Nat) (nM : Nat) (oM : Nat → Int32) (sM : Nat → Int32) (gM : Nat → Int32) (knM : Nat) (loM : Int32) (lfM : Int32) (hM : Nat → Int32) (tM : Nat → Int32) (lM : Nat → Int32) (bM : Nat → Int32) (rM : Nat → Int32) (z : Int32)  (hn : nM ≤ 6) (hb : lB nM hM tM z bM) (X : kX) (hR : xR X = rm_L_seenAll) (C : kC X 4 RL cL_seenAll wsL_seenAll cy) (E : kEnd X 4 cL_seenAll (mSpots oM hM tM gM z nM) (wLa e cy (qSt nM oM sM gM knM loM lfM) hM tM lM bM rM)) : ∀ (fu : Nat) (k : Nat), nM - k < fu → (k ≤ nM) → kG X 4 0 0 (wLa e cy (qSt nM oM sM gM knM loM lfM) hM tM lM bM rM) 4 [(0, .ref (e 0)), (1, .ref (e 4)), (2, .int (mSpots oM hM tM gM z k)), (3, .int (nI k))] [] := by
  intro fu
  induction fu with
  | zero => intro k hfu; exact absurd hfu (Nat.not_lt_zero _)
  | succ fu ih =>
    intro k hfu hk
    refine k_iload_n (q := 5) C 3 dL_seenAll_4 rfl rfl ?_
    refine k_aload_n (q := 6) C 0 dL_seenAll_5 rfl rfl ?_
    refine k_bipush (q := 8) (v := 8) C dL_seenAll_6 (by decide +kernel) rfl ?_
    refine k_iald (q := 9) C 0 rfl (vp_in_nI (n := 8) (by decide) (by decide)) dL_seenAll_8 rfl ?_
    refine k_st (st2 := (.int ((qSt nM oM sM gM knM loM lfM) 8) :: _)) (congrArg (fun z => Value.int z :: _) (show (qSt nM oM sM gM knM loM lfM) (8 : Int32).toNatClampNeg = (qSt nM oM sM gM knM loM lfM) 8 from congrArg (qSt nM oM sM gM knM loM lfM) (nI_clamp (n := 8) (by decide)))) ?_
    refine k_st (st2 := (.int (nI nM) :: _)) (congrArg (fun z => Value.int z :: _) (show (qSt nM oM sM gM knM loM lfM) 8 = nI nM from rfl)) ?_
    refine k_nicmp_ge (a := k) (b := nM)  (tgt := 52) (q := 12) C dL_seenAll_9 (by decide) rfl (by omega) (by omega) ?_ ?_
    · intro c_9
      obtain rfl : nM = k := by omega
      refine k_iload_n (q := 53) C 2 dL_seenAll_52 rfl rfl ?_
      exact k_fin E dL_seenAll_53 (rfl) (rfl)
    · intro c_9
      refine k_iload_n (q := 13) C 2 dL_seenAll_12 rfl rfl ?_
      refine k_iconst (q := 14) (v := 0) C dL_seenAll_13 (by decide) rfl ?_
      refine k_iload_n (q := 15) C 3 dL_seenAll_14 rfl rfl ?_
      refine k_aload_n (q := 16) C 0 dL_seenAll_15 rfl rfl ?_
      refine k_aload_n (q := 17) C 1 dL_seenAll_16 rfl rfl ?_
      refine k_callSI (n := 4) (q := 20) (pre := ([] : va_W)) (post := ([] : va_W)) (w2 := (wLa e cy (qSt nM oM sM gM knM loM lfM) hM tM lM bM rM)) (As := [.int 0, .int (nI k), .ref (e 0), .ref (e 4)]) (rest := [.int (mSpots oM hM tM gM z k)]) C (c_L_seen cy e nM oM sM gM knM loM lfM hM tM lM bM rM 0 k z (by decide) hn (by omega) hb) gL_seenAll_L_seen rfl rfl rfl (by decide +kernel) (k_room hR (by decide)) ⟨Nat.zero_le _, Nat.zero_le _⟩  rfl rfl (Nat.le_of_ble_eq_true rfl) ((List.append_nil _).symm) (List.append_nil _) dL_seenAll_17 rfl ?_
      have J_20 : kG X 4 0 0 (wLa e cy (qSt nM oM sM gM knM loM lfM) hM tM lM bM rM) 28 [(0, .ref (e 0)), (1, .ref (e 4)), (2, .int (mSpots oM hM tM gM z k)), (3, .int (nI k))] [.int (bI (oM 0 = 1 ∧ sSeen hM tM gM z k = true)), .int (mSpots oM hM tM gM z k)] := by
        refine k_iconst (q := 29) (v := 1) C dL_seenAll_28 (by decide) rfl ?_
        refine k_iload_n (q := 30) C 3 dL_seenAll_29 rfl rfl ?_
        refine k_aload_n (q := 31) C 0 dL_seenAll_30 rfl rfl ?_
        refine k_aload_n (q := 32) C 1 dL_seenAll_31 rfl rfl ?_
        refine k_callSI (n := 4) (q := 35) (pre := ([] : va_W)) (post := ([] : va_W)) (w2 := (wLa e cy (qSt nM oM sM gM knM loM lfM) hM tM lM bM rM)) (As := [.int 1, .int (nI k), .ref (e 0), .ref (e 4)]) (rest := [.int (bI (oM 0 = 1 ∧ sSeen hM tM gM z k = true)), .int (mSpots oM hM tM gM z k)]) C (c_L_seen cy e nM oM sM gM knM loM lfM hM tM lM bM rM 1 k z (by decide) hn (by omega) hb) gL_seenAll_L_seen rfl rfl rfl (by decide +kernel) (k_room hR (by decide)) ⟨Nat.zero_le _, Nat.zero_le _⟩  rfl rfl (Nat.le_of_ble_eq_true rfl) ((List.append_nil _).symm) (List.append_nil _) dL_seenAll_32 rfl ?_
        have J_35 : kG X 4 0 0 (wLa e cy (qSt nM oM sM gM knM loM lfM) hM tM lM bM rM) 43 [(0, .ref (e 0)), (1, .ref (e 4)), (2, .int (mSpots oM hM tM gM z k)), (3, .int (nI k))] [.int (bI (oM 1 = 1 ∧ sSeen hM tM gM z k = true)), .int (bI (oM 0 = 1 ∧ sSeen hM tM gM z k = true)), .int (mSpots oM hM tM gM z k)] := by
          refine k_iadd (q := 44) C dL_seenAll_43 rfl ?_
          refine k_iadd (q := 45) C dL_seenAll_44 rfl ?_
          refine k_istore_n (q := 46) (fr2 := [(2, .int ((mSpots oM hM tM gM z k) + ((bI (oM 0 = 1 ∧ sSeen hM tM gM z k = true)) + (bI (oM 1 = 1 ∧ sSeen hM tM gM z k = true))))), (0, .ref (e 0)), (1, .ref (e 4)), (3, .int (nI k))]) C dL_seenAll_45 (by decide) rfl rfl ?_
          refine k_iinc (q := 49) (v := nI (k + 1)) (fr2 := [(3, .int (nI (k + 1))), (2, .int ((mSpots oM hM tM gM z k) + ((bI (oM 0 = 1 ∧ sSeen hM tM gM z k = true)) + (bI (oM 1 = 1 ∧ sSeen hM tM gM z k = true))))), (0, .ref (e 0)), (1, .ref (e 4))]) C 3 dL_seenAll_46 rfl (nI_add k 1) (by decide) rfl rfl ?_
          refine k_goto (q := 4) C dL_seenAll_49 (by decide) ?_
          refine k_fr (fr2 := [(0, .ref (e 0)), (1, .ref (e 4)), (2, .int ((mSpots oM hM tM gM z k) + ((bI (oM 0 = 1 ∧ sSeen hM tM gM z k = true)) + (bI (oM 1 = 1 ∧ sSeen hM tM gM z k = true))))), (3, .int (nI (k + 1)))]) ⟨[2, 3, 1, 0], rfl⟩ ?_
          exact ih (k + 1) (by omega) (by omega)
        refine k_ifB_eq (tgt := 42) (q := 38) C dL_seenAll_35 (by decide) rfl ?_ ?_
        · intro c_35
          refine k_iconst (q := 43) (v := 0) C dL_seenAll_42 (by decide) rfl ?_
          exact k_st (congrArg (fun z => Value.int z :: _) (show 0 = bI (oM 1 = 1 ∧ sSeen hM tM gM z k = true) from by first | exact bI_t c_35 | exact bI_f c_35)) J_35
        · intro c_35
          refine k_iconst (q := 39) (v := 1) C dL_seenAll_38 (by decide) rfl ?_
          refine k_goto (q := 43) C dL_seenAll_39 (by decide) ?_
          exact k_st (congrArg (fun z => Value.int z :: _) (show 1 = bI (oM 1 = 1 ∧ sSeen hM tM gM z k = true) from by first | exact bI_t c_35 | exact bI_f c_35)) J_35
      refine k_ifB_eq (tgt := 27) (q := 23) C dL_seenAll_20 (by decide) rfl ?_ ?_
      · intro c_20
        refine k_iconst (q := 28) (v := 0) C dL_seenAll_27 (by decide) rfl ?_
        exact k_st (congrArg (fun z => Value.int z :: _) (show 0 = bI (oM 0 = 1 ∧ sSeen hM tM gM z k = true) from by first | exact bI_t c_20 | exact bI_f c_20)) J_20
      · intro c_20
        refine k_iconst (q := 24) (v := 1) C dL_seenAll_23 (by decide) rfl ?_
        refine k_goto (q := 28) C dL_seenAll_24 (by decide) ?_
        exact k_st (congrArg (fun z => Value.int z :: _) (show 1 = bI (oM 0 = 1 ∧ sSeen hM tM gM z k = true) from by first | exact bI_t c_20 | exact bI_f c_20)) J_20
set_option maxHeartbeats 4000000 in
set_option maxRecDepth 100000 in
theorem c_L_seenAll (cy : Nat → ClassId) (e : Nat → Nat) (nM : Nat) (oM : Nat → Int32) (sM : Nat → Int32) (gM : Nat → Int32) (knM : Nat) (loM : Int32) (lfM : Int32) (hM : Nat → Int32) (tM : Nat → Int32) (lM : Nat → Int32) (bM : Nat → Int32) (rM : Nat → Int32) (z : Int32)  (hn : nM ≤ 6) (hb : lB nM hM tM z bM) : kI yL_seenAll wsL_seenAll rm_L_seenAll cy [.ref (e 0), .ref (e 4)] (wLa e cy (qSt nM oM sM gM knM loM lfM) hM tM lM bM rM) (mSpots oM hM tM gM z nM) (wLa e cy (qSt nM oM sM gM knM loM lfM) hM tM lM bM rM) := by
  refine kI_of (cc := cL_seenAll) (maxL := 4) (rt := .int) (by decide) rfl (rfl) (Nat.le_of_ble_eq_true rfl) ?_
  intro X hR C E
  have C : kC X 4 RL cL_seenAll wsL_seenAll cy := C
  refine k_fr (fr2 := [(0, .ref (e 0)), (1, .ref (e 4))]) ⟨[0, 1], rfl⟩ ?_
  refine k_iconst (q := 1) (v := 0) C dL_seenAll_0 (by decide) rfl ?_
  refine k_istore_n (q := 2) (fr2 := [(2, .int 0), (0, .ref (e 0)), (1, .ref (e 4))]) C dL_seenAll_1 (by decide) rfl rfl ?_
  refine k_iconst (q := 3) (v := 0) C dL_seenAll_2 (by decide) rfl ?_
  refine k_istore_n (q := 4) (fr2 := [(3, .int 0), (2, .int 0), (0, .ref (e 0)), (1, .ref (e 4))]) C dL_seenAll_3 (by decide) rfl rfl ?_
  refine k_fr (fr2 := [(0, .ref (e 0)), (1, .ref (e 4)), (2, .int 0), (3, .int 0)]) ⟨[2, 3, 1, 0], rfl⟩ ?_
  exact lp_L_seenAll_4 cy e nM oM sM gM knM loM lfM hM tM lM bM rM z hn hb X hR C E _ 0 (Nat.lt_succ_self _) (by omega)
