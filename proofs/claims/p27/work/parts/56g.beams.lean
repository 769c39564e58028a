abbrev rm_L_beams : Room := { frames := 0, cells := 0, slots := 0, locals := 0 }
set_option maxHeartbeats 4000000 in
set_option maxRecDepth 100000 in
theorem lp_L_beams_8 (cy : Nat → ClassId) (e : Nat → Nat) (nM : Nat) (oM : Nat → Int32) (sM : Nat → Int32) (gM : Nat → Int32) (knM : Nat) (loM : Int32) (lfM : Int32) (hM : Nat → Int32) (tM : Nat → Int32) (lM : Nat → Int32) (bM : Nat → Int32) (rM : Nat → Int32) (z : Int32)  (hn : nM ≤ 6) (X : kX) (hR : xR X = rm_L_beams) (C : kC X 9 RL cL_beams wsL_beams cy) (E : kEndV X 9 cL_beams (wLa e cy (qSt nM oM sM gM knM loM lfM) hM tM lM (lBm hM tM z bM nM) rM)) : ∀ (fu : Nat) (k : Nat), nM - k < fu → (k ≤ nM) → kG X 9 0 0 (wLa e cy (qSt nM oM sM gM knM loM lfM) hM tM lM (lBm hM tM z bM k) rM) 8 [(0, .int z), (1, .ref (e 0)), (2, .ref (e 1)), (3, .ref (e 2)), (4, .ref (e 4)), (5, .int (sGo hM tM z k)), (6, .int (nI k))] [] := by
  intro fu
  induction fu with
  | zero => intro k hfu; exact absurd hfu (Nat.not_lt_zero _)
  | succ fu ih =>
    intro k hfu hk
    refine k_iload (q := 10) C 6 dL_beams_8 rfl rfl ?_
    refine k_aload_n (q := 11) C 1 dL_beams_10 rfl rfl ?_
    refine k_bipush (q := 13) (v := 8) C dL_beams_11 (by decide +kernel) rfl ?_
    refine k_iald (q := 14) C 0 rfl (vp_in_nI (n := 8) (by decide) (by decide)) dL_beams_13 rfl ?_
    refine k_sti (show (qSt nM oM sM gM knM loM lfM) (8 : Int32).toNatClampNeg = (qSt nM oM sM gM knM loM lfM) 8 from congrArg (qSt nM oM sM gM knM loM lfM) (nI_clamp (n := 8) (by decide))) ?_
    refine k_sti (show (qSt nM oM sM gM knM loM lfM) 8 = nI nM from rfl) ?_
    refine k_nicmp_ge (a := k) (b := nM)  (tgt := 115) (q := 17) C dL_beams_14 (by decide) rfl (by omega) (by omega) ?_ ?_
    · intro c_14
      obtain rfl : nM = k := by omega
      exact k_finV E dL_beams_115 (rfl)
    · intro c_14
      refine k_lconst (q := 18) (v := 1) C dL_beams_17 (by decide) rfl ?_
      refine k_iload (q := 20) C 5 dL_beams_18 rfl rfl ?_
      refine k_i2l (q := 21) C dL_beams_20 rfl ?_
      refine k_lmul (q := 22) C dL_beams_21 rfl ?_
      refine k_st (st2 := (.long ((sGo hM tM z k).toInt64) :: _)) (congrArg (fun z => Value.long z :: _) (show 1 * ((sGo hM tM z k).toInt64) = (sGo hM tM z k).toInt64 from Int64.one_mul _)) ?_
      refine k_iload_n (q := 23) C 0 dL_beams_22 rfl rfl ?_
      refine k_i2l (q := 24) C dL_beams_23 rfl ?_
      refine k_lmul (q := 25) C dL_beams_24 rfl ?_
      refine k_aload_n (q := 26) C 2 dL_beams_25 rfl rfl ?_
      refine k_iload (q := 28) C 6 dL_beams_26 rfl rfl ?_
      refine k_iald (q := 29) C 1 rfl (vp_in_nI (n := k) (by omega) (by decide)) dL_beams_28 rfl ?_
      refine k_sti (show hM (nI k).toNatClampNeg = hM k from congrArg hM (nI_clamp (n := k) (by omega))) ?_
      have J_29 : kG X 9 0 0 (wLa e cy (qSt nM oM sM gM knM loM lfM) hM tM lM (lBm hM tM z bM k) rM) 44 [(0, .int z), (1, .ref (e 0)), (2, .ref (e 1)), (3, .ref (e 2)), (4, .ref (e 4)), (5, .int (sGo hM tM z k)), (6, .int (nI k))] [.int (sLow hM k), .int (hM k), .long (((sGo hM tM z k).toInt64) * z.toInt64)] := by
        refine k_isub (q := 45) C dL_beams_44 rfl ?_
        refine k_i2l (q := 46) C dL_beams_45 rfl ?_
        refine k_lmul (q := 47) C dL_beams_46 rfl ?_
        refine k_ldc2 (q := 50) (v := 10000000) C (List.mem_of_getElem? (i := 1) rfl) dL_beams_47 rfl ?_
        refine k_ldiv (q := 51) C dL_beams_50 (by decide) rfl ?_
        refine k_lstore (q := 53) (fr2 := [(7, .long (((((sGo hM tM z k).toInt64) * z.toInt64) * (((hM k) - (sLow hM k)).toInt64)) / 10000000)), (0, .int z), (1, .ref (e 0)), (2, .ref (e 1)), (3, .ref (e 2)), (4, .ref (e 4)), (5, .int (sGo hM tM z k)), (6, .int (nI k))]) C dL_beams_51 (by decide) rfl rfl ?_
        have J_53 : kG X 9 0 0 (wLa e cy (qSt nM oM sM gM knM loM lfM) hM tM lM (lBm hM tM z bM k) rM) 72 [(7, .long (((((sGo hM tM z k).toInt64) * z.toInt64) * (((hM k) - (sLow hM k)).toInt64)) / 10000000)), (0, .int z), (1, .ref (e 0)), (2, .ref (e 1)), (3, .ref (e 2)), (4, .ref (e 4)), (5, .int (sGo hM tM z k)), (6, .int (nI k))] [.int (sCo hM tM z k)] := by
          refine k_istore (q := 74) (fr2 := [(5, .int (sCo hM tM z k)), (7, .long (((((sGo hM tM z k).toInt64) * z.toInt64) * (((hM k) - (sLow hM k)).toInt64)) / 10000000)), (0, .int z), (1, .ref (e 0)), (2, .ref (e 1)), (3, .ref (e 2)), (4, .ref (e 4)), (6, .int (nI k))]) C dL_beams_72 (by decide) rfl rfl ?_
          refine k_aload (q := 76) C 6 dL_beams_74 rfl rfl ?_
          refine k_iconst (q := 77) (v := 2) C dL_beams_76 (by decide) rfl ?_
          refine k_iload (q := 79) C 7 dL_beams_77 rfl rfl ?_
          refine k_imul (q := 80) C dL_beams_79 rfl ?_
          refine k_sti (show 2 * (nI k) = nI (2 * k) from pk_mul 2 k) ?_
          refine k_iload (q := 82) C 0 dL_beams_80 rfl rfl ?_
          refine k_iast (q := 83) (w2 := (wLa e cy (qSt nM oM sM gM knM loM lfM) hM tM lM (upd (lBm hM tM z bM k) (2 * k) (sCo hM tM z k)) rM)) C 4 rfl (vp_in_nI (n := 2 * k) (by omega) (by decide)) (by rw [nI_clamp (n := 2 * k) (by omega)]; rfl) dL_beams_82 rfl ?_
          refine k_iload (q := 85) C 0 dL_beams_83 rfl rfl ?_
          refine k_iload (q := 87) C 0 dL_beams_85 rfl rfl ?_
          refine k_aload_n (q := 88) C 5 dL_beams_87 rfl rfl ?_
          refine k_iload (q := 90) C 7 dL_beams_88 rfl rfl ?_
          refine k_iald (q := 91) C 2 rfl (vp_in_nI (n := k) (by omega) (by decide)) dL_beams_90 rfl ?_
          refine k_sti (show tM (nI k).toNatClampNeg = tM k from congrArg tM (nI_clamp (n := k) (by omega))) ?_
          refine k_imul (q := 92) C dL_beams_91 rfl ?_
          refine k_bipush (q := 94) (v := 100) C dL_beams_92 (by decide +kernel) rfl ?_
          refine k_idiv (q := 95) C dL_beams_94 (by decide) rfl ?_
          refine k_isub (q := 96) C dL_beams_95 rfl ?_
          refine k_istore (q := 98) (fr2 := [(5, .int ((sCo hM tM z k) - (((sCo hM tM z k) * (tM k)) / 100))), (7, .long (((((sGo hM tM z k).toInt64) * z.toInt64) * (((hM k) - (sLow hM k)).toInt64)) / 10000000)), (0, .int z), (1, .ref (e 0)), (2, .ref (e 1)), (3, .ref (e 2)), (4, .ref (e 4)), (6, .int (nI k))]) C dL_beams_96 (by decide) rfl rfl ?_
          refine k_aload (q := 100) C 6 dL_beams_98 rfl rfl ?_
          refine k_iconst (q := 101) (v := 2) C dL_beams_100 (by decide) rfl ?_
          refine k_iload (q := 103) C 7 dL_beams_101 rfl rfl ?_
          refine k_imul (q := 104) C dL_beams_103 rfl ?_
          refine k_sti (show 2 * (nI k) = nI (2 * k) from pk_mul 2 k) ?_
          refine k_iconst (q := 105) (v := 1) C dL_beams_104 (by decide) rfl ?_
          refine k_iadd (q := 106) C dL_beams_105 rfl ?_
          refine k_sti (show (nI (2 * k)) + 1 = nI (2 * k + 1) from nI_add (2 * k) 1) ?_
          refine k_iload (q := 108) C 0 dL_beams_106 rfl rfl ?_
          refine k_iast (q := 109) (w2 := (wLa e cy (qSt nM oM sM gM knM loM lfM) hM tM lM (upd (upd (lBm hM tM z bM k) (2 * k) (sCo hM tM z k)) (2 * k + 1) ((sCo hM tM z k) - (((sCo hM tM z k) * (tM k)) / 100))) rM)) C 4 rfl (vp_in_nI (n := 2 * k + 1) (by omega) (by decide)) (by rw [nI_clamp (n := 2 * k + 1) (by omega)]; rfl) dL_beams_108 rfl ?_
          refine k_iinc (q := 112) (v := nI (k + 1)) (fr2 := [(6, .int (nI (k + 1))), (5, .int ((sCo hM tM z k) - (((sCo hM tM z k) * (tM k)) / 100))), (7, .long (((((sGo hM tM z k).toInt64) * z.toInt64) * (((hM k) - (sLow hM k)).toInt64)) / 10000000)), (0, .int z), (1, .ref (e 0)), (2, .ref (e 1)), (3, .ref (e 2)), (4, .ref (e 4))]) C 7 dL_beams_109 rfl (nI_add k 1) (by decide) rfl rfl ?_
          refine k_goto (q := 8) C dL_beams_112 (by decide) ?_
          refine k_fr (fr2 := [(0, .int z), (1, .ref (e 0)), (2, .ref (e 1)), (3, .ref (e 2)), (4, .ref (e 4)), (5, .int ((sCo hM tM z k) - (((sCo hM tM z k) * (tM k)) / 100))), (6, .int (nI (k + 1)))]) ⟨[3, 4, 5, 6, 7, 1, 0], rfl⟩ ?_
          exact ih (k + 1) (by omega) (by omega)
        refine k_lload (q := 55) C 0 dL_beams_53 rfl rfl ?_
        refine k_iload (q := 57) C 6 dL_beams_55 rfl rfl ?_
        refine k_i2l (q := 58) C dL_beams_57 rfl ?_
        refine k_lcmp (q := 59) C dL_beams_58 rfl ?_
        refine k_if_le (tgt := 66) (q := 62) C dL_beams_59 (by decide) rfl ?_ ?_
        · intro c_59
          refine k_iload (q := 68) C 6 dL_beams_66 rfl rfl ?_
          refine k_lload (q := 70) C 0 dL_beams_68 rfl rfl ?_
          refine k_l2i (q := 71) C dL_beams_70 rfl ?_
          refine k_isub (q := 72) C dL_beams_71 rfl ?_
          exact k_sti (show (sGo hM tM z k) - ((((((sGo hM tM z k).toInt64) * z.toInt64) * (((hM k) - (sLow hM k)).toInt64)) / 10000000).toInt32) = sCo hM tM z k from lHaze1 c_59) J_53
        · intro c_59
          have c_59 := Int32.not_le.mp c_59
          refine k_iconst (q := 63) (v := 0) C dL_beams_62 (by decide) rfl ?_
          refine k_goto (q := 72) C dL_beams_63 (by decide) ?_
          exact k_sti (show 0 = sCo hM tM z k from lHaze0 c_59) J_53
      refine k_iload (q := 31) C 6 dL_beams_29 rfl rfl ?_
      refine k_nif_ne (a := k)  (tgt := 38) (q := 34) C dL_beams_31 (by decide) rfl (by omega) ?_ ?_
      · intro c_31
        refine k_aload_n (q := 39) C 2 dL_beams_38 rfl rfl ?_
        refine k_iload (q := 41) C 6 dL_beams_39 rfl rfl ?_
        refine k_iconst (q := 42) (v := 1) C dL_beams_41 (by decide) rfl ?_
        refine k_isub (q := 43) C dL_beams_42 rfl ?_
        refine k_sti (show (nI k) - 1 = nI (k - 1) from pk_sub (a := k) (b := 1) (by omega)) ?_
        refine k_iald (q := 44) C 1 rfl (vp_in_nI (n := k - 1) (by omega) (by decide)) dL_beams_43 rfl ?_
        refine k_sti (show hM (nI (k - 1)).toNatClampNeg = hM (k - 1) from congrArg hM (nI_clamp (n := k - 1) (by omega))) ?_
        exact k_sti (show hM (k - 1) = sLow hM k from by obtain ⟨m, rfl⟩ : ∃ m, k = m + 1 := ⟨k - 1, by omega⟩; rfl) J_29
      · intro c_31
        refine k_iconst (q := 35) (v := 0) C dL_beams_34 (by decide) rfl ?_
        refine k_goto (q := 44) C dL_beams_35 (by decide) ?_
        exact k_sti (show 0 = sLow hM k from by rw [c_31]; rfl) J_29
set_option maxHeartbeats 4000000 in
set_option maxRecDepth 100000 in
theorem c_L_beams (cy : Nat → ClassId) (e : Nat → Nat) (nM : Nat) (oM : Nat → Int32) (sM : Nat → Int32) (gM : Nat → Int32) (knM : Nat) (loM : Int32) (lfM : Int32) (hM : Nat → Int32) (tM : Nat → Int32) (lM : Nat → Int32) (bM : Nat → Int32) (rM : Nat → Int32) (z : Int32)  (hn : nM ≤ 6) : kV yL_beams wsL_beams rm_L_beams cy [.int z, .ref (e 0), .ref (e 1), .ref (e 2), .ref (e 4)] (wLa e cy (qSt nM oM sM gM knM loM lfM) hM tM lM bM rM) (wLa e cy (qSt nM oM sM gM knM loM lfM) hM tM lM (lBm hM tM z bM nM) rM) := by
  refine kV_of (cc := cL_beams) (maxL := 9) (by decide) rfl (Nat.le_of_ble_eq_true rfl) ?_
  intro X hR C E
  have C : kC X 9 RL cL_beams wsL_beams cy := C
  refine k_fr (fr2 := [(0, .int z), (1, .ref (e 0)), (2, .ref (e 1)), (3, .ref (e 2)), (4, .ref (e 4))]) ⟨[0, 1, 2, 3, 4], rfl⟩ ?_
  refine k_sipush (q := 3) (v := 1000) C dL_beams_0 (by decide +kernel) rfl ?_
  refine k_istore (q := 5) (fr2 := [(5, .int 1000), (0, .int z), (1, .ref (e 0)), (2, .ref (e 1)), (3, .ref (e 2)), (4, .ref (e 4))]) C dL_beams_3 (by decide) rfl rfl ?_
  refine k_iconst (q := 6) (v := 0) C dL_beams_5 (by decide) rfl ?_
  refine k_istore (q := 8) (fr2 := [(6, .int 0), (5, .int 1000), (0, .int z), (1, .ref (e 0)), (2, .ref (e 1)), (3, .ref (e 2)), (4, .ref (e 4))]) C dL_beams_6 (by decide) rfl rfl ?_
  refine k_fr (fr2 := [(0, .int z), (1, .ref (e 0)), (2, .ref (e 1)), (3, .ref (e 2)), (4, .ref (e 4)), (5, .int 1000), (6, .int 0)]) ⟨[2, 3, 4, 5, 6, 1, 0], rfl⟩ ?_
  exact lp_L_beams_8 cy e nM oM sM gM knM loM lfM hM tM lM bM rM z hn X hR C E _ 0 (Nat.lt_succ_self _) (by omega)
