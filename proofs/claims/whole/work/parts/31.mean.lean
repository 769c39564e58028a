abbrev rm_X4_meanError : Room := { frames := 1, cells := 0, slots := 0, locals := 20 }
theorem in4_X4_meanError : ∀ w ∈ wsX40, w ∈ wsX4_meanError := fun _ h => (List.mem_cons_of_mem _ (List.mem_append_right _ h))
set_option maxHeartbeats 4000000 in
set_option maxRecDepth 100000 in
theorem lp_X4_meanError_11 (cy : Nat → ClassId) (a : Nat → Nat) (th : Int32) (sm : Nat) (ln : Nat) (pt : Nat) (sg : Nat) (fi : Int32) (se : Int32) (n : Nat) (o : Nat → Int32) (h : Nat → Int32) (t : Nat → Int32) (s : Nat → Int32) (g : Nat → Int32) (kn : Nat) (lo : Int32) (lf : Int32) (nm : Nat → Int32) (sv : Nat → Int32) (sl : Nat → Int32) (ik : Nat → Int32) (bf : Nat → Nat) (co : Nat → Int32) (go : Nat → Int32) (fo : Nat → Int32)  (hkn : kn ≤ 8) (X : kX) (hR : xR X = rm_X4_meanError) (C : kC X 5 RX4 cX4_meanError wsX4_meanError cy) (E : kEndF X 5 cX4_meanError (fMean (mEm nm kn) (mEs nm kn)) (wM a cy 0 sm ln pt sg fi se (mSt n o h t s g kn lo lf nm) sv sl ik bf co go fo)) : ∀ (fu : Nat) (k : Nat), kn - k < fu → (k ≤ kn) → kG X 5 0 0 (wM a cy 0 sm ln pt sg fi se (mSt n o h t s g kn lo lf nm) sv sl ik bf co go fo) 11 [(0, .ref (a 0)), (1, .int (mEs nm k)), (2, .int (nI (mEm nm k))), (3, .int (nI k))] [] := by
  intro fu
  induction fu with
  | zero => intro k hfu; exact absurd hfu (Nat.not_lt_zero _)
  | succ fu ih =>
    intro k hfu hk
    have hmk := mEm_le nm k
    refine k_iload_n (q := 12) C 3 dX4_meanError_11 rfl rfl ?_
    refine k_aload_n (q := 13) C 0 dX4_meanError_12 rfl rfl ?_
    refine k_get (q := 16) (ci := 4) (v := .ref (a 1)) C 0 1 in4_X4_meanError rfl (List.mem_of_getElem? (i := 2) rfl) rfl rfl (by decide) rfl dX4_meanError_13 rfl ?_
    refine k_bipush (q := 18) (v := 9) C dX4_meanError_16 (by decide +kernel) rfl ?_
    refine k_iald (q := 19) C 1 rfl (vp_in_nI (n := 9) (by decide) (by decide)) dX4_meanError_18 rfl ?_
    refine k_st (st2 := (.int ((mSt n o h t s g kn lo lf nm) 9) :: _)) (congrArg (fun z => Value.int z :: _) (show (mSt n o h t s g kn lo lf nm) (9 : Int32).toNatClampNeg = (mSt n o h t s g kn lo lf nm) 9 from congrArg (mSt n o h t s g kn lo lf nm) (nI_clamp (n := 9) (by decide)))) ?_
    refine k_st (st2 := (.int (nI kn) :: _)) (congrArg (fun z => Value.int z :: _) (show (mSt n o h t s g kn lo lf nm) 9 = nI kn from rfl)) ?_
    refine k_nicmp_ge (a := k) (b := kn)  (tgt := 92) (q := 22) C dX4_meanError_19 (by decide) rfl (by omega) (by omega) ?_ ?_
    · intro c_19
      have hkk : k = kn := by omega
      subst hkk
      refine k_iload_n (q := 93) C 2 dX4_meanError_92 rfl rfl ?_
      refine k_nif_ne (a := mEm nm k)  (tgt := 100) (q := 96) C dX4_meanError_93 (by decide) rfl (by omega) ?_ ?_
      · intro c_93
        refine k_iload_n (q := 101) C 1 dX4_meanError_100 rfl rfl ?_
        refine k_i2f (q := 102) C dX4_meanError_101 rfl ?_
        refine k_iload_n (q := 103) C 2 dX4_meanError_102 rfl rfl ?_
        refine k_i2f (q := 104) C dX4_meanError_103 rfl ?_
        exact k_fdvR E C dX4_meanError_104 dX4_meanError_105 (fun r h => Or.inr ⟨by omega, h⟩) (rfl)
      · intro c_93
        refine k_fconst0 (q := 97) C dX4_meanError_96 rfl ?_
        refine k_goto (q := 105) C dX4_meanError_97 (by decide) ?_
        exact k_finF E dX4_meanError_105 (Or.inl ⟨by omega, rfl⟩) (rfl)
    · intro c_19
      refine k_aload_n (q := 23) C 0 dX4_meanError_22 rfl rfl ?_
      refine k_get (q := 26) (ci := 4) (v := .ref (a 1)) C 0 1 in4_X4_meanError rfl (List.mem_of_getElem? (i := 2) rfl) rfl rfl (by decide) rfl dX4_meanError_23 rfl ?_
      refine k_bipush (q := 28) (v := 24) C dX4_meanError_26 (by decide +kernel) rfl ?_
      refine k_iconst (q := 29) (v := 4) C dX4_meanError_28 (by decide) rfl ?_
      refine k_iload_n (q := 30) C 3 dX4_meanError_29 rfl rfl ?_
      refine k_imul (q := 31) C dX4_meanError_30 rfl ?_
      refine k_st (st2 := (.int (nI (4 * k)) :: _)) (congrArg (fun z => Value.int z :: _) (show 4 * (nI k) = nI (4 * k) from pk_mul 4 k)) ?_
      refine k_iadd (q := 32) C dX4_meanError_31 rfl ?_
      refine k_st (st2 := (.int (nI (24 + (4 * k))) :: _)) (congrArg (fun z => Value.int z :: _) (show 24 + (nI (4 * k)) = nI (24 + (4 * k)) from nI_add 24 (4 * k))) ?_
      refine k_iald (q := 33) C 1 rfl (vp_in_nI (n := 24 + (4 * k)) (by omega) (by decide)) dX4_meanError_32 rfl ?_
      refine k_st (st2 := (.int ((mSt n o h t s g kn lo lf nm) (24 + (4 * k))) :: _)) (congrArg (fun z => Value.int z :: _) (show (mSt n o h t s g kn lo lf nm) (nI (24 + (4 * k))).toNatClampNeg = (mSt n o h t s g kn lo lf nm) (24 + (4 * k)) from congrArg (mSt n o h t s g kn lo lf nm) (nI_clamp (n := 24 + (4 * k)) (by omega)))) ?_
      refine k_st (st2 := (.int (nm (4 * k)) :: _)) (congrArg (fun z => Value.int z :: _) (show (mSt n o h t s g kn lo lf nm) (24 + (4 * k)) = nm (4 * k) from mSt_m (k := (4 * k)))) ?_
      refine k_ldc (q := 35) (v := -99999) C (List.mem_of_getElem? (i := 3) rfl) dX4_meanError_33 rfl ?_
      refine k_icmp_eq (tgt := 42) (q := 38) C dX4_meanError_35 (by decide) rfl ?_ ?_
      · intro c_35
        have e1 : mEs nm (k + 1) = mEs nm k + 0 := by rw [mEs, if_pos c_35]
        have e2 : mEm nm (k + 1) = mEm nm k + 0 := by rw [mEm, if_pos c_35]
        refine k_iconst (q := 43) (v := 0) C dX4_meanError_42 (by decide) rfl ?_
        refine k_istore (q := 45) (fr2 := [(4, .int 0), (0, .ref (a 0)), (1, .int (mEs nm k)), (2, .int (nI (mEm nm k))), (3, .int (nI k))]) C dX4_meanError_43 (by decide) rfl rfl ?_
        refine k_iload_n (q := 46) C 2 dX4_meanError_45 rfl rfl ?_
        refine k_iload (q := 48) C 0 dX4_meanError_46 rfl rfl ?_
        refine k_if_eq (tgt := 70) (q := 51) C dX4_meanError_48 (by decide) rfl ?_ ?_
        · intro c_48
          refine k_iconst (q := 71) (v := 0) C dX4_meanError_70 (by decide) rfl ?_
          refine k_iadd (q := 72) C dX4_meanError_71 rfl ?_
          refine k_istore_n (q := 73) (fr2 := [(1, .int ((mEs nm k) + 0)), (4, .int 0), (0, .ref (a 0)), (2, .int (nI (mEm nm k))), (3, .int (nI k))]) C dX4_meanError_72 (by decide) rfl rfl ?_
          refine k_iload_n (q := 74) C 3 dX4_meanError_73 rfl rfl ?_
          refine k_iload (q := 76) C 1 dX4_meanError_74 rfl rfl ?_
          refine k_if_eq (tgt := 83) (q := 79) C dX4_meanError_76 (by decide) rfl ?_ ?_
          · intro c_76
            refine k_iconst (q := 84) (v := 0) C dX4_meanError_83 (by decide) rfl ?_
            refine k_iadd (q := 85) C dX4_meanError_84 rfl ?_
            refine k_st (st2 := (.int (nI (mEm nm k + 0)) :: _)) (congrArg (fun z => Value.int z :: _) (show (nI (mEm nm k)) + 0 = nI (mEm nm k + 0) from nI_add (mEm nm k) 0)) ?_
            refine k_istore_n (q := 86) (fr2 := [(2, .int (nI (mEm nm k + 0))), (1, .int ((mEs nm k) + 0)), (4, .int 0), (0, .ref (a 0)), (3, .int (nI k))]) C dX4_meanError_85 (by decide) rfl rfl ?_
            refine k_iinc (q := 89) (v := nI (k + 1)) (fr2 := [(3, .int (nI (k + 1))), (2, .int (nI (mEm nm k + 0))), (1, .int ((mEs nm k) + 0)), (4, .int 0), (0, .ref (a 0))]) C 4 dX4_meanError_86 rfl (nI_add k 1) (by decide) rfl rfl ?_
            refine k_goto (q := 11) C dX4_meanError_89 (by decide) ?_
            refine k_fr (fr2 := [(0, .ref (a 0)), (1, .int ((mEs nm k) + 0)), (2, .int (nI (mEm nm k + 0))), (3, .int (nI (k + 1)))]) ⟨[4, 2, 1, 0], rfl⟩ ?_
            have K := ih (k + 1) (by omega) (by omega)
            rw [e1, e2] at K
            exact K
          · exact fun c_76 => absurd c_76 (by decide)
        · exact fun c_48 => absurd c_48 (by decide)
      · intro c_35
        have e1 : mEs nm (k + 1) = mEs nm k + mAbs (nm (4 * k + 2)) := by rw [mEs, if_neg c_35]
        have e2 : mEm nm (k + 1) = mEm nm k + 1 := by rw [mEm, if_neg c_35]
        refine k_iconst (q := 39) (v := 1) C dX4_meanError_38 (by decide) rfl ?_
        refine k_goto (q := 43) C dX4_meanError_39 (by decide) ?_
        refine k_istore (q := 45) (fr2 := [(4, .int 1), (0, .ref (a 0)), (1, .int (mEs nm k)), (2, .int (nI (mEm nm k))), (3, .int (nI k))]) C dX4_meanError_43 (by decide) rfl rfl ?_
        refine k_iload_n (q := 46) C 2 dX4_meanError_45 rfl rfl ?_
        refine k_iload (q := 48) C 0 dX4_meanError_46 rfl rfl ?_
        refine k_if_eq (tgt := 70) (q := 51) C dX4_meanError_48 (by decide) rfl ?_ ?_
        · exact fun c_48 => absurd c_48 (by decide)
        · intro c_48
          refine k_aload_n (q := 52) C 1 dX4_meanError_51 rfl rfl ?_
          refine k_get (q := 55) (ci := 4) (v := .ref (a 1)) C 0 1 in4_X4_meanError rfl (List.mem_of_getElem? (i := 2) rfl) rfl rfl (by decide) rfl dX4_meanError_52 rfl ?_
          refine k_bipush (q := 57) (v := 24) C dX4_meanError_55 (by decide +kernel) rfl ?_
          refine k_iconst (q := 58) (v := 4) C dX4_meanError_57 (by decide) rfl ?_
          refine k_iload_n (q := 59) C 4 dX4_meanError_58 rfl rfl ?_
          refine k_imul (q := 60) C dX4_meanError_59 rfl ?_
          refine k_st (st2 := (.int (nI (4 * k)) :: _)) (congrArg (fun z => Value.int z :: _) (show 4 * (nI k) = nI (4 * k) from pk_mul 4 k)) ?_
          refine k_iadd (q := 61) C dX4_meanError_60 rfl ?_
          refine k_st (st2 := (.int (nI (24 + (4 * k))) :: _)) (congrArg (fun z => Value.int z :: _) (show 24 + (nI (4 * k)) = nI (24 + (4 * k)) from nI_add 24 (4 * k))) ?_
          refine k_iconst (q := 62) (v := 2) C dX4_meanError_61 (by decide) rfl ?_
          refine k_iadd (q := 63) C dX4_meanError_62 rfl ?_
          refine k_st (st2 := (.int (nI (24 + (4 * k) + 2)) :: _)) (congrArg (fun z => Value.int z :: _) (show (nI (24 + (4 * k))) + 2 = nI (24 + (4 * k) + 2) from nI_add (24 + (4 * k)) 2)) ?_
          refine k_iald (q := 64) C 1 rfl (vp_in_nI (n := 24 + (4 * k) + 2) (by omega) (by decide)) dX4_meanError_63 rfl ?_
          refine k_st (st2 := (.int ((mSt n o h t s g kn lo lf nm) (24 + (4 * k) + 2)) :: _)) (congrArg (fun z => Value.int z :: _) (show (mSt n o h t s g kn lo lf nm) (nI (24 + (4 * k) + 2)).toNatClampNeg = (mSt n o h t s g kn lo lf nm) (24 + (4 * k) + 2) from congrArg (mSt n o h t s g kn lo lf nm) (nI_clamp (n := 24 + (4 * k) + 2) (by omega)))) ?_
          refine k_st (st2 := (.int (nm ((4 * k) + 2)) :: _)) (congrArg (fun z => Value.int z :: _) (show (mSt n o h t s g kn lo lf nm) (24 + (4 * k) + 2) = nm ((4 * k) + 2) from mSt_m (k := (4 * k) + 2))) ?_
          refine k_callSI (n := 1) (q := 67) (pre := ([] : va_W)) (post := (wM a cy 0 sm ln pt sg fi se (mSt n o h t s g kn lo lf nm) sv sl ik bf co go fo)) (w2 := (wM a cy 0 sm ln pt sg fi se (mSt n o h t s g kn lo lf nm) sv sl ik bf co go fo)) (As := [.int (nm ((4 * k) + 2))]) (rest := [.int (mEs nm k)]) C (c_X4_sizeOf (nm ((4 * k) + 2))) gX4_meanError_X4_sizeOf rfl rfl rfl (by decide +kernel) (k_room hR (by decide)) ⟨Nat.zero_le _, Nat.zero_le _⟩  rfl rfl (Nat.le_of_ble_eq_true rfl) (rfl) (rfl) dX4_meanError_64 rfl ?_
          refine k_goto (q := 71) C dX4_meanError_67 (by decide) ?_
          refine k_iadd (q := 72) C dX4_meanError_71 rfl ?_
          refine k_istore_n (q := 73) (fr2 := [(1, .int ((mEs nm k) + (mAbs (nm ((4 * k) + 2))))), (4, .int 1), (0, .ref (a 0)), (2, .int (nI (mEm nm k))), (3, .int (nI k))]) C dX4_meanError_72 (by decide) rfl rfl ?_
          refine k_iload_n (q := 74) C 3 dX4_meanError_73 rfl rfl ?_
          refine k_iload (q := 76) C 1 dX4_meanError_74 rfl rfl ?_
          refine k_if_eq (tgt := 83) (q := 79) C dX4_meanError_76 (by decide) rfl ?_ ?_
          · exact fun c_76 => absurd c_76 (by decide)
          · intro c_76
            refine k_iconst (q := 80) (v := 1) C dX4_meanError_79 (by decide) rfl ?_
            refine k_goto (q := 84) C dX4_meanError_80 (by decide) ?_
            refine k_iadd (q := 85) C dX4_meanError_84 rfl ?_
            refine k_st (st2 := (.int (nI (mEm nm k + 1)) :: _)) (congrArg (fun z => Value.int z :: _) (show (nI (mEm nm k)) + 1 = nI (mEm nm k + 1) from nI_add (mEm nm k) 1)) ?_
            refine k_istore_n (q := 86) (fr2 := [(2, .int (nI (mEm nm k + 1))), (1, .int ((mEs nm k) + (mAbs (nm ((4 * k) + 2))))), (4, .int 1), (0, .ref (a 0)), (3, .int (nI k))]) C dX4_meanError_85 (by decide) rfl rfl ?_
            refine k_iinc (q := 89) (v := nI (k + 1)) (fr2 := [(3, .int (nI (k + 1))), (2, .int (nI (mEm nm k + 1))), (1, .int ((mEs nm k) + (mAbs (nm ((4 * k) + 2))))), (4, .int 1), (0, .ref (a 0))]) C 4 dX4_meanError_86 rfl (nI_add k 1) (by decide) rfl rfl ?_
            refine k_goto (q := 11) C dX4_meanError_89 (by decide) ?_
            refine k_fr (fr2 := [(0, .ref (a 0)), (1, .int ((mEs nm k) + (mAbs (nm ((4 * k) + 2))))), (2, .int (nI (mEm nm k + 1))), (3, .int (nI (k + 1)))]) ⟨[4, 2, 1, 0], rfl⟩ ?_
            have K := ih (k + 1) (by omega) (by omega)
            rw [e1, e2] at K
            exact K
set_option maxHeartbeats 4000000 in
set_option maxRecDepth 100000 in
theorem c_X4_meanError (cy : Nat → ClassId) (a : Nat → Nat) (th : Int32) (sm : Nat) (ln : Nat) (pt : Nat) (sg : Nat) (fi : Int32) (se : Int32) (n : Nat) (o : Nat → Int32) (h : Nat → Int32) (t : Nat → Int32) (s : Nat → Int32) (g : Nat → Int32) (kn : Nat) (lo : Int32) (lf : Int32) (nm : Nat → Int32) (sv : Nat → Int32) (sl : Nat → Int32) (ik : Nat → Int32) (bf : Nat → Nat) (co : Nat → Int32) (go : Nat → Int32) (fo : Nat → Int32)  (hkn : kn ≤ 8) : kF yX4_meanError wsX4_meanError rm_X4_meanError cy [.ref (a 0)] (wM a cy th sm ln pt sg fi se (mSt n o h t s g kn lo lf nm) sv sl ik bf co go fo) (fMean (mEm nm kn) (mEs nm kn)) (wM a cy 0 sm ln pt sg fi se (mSt n o h t s g kn lo lf nm) sv sl ik bf co go fo) := by
  refine kF_of (cc := cX4_meanError) (maxL := 5) (by decide) rfl (Nat.le_of_ble_eq_true rfl) ?_
  intro X hR C E
  have C : kC X 5 RX4 cX4_meanError wsX4_meanError cy := C
  refine k_fr (fr2 := [(0, .ref (a 0))]) ⟨[0], rfl⟩ ?_
  refine k_aload_n (q := 1) C 0 dX4_meanError_0 rfl rfl ?_
  refine k_iconst (q := 2) (v := 0) C dX4_meanError_1 (by decide) rfl ?_
  refine k_put (q := 5) (ci := 4) (v := .int 0) (w2 := (wM a cy 0 sm ln pt sg fi se (mSt n o h t s g kn lo lf nm) sv sl ik bf co go fo)) C 0 0 in4_X4_meanError rfl (List.mem_of_getElem? (i := 1) rfl) rfl tyX4 tyX4_ok nmX4 rfl (rfl) (rfl) rfl (by decide) (Nat.le_of_ble_eq_true rfl) (rfl) dX4_meanError_2 rfl ?_
  refine k_iconst (q := 6) (v := 0) C dX4_meanError_5 (by decide) rfl ?_
  refine k_istore_n (q := 7) (fr2 := [(1, .int 0), (0, .ref (a 0))]) C dX4_meanError_6 (by decide) rfl rfl ?_
  refine k_iconst (q := 8) (v := 0) C dX4_meanError_7 (by decide) rfl ?_
  refine k_istore_n (q := 9) (fr2 := [(2, .int 0), (1, .int 0), (0, .ref (a 0))]) C dX4_meanError_8 (by decide) rfl rfl ?_
  refine k_iconst (q := 10) (v := 0) C dX4_meanError_9 (by decide) rfl ?_
  refine k_istore_n (q := 11) (fr2 := [(3, .int 0), (2, .int 0), (1, .int 0), (0, .ref (a 0))]) C dX4_meanError_10 (by decide) rfl rfl ?_
  refine k_fr (fr2 := [(0, .ref (a 0)), (1, .int 0), (2, .int 0), (3, .int 0)]) ⟨[3, 2, 1, 0], rfl⟩ ?_
  exact lp_X4_meanError_11 cy a th sm ln pt sg fi se n o h t s g kn lo lf nm sv sl ik bf co go fo hkn X hR C E _ 0 (Nat.lt_succ_self _) (by omega)
abbrev rm_X0_meanSizeOfErrors : Room := { frames := 1, cells := 0, slots := 0, locals := 22 }
theorem in0_X0_meanSizeOfErrors : ∀ w ∈ wsX00, w ∈ wsX0_meanSizeOfErrors := fun _ h => (List.mem_cons_of_mem _ (List.mem_append_right _ h))
set_option maxHeartbeats 4000000 in
set_option maxRecDepth 100000 in
theorem lp_X0_meanSizeOfErrors_6 (cy : Nat → ClassId) (a : Nat → Nat) (kn : Nat) (lo : Int32) (lf : Int32) (nm : Nat → Int32)  (hkn : kn ≤ 8) (X : kX) (hR : xR X = rm_X0_meanSizeOfErrors) (C : kC X 5 RX0 cX0_meanSizeOfErrors wsX0_meanSizeOfErrors cy) (E : kEndF X 5 cX0_meanSizeOfErrors (fMean (sEm nm kn) (sEs nm kn)) (wLog a cy kn lo lf nm)) : ∀ (fu : Nat) (k : Nat), kn - k < fu → (k ≤ kn) → kG X 5 0 0 (wLog a cy kn lo lf nm) 6 [(0, .ref (a 5)), (1, .int (sEs nm k)), (2, .int (nI (sEm nm k))), (3, .int (nI k))] [] := by
  intro fu
  induction fu with
  | zero => intro k hfu; exact absurd hfu (Nat.not_lt_zero _)
  | succ fu ih =>
    intro k hfu hk
    have hmk := sEm_le nm k
    refine k_iload_n (q := 7) C 3 dX0_meanSizeOfErrors_6 rfl rfl ?_
    refine k_aload_n (q := 8) C 0 dX0_meanSizeOfErrors_7 rfl rfl ?_
    refine k_get (q := 11) (ci := 0) (v := .int (nI kn)) C 0 1 in0_X0_meanSizeOfErrors rfl (List.mem_of_getElem? (i := 1) rfl) rfl rfl (by decide) rfl dX0_meanSizeOfErrors_8 rfl ?_
    refine k_nicmp_ge (a := k) (b := kn)  (tgt := 46) (q := 14) C dX0_meanSizeOfErrors_11 (by decide) rfl (by omega) (by omega) ?_ ?_
    · intro c_11
      have hkk : k = kn := by omega
      subst hkk
      refine k_iload_n (q := 47) C 2 dX0_meanSizeOfErrors_46 rfl rfl ?_
      refine k_nif_le (a := sEm nm k)  (tgt := 58) (q := 50) C dX0_meanSizeOfErrors_47 (by decide) rfl (by omega) ?_ ?_
      · intro c_47
        refine k_fconst0 (q := 59) C dX0_meanSizeOfErrors_58 rfl ?_
        exact k_finF E dX0_meanSizeOfErrors_59 (Or.inl ⟨by omega, rfl⟩) (rfl)
      · intro c_47
        refine k_iload_n (q := 51) C 1 dX0_meanSizeOfErrors_50 rfl rfl ?_
        refine k_i2f (q := 52) C dX0_meanSizeOfErrors_51 rfl ?_
        refine k_iload_n (q := 53) C 2 dX0_meanSizeOfErrors_52 rfl rfl ?_
        refine k_i2f (q := 54) C dX0_meanSizeOfErrors_53 rfl ?_
        exact k_fdvG (tgt := 59) E C dX0_meanSizeOfErrors_54 dX0_meanSizeOfErrors_55 (by decide) dX0_meanSizeOfErrors_59 (fun r h => Or.inr ⟨by omega, h⟩) (rfl)
    · intro c_11
      refine k_aload_n (q := 15) C 0 dX0_meanSizeOfErrors_14 rfl rfl ?_
      refine k_iload_n (q := 16) C 3 dX0_meanSizeOfErrors_15 rfl rfl ?_
      refine k_iconst (q := 17) (v := 2) C dX0_meanSizeOfErrors_16 (by decide) rfl ?_
      refine k_callVI (n := 2) (q := 20) (pre := ([] : va_W)) (post := ([] : va_W)) (w2 := (wLog a cy kn lo lf nm)) (As := [.int (nI k), .int 2]) (rest := []) C (c_X0_nightNumber cy a kn lo lf nm k 2 hkn (by decide) (by omega)) gX0_meanSizeOfErrors_X0_nightNumber rfl rfl rfl (by decide +kernel) (k_room hR (by decide)) ⟨Nat.zero_le _, Nat.zero_le _⟩ (ci := 0) rfl 0 rfl rfl rfl (Nat.le_of_ble_eq_true rfl) ((List.append_nil _).symm) (List.append_nil _) dX0_meanSizeOfErrors_17 rfl ?_
      refine k_st (st2 := (.int (nm (4 * k + 2)) :: _)) (congrArg (fun z => Value.int z :: _) (show sNight kn nm k 2 = nm (4 * k + 2) from by rw [sNight, if_pos c_11])) ?_
      refine k_istore (q := 22) (fr2 := [(4, .int (nm (4 * k + 2))), (0, .ref (a 5)), (1, .int (sEs nm k)), (2, .int (nI (sEm nm k))), (3, .int (nI k))]) C dX0_meanSizeOfErrors_20 (by decide) rfl rfl ?_
      refine k_iload (q := 24) C 0 dX0_meanSizeOfErrors_22 rfl rfl ?_
      refine k_ldc (q := 26) (v := -99999) C (List.mem_of_getElem? (i := 2) rfl) dX0_meanSizeOfErrors_24 rfl ?_
      refine k_icmp_eq (tgt := 40) (q := 29) C dX0_meanSizeOfErrors_26 (by decide) rfl ?_ ?_
      · intro c_26
        have e1 : sEs nm (k + 1) = sEs nm k := by rw [sEs, if_pos c_26, Int32.add_zero]
        have e2 : sEm nm (k + 1) = sEm nm k := by rw [sEm, if_pos c_26, Nat.add_zero]
        refine k_iinc (q := 43) (v := nI (k + 1)) (fr2 := [(3, .int (nI (k + 1))), (4, .int (nm (4 * k + 2))), (0, .ref (a 5)), (1, .int (sEs nm k)), (2, .int (nI (sEm nm k)))]) C 4 dX0_meanSizeOfErrors_40 rfl (nI_add k 1) (by decide) rfl rfl ?_
        refine k_goto (q := 6) C dX0_meanSizeOfErrors_43 (by decide) ?_
        refine k_fr (fr2 := [(0, .ref (a 5)), (1, .int (sEs nm k)), (2, .int (nI (sEm nm k))), (3, .int (nI (k + 1)))]) ⟨[2, 3, 4, 0], rfl⟩ ?_
        have K := ih (k + 1) (by omega) (by omega)
        rw [e1, e2] at K
        exact K
      · intro c_26
        have e1 : sEs nm (k + 1) = sEs nm k + mAbs (nm (4 * k + 2)) := by rw [sEs, if_neg c_26]
        have e2 : sEm nm (k + 1) = sEm nm k + 1 := by rw [sEm, if_neg c_26]
        refine k_iload_n (q := 30) C 2 dX0_meanSizeOfErrors_29 rfl rfl ?_
        refine k_iload (q := 32) C 0 dX0_meanSizeOfErrors_30 rfl rfl ?_
        refine k_mabs (q := 35) C (List.mem_of_getElem? (i := 3) rfl) (List.mem_of_getElem? (i := 4) rfl) (List.mem_of_getElem? (i := 5) rfl) (List.mem_of_getElem? (i := 6) rfl) (k_roomM hR (by decide)) (Nat.le_of_ble_eq_true rfl) dX0_meanSizeOfErrors_32 rfl ?_
        refine k_iadd (q := 36) C dX0_meanSizeOfErrors_35 rfl ?_
        refine k_istore_n (q := 37) (fr2 := [(1, .int ((sEs nm k) + (mAbs (nm (4 * k + 2))))), (4, .int (nm (4 * k + 2))), (0, .ref (a 5)), (2, .int (nI (sEm nm k))), (3, .int (nI k))]) C dX0_meanSizeOfErrors_36 (by decide) rfl rfl ?_
        refine k_iinc (q := 40) (v := nI (sEm nm k + 1)) (fr2 := [(2, .int (nI (sEm nm k + 1))), (1, .int ((sEs nm k) + (mAbs (nm (4 * k + 2))))), (4, .int (nm (4 * k + 2))), (0, .ref (a 5)), (3, .int (nI k))]) C 3 dX0_meanSizeOfErrors_37 rfl (nI_add (sEm nm k) 1) (by decide) rfl rfl ?_
        refine k_iinc (q := 43) (v := nI (k + 1)) (fr2 := [(3, .int (nI (k + 1))), (2, .int (nI (sEm nm k + 1))), (1, .int ((sEs nm k) + (mAbs (nm (4 * k + 2))))), (4, .int (nm (4 * k + 2))), (0, .ref (a 5))]) C 4 dX0_meanSizeOfErrors_40 rfl (nI_add k 1) (by decide) rfl rfl ?_
        refine k_goto (q := 6) C dX0_meanSizeOfErrors_43 (by decide) ?_
        refine k_fr (fr2 := [(0, .ref (a 5)), (1, .int ((sEs nm k) + (mAbs (nm (4 * k + 2))))), (2, .int (nI (sEm nm k + 1))), (3, .int (nI (k + 1)))]) ⟨[4, 2, 1, 0], rfl⟩ ?_
        have K := ih (k + 1) (by omega) (by omega)
        rw [e1, e2] at K
        exact K
set_option maxHeartbeats 4000000 in
set_option maxRecDepth 100000 in
theorem c_X0_meanSizeOfErrors (cy : Nat → ClassId) (a : Nat → Nat) (kn : Nat) (lo : Int32) (lf : Int32) (nm : Nat → Int32)  (hkn : kn ≤ 8) : kF yX0_meanSizeOfErrors wsX0_meanSizeOfErrors rm_X0_meanSizeOfErrors cy [.ref (a 5)] (wLog a cy kn lo lf nm) (fMean (sEm nm kn) (sEs nm kn)) (wLog a cy kn lo lf nm) := by
  refine kF_of (cc := cX0_meanSizeOfErrors) (maxL := 5) (by decide) rfl (Nat.le_of_ble_eq_true rfl) ?_
  intro X hR C E
  have C : kC X 5 RX0 cX0_meanSizeOfErrors wsX0_meanSizeOfErrors cy := C
  refine k_fr (fr2 := [(0, .ref (a 5))]) ⟨[0], rfl⟩ ?_
  refine k_iconst (q := 1) (v := 0) C dX0_meanSizeOfErrors_0 (by decide) rfl ?_
  refine k_istore_n (q := 2) (fr2 := [(1, .int 0), (0, .ref (a 5))]) C dX0_meanSizeOfErrors_1 (by decide) rfl rfl ?_
  refine k_iconst (q := 3) (v := 0) C dX0_meanSizeOfErrors_2 (by decide) rfl ?_
  refine k_istore_n (q := 4) (fr2 := [(2, .int 0), (1, .int 0), (0, .ref (a 5))]) C dX0_meanSizeOfErrors_3 (by decide) rfl rfl ?_
  refine k_iconst (q := 5) (v := 0) C dX0_meanSizeOfErrors_4 (by decide) rfl ?_
  refine k_istore_n (q := 6) (fr2 := [(3, .int 0), (2, .int 0), (1, .int 0), (0, .ref (a 5))]) C dX0_meanSizeOfErrors_5 (by decide) rfl rfl ?_
  refine k_fr (fr2 := [(0, .ref (a 5)), (1, .int 0), (2, .int 0), (3, .int 0)]) ⟨[3, 2, 1, 0], rfl⟩ ?_
  exact lp_X0_meanSizeOfErrors_6 cy a kn lo lf nm hkn X hR C E _ 0 (Nat.lt_succ_self _) (by omega)
