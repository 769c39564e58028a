abbrev rm_X0_meanSizeOfErrors : Room := { frames := 1, cells := 0, slots := 0, locals := 22 }
theorem in0_X0_meanSizeOfErrors : ∀ w ∈ wsX00, w ∈ wsX0_meanSizeOfErrors := fun _ h => (List.mem_cons_of_mem _ (List.mem_append_right _ h))
set_option maxHeartbeats 4000000 in
set_option maxRecDepth 100000 in
theorem lp_X0_meanSizeOfErrors_6 (cy : Nat → ClassId) (a : Nat → Nat) (kn : Nat) (lo : Int32) (lf : Int32) (nm : Nat → Int32)  (hkn : kn ≤ 8) (X : kX) (hR : xR X = rm_X0_meanSizeOfErrors) (C : kC X 5 RX0 cX0_meanSizeOfErrors wsX0_meanSizeOfErrors cy) (E : kEndF X 5 cX0_meanSizeOfErrors (fMean (sEm nm kn) (sEs nm kn)) (wLog a cy kn lo lf nm)) : ∀ (fu : Nat) (k : Nat), kn - k < fu → (k ≤ kn) → kG X 5 0 0 (wLog a cy kn lo lf nm) 6 [(0, .ref (a 5)), (1, .int (sEs nm k)), (2, .int (nI (sEm nm k))), (3, .int (nI k))] [] := by
  intro fu
  induction fu with
  | zero => intro k hfu; exact absurd hfu (Nat.not_lt_zero _)
  | succ fu ih =>
    intro k hfu hk
    have hmk := sEm_le nm k
    refine k_iload_n (q := 7) C 3 dX0_meanSizeOfErrors_6 rfl rfl ?_
    refine k_aload_n (q := 8) C 0 dX0_meanSizeOfErrors_7 rfl rfl ?_
    refine k_get (q := 11) (ci := 0) (v := .int (nI kn)) C 0 1 in0_X0_meanSizeOfErrors rfl (List.mem_of_getElem? (i := 1) rfl) rfl rfl (by decide) rfl dX0_meanSizeOfErrors_8 rfl ?_
    refine k_nicmp_ge (a := k) (b := kn)  (tgt := 46) (q := 14) C dX0_meanSizeOfErrors_11 (by decide) rfl (by omega) (by omega) ?_ ?_
    · intro c_11
      have hkk : k = kn := by omega
      subst hkk
      refine k_iload_n (q := 47) C 2 dX0_meanSizeOfErrors_46 rfl rfl ?_
      refine k_nif_le (a := sEm nm k)  (tgt := 58) (q := 50) C dX0_meanSizeOfErrors_47 (by decide) rfl (by omega) ?_ ?_
      · intro c_47
        refine k_fconst0 (q := 59) C dX0_meanSizeOfErrors_58 rfl ?_
        exact k_finF E dX0_meanSizeOfErrors_59 (Or.inl ⟨by omega, rfl⟩) (rfl)
      · intro c_47
        refine k_iload_n (q := 51) C 1 dX0_meanSizeOfErrors_50 rfl rfl ?_
        refine k_i2f (q := 52) C dX0_meanSizeOfErrors_51 rfl ?_
        refine k_iload_n (q := 53) C 2 dX0_meanSizeOfErrors_52 rfl rfl ?_
        refine k_i2f (q := 54) C dX0_meanSizeOfErrors_53 rfl ?_
        exact k_fdvG (tgt := 59) E C dX0_meanSizeOfErrors_54 dX0_meanSizeOfErrors_55 (by decide) dX0_meanSizeOfErrors_59 (fun r h => Or.inr ⟨by omega, h⟩) (rfl)
    · intro c_11
      refine k_aload_n (q := 15) C 0 dX0_meanSizeOfErrors_14 rfl rfl ?_
      refine k_iload_n (q := 16) C 3 dX0_meanSizeOfErrors_15 rfl rfl ?_
      refine k_iconst (q := 17) (v := 2) C dX0_meanSizeOfErrors_16 (by decide) rfl ?_
      refine k_callVI (n := 2) (q := 20) (pre := ([] : va_W)) (post := ([] : va_W)) (w2 := (wLog a cy kn lo lf nm)) (As := [.int (nI k), .int 2]) (rest := []) C (c_X0_nightNumber cy a kn lo lf nm k 2 hkn (by decide) (by omega)) gX0_meanSizeOfErrors_X0_nightNumber rfl rfl rfl (by decide +kernel) (k_room hR (by decide)) ⟨Nat.zero_le _, Nat.zero_le _⟩ (ci := 0) rfl 0 rfl rfl rfl (Nat.le_of_ble_eq_true rfl) ((List.append_nil _).symm) (List.append_nil _) dX0_meanSizeOfErrors_17 rfl ?_
      refine k_st (st2 := (.int (nm (4 * k + 2)) :: _)) (congrArg (fun z => Value.int z :: _) (show sNight kn nm k 2 = nm (4 * k + 2) from by rw [sNight, if_pos c_11])) ?_
      refine k_istore (q := 22) (fr2 := [(4, .int (nm (4 * k + 2))), (0, .ref (a 5)), (1, .int (sEs nm k)), (2, .int (nI (sEm nm k))), (3, .int (nI k))]) C dX0_meanSizeOfErrors_20 (by decide) rfl rfl ?_
      refine k_iload (q := 24) C 0 dX0_meanSizeOfErrors_22 rfl rfl ?_
      refine k_ldc (q := 26) (v := -99999) C (List.mem_of_getElem? (i := 2) rfl) dX0_meanSizeOfErrors_24 rfl ?_
      refine k_icmp_eq (tgt := 40) (q := 29) C dX0_meanSizeOfErrors_26 (by decide) rfl ?_ ?_
      · intro c_26
        have e1 : sEs nm (k + 1) = sEs nm k := by rw [sEs, if_pos c_26, Int32.add_zero]
        have e2 : sEm nm (k + 1) = sEm nm k := by rw [sEm, if_pos c_26, Nat.add_zero]
        refine k_iinc (q := 43) (v := nI (k + 1)) (fr2 := [(3, .int (nI (k + 1))), (4, .int (nm (4 * k + 2))), (0, .ref (a 5)), (1, .int (sEs nm k)), (2, .int (nI (sEm nm k)))]) C 4 dX0_meanSizeOfErrors_40 rfl (nI_add k 1) (by decide) rfl rfl ?_
        refine k_goto (q := 6) C dX0_meanSizeOfErrors_43 (by decide) ?_
        refine k_fr (fr2 := [(0, .ref (a 5)), (1, .int (sEs nm k)), (2, .int (nI (sEm nm k))), (3, .int (nI (k + 1)))]) ⟨[2, 3, 4, 0], rfl⟩ ?_
        have K := ih (k + 1) (by omega) (by omega)
        rw [e1, e2] at K
        exact K
      · intro c_26
        have e1 : sEs nm (k + 1) = sEs nm k + mAbs (nm (4 * k + 2)) := by rw [sEs, if_neg c_26]
        have e2 : sEm nm (k + 1) = sEm nm k + 1 := by rw [sEm, if_neg c_26]
        refine k_iload_n (q := 30) C 2 dX0_meanSizeOfErrors_29 rfl rfl ?_
        refine k_iload (q := 32) C 0 dX0_meanSizeOfErrors_30 rfl rfl ?_
        refine k_mabs (q := 35) C (List.mem_of_getElem? (i := 3) rfl) (List.mem_of_getElem? (i := 4) rfl) (List.mem_of_getElem? (i := 5) rfl) (List.mem_of_getElem? (i := 6) rfl) (k_roomM hR (by decide)) (Nat.le_of_ble_eq_true rfl) dX0_meanSizeOfErrors_32 rfl ?_
        refine k_iadd (q := 36) C dX0_meanSizeOfErrors_35 rfl ?_
        refine k_istore_n (q := 37) (fr2 := [(1, .int ((sEs nm k) + (mAbs (nm (4 * k + 2))))), (4, .int (nm (4 * k + 2))), (0, .ref (a 5)), (2, .int (nI (sEm nm k))), (3, .int (nI k))]) C dX0_meanSizeOfErrors_36 (by decide) rfl rfl ?_
        refine k_iinc (q := 40) (v := nI (sEm nm k + 1)) (fr2 := [(2, .int (nI (sEm nm k + 1))), (1, .int ((sEs nm k) + (mAbs (nm (4 * k + 2))))), (4, .int (nm (4 * k + 2))), (0, .ref (a 5)), (3, .int (nI k))]) C 3 dX0_meanSizeOfErrors_37 rfl (nI_add (sEm nm k) 1) (by decide) rfl rfl ?_
        refine k_iinc (q := 43) (v := nI (k + 1)) (fr2 := [(3, .int (nI (k + 1))), (2, .int (nI (sEm nm k + 1))), (1, .int ((sEs nm k) + (mAbs (nm (4 * k + 2))))), (4, .int (nm (4 * k + 2))), (0, .ref (a 5))]) C 4 dX0_meanSizeOfErrors_40 rfl (nI_add k 1) (by decide) rfl rfl ?_
        refine k_goto (q := 6) C dX0_meanSizeOfErrors_43 (by decide) ?_
        refine k_fr (fr2 := [(0, .ref (a 5)), (1, .int ((sEs nm k) + (mAbs (nm (4 * k + 2))))), (2, .int (nI (sEm nm k + 1))), (3, .int (nI (k + 1)))]) ⟨[4, 2, 1, 0], rfl⟩ ?_
        have K := ih (k + 1) (by omega) (by omega)
        rw [e1, e2] at K
        exact K
set_option maxHeartbeats 4000000 in
set_option maxRecDepth 100000 in
theorem c_X0_meanSizeOfErrors (cy : Nat → ClassId) (a : Nat → Nat) (kn : Nat) (lo : Int32) (lf : Int32) (nm : Nat → Int32)  (hkn : kn ≤ 8) : kF yX0_meanSizeOfErrors wsX0_meanSizeOfErrors rm_X0_meanSizeOfErrors cy [.ref (a 5)] (wLog a cy kn lo lf nm) (fMean (sEm nm kn) (sEs nm kn)) (wLog a cy kn lo lf nm) := by
  refine kF_of (cc := cX0_meanSizeOfErrors) (maxL := 5) (by decide) rfl (Nat.le_of_ble_eq_true rfl) ?_
  intro X hR C E
  have C : kC X 5 RX0 cX0_meanSizeOfErrors wsX0_meanSizeOfErrors cy := C
  refine k_fr (fr2 := [(0, .ref (a 5))]) ⟨[0], rfl⟩ ?_
  refine k_iconst (q := 1) (v := 0) C dX0_meanSizeOfErrors_0 (by decide) rfl ?_
  refine k_istore_n (q := 2) (fr2 := [(1, .int 0), (0, .ref (a 5))]) C dX0_meanSizeOfErrors_1 (by decide) rfl rfl ?_
  refine k_iconst (q := 3) (v := 0) C dX0_meanSizeOfErrors_2 (by decide) rfl ?_
  refine k_istore_n (q := 4) (fr2 := [(2, .int 0), (1, .int 0), (0, .ref (a 5))]) C dX0_meanSizeOfErrors_3 (by decide) rfl rfl ?_
  refine k_iconst (q := 5) (v := 0) C dX0_meanSizeOfErrors_4 (by decide) rfl ?_
  refine k_istore_n (q := 6) (fr2 := [(3, .int 0), (2, .int 0), (1, .int 0), (0, .ref (a 5))]) C dX0_meanSizeOfErrors_5 (by decide) rfl rfl ?_
  refine k_fr (fr2 := [(0, .ref (a 5)), (1, .int 0), (2, .int 0), (3, .int 0)]) ⟨[3, 2, 1, 0], rfl⟩ ?_
  exact lp_X0_meanSizeOfErrors_6 cy a kn lo lf nm hkn X hR C E _ 0 (Nat.lt_succ_self _) (by omega)
