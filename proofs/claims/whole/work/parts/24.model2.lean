abbrev rm_X4_closest : Room := { frames := 4, cells := 0, slots := 0, locals := 86 }
theorem in4_X4_closest : ∀ w ∈ wsX40, w ∈ wsX4_closest := fun _ h => (List.mem_cons_of_mem _ (List.mem_append_right _ h))
set_option maxHeartbeats 4000000 in
set_option maxRecDepth 100000 in
theorem lp_X4_closest_5 (cy : Nat → ClassId) (a : Nat → Nat) (th : Int32) (sm : Nat) (ln : Nat) (pt : Nat) (sg : Nat) (fi : Int32) (se : Int32) (n : Nat) (o : Nat → Int32) (h : Nat → Int32) (t : Nat → Int32) (s : Nat → Int32) (g : Nat → Int32) (kn : Nat) (lo : Int32) (lf : Int32) (nm : Nat → Int32) (sv : Nat → Int32) (sl : Nat → Int32) (ik : Nat → Int32) (bf : Nat → Nat) (co : Nat → Int32) (go : Nat → Int32) (fo : Nat → Int32)  (hn : n ≤ 6) (ho : mBin o) (hla : mLaid n h t (g 1) co go) (X : kX) (hR : xR X = rm_X4_closest) (C : kC X 4 RX4 cX4_closest wsX4_closest cy) (E : kEnd X 4 cX4_closest (mC (sClose (mLit o) h t s g) (mD h s g) n) (wM a cy th sm ln pt sg fi se (mSt n o h t s g kn lo lf nm) sv sl ik bf co go fo)) : ∀ (fu : Nat) (k : Nat), n - k < fu → (k ≤ n) → kG X 4 0 0 (wM a cy th sm ln pt sg fi se (mSt n o h t s g kn lo lf nm) sv sl ik bf co go fo) 5 [(0, .ref (a 0)), (1, .int (mC (sClose (mLit o) h t s g) (mD h s g) k)), (2, .int (nI k))] [] := by
  intro fu
  induction fu with
  | zero => intro k hfu; exact absurd hfu (Nat.not_lt_zero _)
  | succ fu ih =>
    intro k hfu hk
    refine k_iload_n (q := 6) C 2 dX4_closest_5 rfl rfl ?_
    refine k_aload_n (q := 7) C 0 dX4_closest_6 rfl rfl ?_
    refine k_get (q := 10) (ci := 4) (v := .ref (a 1)) C 0 1 in4_X4_closest rfl (List.mem_of_getElem? (i := 2) rfl) rfl rfl (by decide) rfl dX4_closest_7 rfl ?_
    refine k_bipush (q := 12) (v := 8) C dX4_closest_10 (by decide +kernel) rfl ?_
    refine k_iald (q := 13) C 1 rfl (vp_in_nI (n := 8) (by decide) (by decide)) dX4_closest_12 rfl ?_
    refine k_st (st2 := (.int ((mSt n o h t s g kn lo lf nm) 8) :: _)) (congrArg (fun z => Value.int z :: _) (show (mSt n o h t s g kn lo lf nm) (8 : Int32).toNatClampNeg = (mSt n o h t s g kn lo lf nm) 8 from congrArg (mSt n o h t s g kn lo lf nm) (nI_clamp (n := 8) (by decide)))) ?_
    refine k_st (st2 := (.int (nI n) :: _)) (congrArg (fun z => Value.int z :: _) (show (mSt n o h t s g kn lo lf nm) 8 = nI n from rfl)) ?_
    refine k_nicmp_ge (a := k) (b := n)  (tgt := 71) (q := 16) C dX4_closest_13 (by decide) rfl (by omega) (by omega) ?_ ?_
    · intro c_13
      obtain rfl : n = k := by omega
      refine k_iload_n (q := 72) C 1 dX4_closest_71 rfl rfl ?_
      exact k_fin E dX4_closest_72 (rfl) (rfl)
    · intro c_13
      refine k_aload_n (q := 17) C 0 dX4_closest_16 rfl rfl ?_
      refine k_iload_n (q := 18) C 2 dX4_closest_17 rfl rfl ?_
      refine k_callVI (n := 1) (q := 21) (pre := ([] : va_W)) (post := ([] : va_W)) (w2 := (wM a cy th sm ln pt sg fi se (mSt n o h t s g kn lo lf nm) sv sl ik bf co go fo)) (As := [.int (nI k)]) (rest := []) C (c_X4_isClose cy a th sm ln pt sg fi se n o h t s g kn lo lf nm sv sl ik bf co go fo k c_13 hn ho hla) gX4_closest_X4_isClose rfl rfl rfl (by decide +kernel) (k_room hR (by decide)) ⟨Nat.zero_le _, Nat.zero_le _⟩ (ci := 4) rfl 0 rfl rfl rfl (Nat.le_of_ble_eq_true rfl) ((List.append_nil _).symm) (List.append_nil _) dX4_closest_18 rfl ?_
      refine k_ifB_eq (tgt := 53) (q := 24) C dX4_closest_21 (by decide) rfl ?_ ?_
      · intro c_21
        refine k_iconst (q := 54) (v := 0) C dX4_closest_53 (by decide) rfl ?_
        refine k_istore_n (q := 55) (fr2 := [(3, .int 0), (0, .ref (a 0)), (1, .int (mC (sClose (mLit o) h t s g) (mD h s g) k)), (2, .int (nI k))]) C dX4_closest_54 (by decide) rfl rfl ?_
        refine k_iload_n (q := 56) C 0 dX4_closest_55 rfl rfl ?_
        refine k_if_eq (tgt := 63) (q := 59) C dX4_closest_56 (by decide) rfl ?_ ?_
        · intro c_56
          refine k_iload_n (q := 64) C 2 dX4_closest_63 rfl rfl ?_
          refine k_istore_n (q := 65) (fr2 := [(1, .int (mC (sClose (mLit o) h t s g) (mD h s g) k)), (3, .int 0), (0, .ref (a 0)), (2, .int (nI k))]) C dX4_closest_64 (by decide) rfl rfl ?_
          refine k_iinc (q := 68) (v := nI (k + 1)) (fr2 := [(2, .int (nI (k + 1))), (1, .int (mC (sClose (mLit o) h t s g) (mD h s g) k)), (3, .int 0), (0, .ref (a 0))]) C 3 dX4_closest_65 rfl (nI_add k 1) (by decide) rfl rfl ?_
          refine k_goto (q := 5) C dX4_closest_68 (by decide) ?_
          refine k_fr (fr2 := [(0, .ref (a 0)), (1, .int (mC (sClose (mLit o) h t s g) (mD h s g) k)), (2, .int (nI (k + 1)))]) ⟨[3, 1, 0], rfl⟩ ?_
          have K := ih (k + 1) (by omega) (by omega)
          first | rw [mC_n1 c_21] at K | rw [mC_y1 c_21 c_27] at K | rw [mC_n2 ep (by omega) c_46, ep] at K | rw [mC_y2 c_21 ep (by omega) (Int32.not_le.mp c_46)] at K
          exact K
        · exact fun c_56 => absurd c_56 (by decide)
      · intro c_21
        refine k_iload_n (q := 25) C 1 dX4_closest_24 rfl rfl ?_
        refine k_ldc (q := 27) (v := -99999) C (List.mem_of_getElem? (i := 1) rfl) dX4_closest_25 rfl ?_
        refine k_icmp_eq (tgt := 49) (q := 30) C dX4_closest_27 (by decide) rfl ?_ ?_
        · intro c_27
          refine k_iconst (q := 50) (v := 1) C dX4_closest_49 (by decide) rfl ?_
          refine k_goto (q := 54) C dX4_closest_50 (by decide) ?_
          refine k_istore_n (q := 55) (fr2 := [(3, .int 1), (0, .ref (a 0)), (1, .int (mC (sClose (mLit o) h t s g) (mD h s g) k)), (2, .int (nI k))]) C dX4_closest_54 (by decide) rfl rfl ?_
          refine k_iload_n (q := 56) C 0 dX4_closest_55 rfl rfl ?_
          refine k_if_eq (tgt := 63) (q := 59) C dX4_closest_56 (by decide) rfl ?_ ?_
          · exact fun c_56 => absurd c_56 (by decide)
          · intro c_56
            refine k_iload_n (q := 60) C 3 dX4_closest_59 rfl rfl ?_
            refine k_goto (q := 64) C dX4_closest_60 (by decide) ?_
            refine k_istore_n (q := 65) (fr2 := [(1, .int (nI k)), (3, .int 1), (0, .ref (a 0)), (2, .int (nI k))]) C dX4_closest_64 (by decide) rfl rfl ?_
            refine k_iinc (q := 68) (v := nI (k + 1)) (fr2 := [(2, .int (nI (k + 1))), (1, .int (nI k)), (3, .int 1), (0, .ref (a 0))]) C 3 dX4_closest_65 rfl (nI_add k 1) (by decide) rfl rfl ?_
            refine k_goto (q := 5) C dX4_closest_68 (by decide) ?_
            refine k_fr (fr2 := [(0, .ref (a 0)), (1, .int (nI k)), (2, .int (nI (k + 1)))]) ⟨[3, 1, 0], rfl⟩ ?_
            have K := ih (k + 1) (by omega) (by omega)
            first | rw [mC_n1 c_21] at K | rw [mC_y1 c_21 c_27] at K | rw [mC_n2 ep (by omega) c_46, ep] at K | rw [mC_y2 c_21 ep (by omega) (Int32.not_le.mp c_46)] at K
            exact K
        · intro c_27
          obtain ⟨p, hp, ep⟩ := (mC_ex _ _ _).resolve_left c_27
          have e_30_1 : mC (sClose (mLit o) h t s g) (mD h s g) k = nI p := ep
          rw [e_30_1]
          refine k_aload_n (q := 31) C 0 dX4_closest_30 rfl rfl ?_
          refine k_iload_n (q := 32) C 2 dX4_closest_31 rfl rfl ?_
          refine k_callVI (n := 1) (q := 35) (pre := ([] : va_W)) (post := ([] : va_W)) (w2 := (wM a cy th sm ln pt sg fi se (mSt n o h t s g kn lo lf nm) sv sl ik bf co go fo)) (As := [.int (nI k)]) (rest := []) C (c_X4_distance cy a th sm ln pt sg fi se n o h t s g kn lo lf nm sv sl ik bf co go fo k (by omega)) gX4_closest_X4_distance rfl rfl rfl (by decide +kernel) (k_room hR (by decide)) ⟨Nat.zero_le _, Nat.zero_le _⟩ (ci := 4) rfl 0 rfl rfl rfl (Nat.le_of_ble_eq_true rfl) ((List.append_nil _).symm) (List.append_nil _) dX4_closest_32 rfl ?_
          refine k_callSI (n := 1) (q := 38) (pre := ([] : va_W)) (post := (wM a cy th sm ln pt sg fi se (mSt n o h t s g kn lo lf nm) sv sl ik bf co go fo)) (w2 := (wM a cy th sm ln pt sg fi se (mSt n o h t s g kn lo lf nm) sv sl ik bf co go fo)) (As := [.int (sDist h g k (s 0) (s 1))]) (rest := []) C (c_X4_sizeOf (sDist h g k (s 0) (s 1))) gX4_closest_X4_sizeOf rfl rfl rfl (by decide +kernel) (k_room hR (by decide)) ⟨Nat.zero_le _, Nat.zero_le _⟩  rfl rfl (Nat.le_of_ble_eq_true rfl) (rfl) (rfl) dX4_closest_35 rfl ?_
          refine k_aload_n (q := 39) C 0 dX4_closest_38 rfl rfl ?_
          refine k_iload_n (q := 40) C 1 dX4_closest_39 rfl rfl ?_
          refine k_callVI (n := 1) (q := 43) (pre := ([] : va_W)) (post := ([] : va_W)) (w2 := (wM a cy th sm ln pt sg fi se (mSt n o h t s g kn lo lf nm) sv sl ik bf co go fo)) (As := [.int (nI p)]) (rest := [.int (mAbs (sDist h g k (s 0) (s 1)))]) C (c_X4_distance cy a th sm ln pt sg fi se n o h t s g kn lo lf nm sv sl ik bf co go fo p (by omega)) gX4_closest_X4_distance rfl rfl rfl (by decide +kernel) (k_room hR (by decide)) ⟨Nat.zero_le _, Nat.zero_le _⟩ (ci := 4) rfl 0 rfl rfl rfl (Nat.le_of_ble_eq_true rfl) ((List.append_nil _).symm) (List.append_nil _) dX4_closest_40 rfl ?_
          refine k_callSI (n := 1) (q := 46) (pre := ([] : va_W)) (post := (wM a cy th sm ln pt sg fi se (mSt n o h t s g kn lo lf nm) sv sl ik bf co go fo)) (w2 := (wM a cy th sm ln pt sg fi se (mSt n o h t s g kn lo lf nm) sv sl ik bf co go fo)) (As := [.int (sDist h g p (s 0) (s 1))]) (rest := [.int (mAbs (sDist h g k (s 0) (s 1)))]) C (c_X4_sizeOf (sDist h g p (s 0) (s 1))) gX4_closest_X4_sizeOf rfl rfl rfl (by decide +kernel) (k_room hR (by decide)) ⟨Nat.zero_le _, Nat.zero_le _⟩  rfl rfl (Nat.le_of_ble_eq_true rfl) (rfl) (rfl) dX4_closest_43 rfl ?_
          refine k_icmp_ge (tgt := 53) (q := 49) C dX4_closest_46 (by decide) rfl ?_ ?_
          · intro c_46
            refine k_iconst (q := 54) (v := 0) C dX4_closest_53 (by decide) rfl ?_
            refine k_istore_n (q := 55) (fr2 := [(3, .int 0), (0, .ref (a 0)), (1, .int (nI p)), (2, .int (nI k))]) C dX4_closest_54 (by decide) rfl rfl ?_
            refine k_iload_n (q := 56) C 0 dX4_closest_55 rfl rfl ?_
            refine k_if_eq (tgt := 63) (q := 59) C dX4_closest_56 (by decide) rfl ?_ ?_
            · intro c_56
              refine k_iload_n (q := 64) C 2 dX4_closest_63 rfl rfl ?_
              refine k_istore_n (q := 65) (fr2 := [(1, .int (nI p)), (3, .int 0), (0, .ref (a 0)), (2, .int (nI k))]) C dX4_closest_64 (by decide) rfl rfl ?_
              refine k_iinc (q := 68) (v := nI (k + 1)) (fr2 := [(2, .int (nI (k + 1))), (1, .int (nI p)), (3, .int 0), (0, .ref (a 0))]) C 3 dX4_closest_65 rfl (nI_add k 1) (by decide) rfl rfl ?_
              refine k_goto (q := 5) C dX4_closest_68 (by decide) ?_
              refine k_fr (fr2 := [(0, .ref (a 0)), (1, .int (nI p)), (2, .int (nI (k + 1)))]) ⟨[3, 1, 0], rfl⟩ ?_
              have K := ih (k + 1) (by omega) (by omega)
              first | rw [mC_n1 c_21] at K | rw [mC_y1 c_21 c_27] at K | rw [mC_n2 ep (by omega) c_46, ep] at K | rw [mC_y2 c_21 ep (by omega) (Int32.not_le.mp c_46)] at K
              exact K
            · exact fun c_56 => absurd c_56 (by decide)
          · intro c_46
            refine k_iconst (q := 50) (v := 1) C dX4_closest_49 (by decide) rfl ?_
            refine k_goto (q := 54) C dX4_closest_50 (by decide) ?_
            refine k_istore_n (q := 55) (fr2 := [(3, .int 1), (0, .ref (a 0)), (1, .int (nI p)), (2, .int (nI k))]) C dX4_closest_54 (by decide) rfl rfl ?_
            refine k_iload_n (q := 56) C 0 dX4_closest_55 rfl rfl ?_
            refine k_if_eq (tgt := 63) (q := 59) C dX4_closest_56 (by decide) rfl ?_ ?_
            · exact fun c_56 => absurd c_56 (by decide)
            · intro c_56
              refine k_iload_n (q := 60) C 3 dX4_closest_59 rfl rfl ?_
              refine k_goto (q := 64) C dX4_closest_60 (by decide) ?_
              refine k_istore_n (q := 65) (fr2 := [(1, .int (nI k)), (3, .int 1), (0, .ref (a 0)), (2, .int (nI k))]) C dX4_closest_64 (by decide) rfl rfl ?_
              refine k_iinc (q := 68) (v := nI (k + 1)) (fr2 := [(2, .int (nI (k + 1))), (1, .int (nI k)), (3, .int 1), (0, .ref (a 0))]) C 3 dX4_closest_65 rfl (nI_add k 1) (by decide) rfl rfl ?_
              refine k_goto (q := 5) C dX4_closest_68 (by decide) ?_
              refine k_fr (fr2 := [(0, .ref (a 0)), (1, .int (nI k)), (2, .int (nI (k + 1)))]) ⟨[3, 1, 0], rfl⟩ ?_
              have K := ih (k + 1) (by omega) (by omega)
              first | rw [mC_n1 c_21] at K | rw [mC_y1 c_21 c_27] at K | rw [mC_n2 ep (by omega) c_46, ep] at K | rw [mC_y2 c_21 ep (by omega) (Int32.not_le.mp c_46)] at K
              exact K
set_option maxHeartbeats 4000000 in
set_option maxRecDepth 100000 in
theorem c_X4_closest (cy : Nat → ClassId) (a : Nat → Nat) (th : Int32) (sm : Nat) (ln : Nat) (pt : Nat) (sg : Nat) (fi : Int32) (se : Int32) (n : Nat) (o : Nat → Int32) (h : Nat → Int32) (t : Nat → Int32) (s : Nat → Int32) (g : Nat → Int32) (kn : Nat) (lo : Int32) (lf : Int32) (nm : Nat → Int32) (sv : Nat → Int32) (sl : Nat → Int32) (ik : Nat → Int32) (bf : Nat → Nat) (co : Nat → Int32) (go : Nat → Int32) (fo : Nat → Int32)  (hn : n ≤ 6) (ho : mBin o) (hla : mLaid n h t (g 1) co go) : kI yX4_closest wsX4_closest rm_X4_closest cy [.ref (a 0)] (wM a cy th sm ln pt sg fi se (mSt n o h t s g kn lo lf nm) sv sl ik bf co go fo) (mC (sClose (mLit o) h t s g) (mD h s g) n) (wM a cy th sm ln pt sg fi se (mSt n o h t s g kn lo lf nm) sv sl ik bf co go fo) := by
  refine kI_of (cc := cX4_closest) (maxL := 4) (rt := .int) (by decide) rfl (rfl) (Nat.le_of_ble_eq_true rfl) ?_
  intro X hR C E
  have C : kC X 4 RX4 cX4_closest wsX4_closest cy := C
  refine k_fr (fr2 := [(0, .ref (a 0))]) ⟨[0], rfl⟩ ?_
  refine k_ldc (q := 2) (v := -99999) C (List.mem_of_getElem? (i := 1) rfl) dX4_closest_0 rfl ?_
  refine k_istore_n (q := 3) (fr2 := [(1, .int (-99999)), (0, .ref (a 0))]) C dX4_closest_2 (by decide) rfl rfl ?_
  refine k_iconst (q := 4) (v := 0) C dX4_closest_3 (by decide) rfl ?_
  refine k_istore_n (q := 5) (fr2 := [(2, .int 0), (1, .int (-99999)), (0, .ref (a 0))]) C dX4_closest_4 (by decide) rfl rfl ?_
  refine k_fr (fr2 := [(0, .ref (a 0)), (1, .int (-99999)), (2, .int 0)]) ⟨[2, 1, 0], rfl⟩ ?_
  exact lp_X4_closest_5 cy a th sm ln pt sg fi se n o h t s g kn lo lf nm sv sl ik bf co go fo hn ho hla X hR C E _ 0 (Nat.lt_succ_self _) (by omega)
abbrev rm_X4_isNearerElsewhere : Room := { frames := 1, cells := 0, slots := 0, locals := 20 }
theorem in4_X4_isNearerElsewhere : ∀ w ∈ wsX40, w ∈ wsX4_isNearerElsewhere := fun _ h => (List.mem_cons_of_mem _ (List.mem_append_right _ h))
set_option maxHeartbeats 4000000 in
set_option maxRecDepth 100000 in
theorem lp_X4_isNearerElsewhere_5 (cy : Nat → ClassId) (a : Nat → Nat) (th : Int32) (sm : Nat) (ln : Nat) (pt : Nat) (sg : Nat) (fi : Int32) (se : Int32) (n : Nat) (o : Nat → Int32) (h : Nat → Int32) (t : Nat → Int32) (s : Nat → Int32) (g : Nat → Int32) (kn : Nat) (lo : Int32) (lf : Int32) (nm : Nat → Int32) (sv : Nat → Int32) (sl : Nat → Int32) (ik : Nat → Int32) (bf : Nat → Nat) (co : Nat → Int32) (go : Nat → Int32) (fo : Nat → Int32) (x : Int32) (p : Nat)  (hn : n ≤ 6) (hp : p < n) (X : kX) (hR : xR X = rm_X4_isNearerElsewhere) (C : kC X 5 RX4 cX4_isNearerElsewhere wsX4_isNearerElsewhere cy) (E : kEnd X 5 cX4_isNearerElsewhere (bI (sAnyL (mNear h x p) n = true)) (wM a cy th sm ln pt sg fi se (mSt n o h t s g kn lo lf nm) sv sl ik bf co go fo)) : ∀ (fu : Nat) (k : Nat), n - k < fu → (k ≤ n) → kG X 5 0 0 (wM a cy th sm ln pt sg fi se (mSt n o h t s g kn lo lf nm) sv sl ik bf co go fo) 5 [(0, .ref (a 0)), (1, .int x), (2, .int (nI p)), (3, .int (bI (sAnyL (mNear h x p) k = true))), (4, .int (nI k))] [] := by
  intro fu
  induction fu with
  | zero => intro k hfu; exact absurd hfu (Nat.not_lt_zero _)
  | succ fu ih =>
    intro k hfu hk
    refine k_iload (q := 7) C 4 dX4_isNearerElsewhere_5 rfl rfl ?_
    refine k_aload_n (q := 8) C 0 dX4_isNearerElsewhere_7 rfl rfl ?_
    refine k_get (q := 11) (ci := 4) (v := .ref (a 1)) C 0 1 in4_X4_isNearerElsewhere rfl (List.mem_of_getElem? (i := 1) rfl) rfl rfl (by decide) rfl dX4_isNearerElsewhere_8 rfl ?_
    refine k_bipush (q := 13) (v := 8) C dX4_isNearerElsewhere_11 (by decide +kernel) rfl ?_
    refine k_iald (q := 14) C 1 rfl (vp_in_nI (n := 8) (by decide) (by decide)) dX4_isNearerElsewhere_13 rfl ?_
    refine k_st (st2 := (.int ((mSt n o h t s g kn lo lf nm) 8) :: _)) (congrArg (fun z => Value.int z :: _) (show (mSt n o h t s g kn lo lf nm) (8 : Int32).toNatClampNeg = (mSt n o h t s g kn lo lf nm) 8 from congrArg (mSt n o h t s g kn lo lf nm) (nI_clamp (n := 8) (by decide)))) ?_
    refine k_st (st2 := (.int (nI n) :: _)) (congrArg (fun z => Value.int z :: _) (show (mSt n o h t s g kn lo lf nm) 8 = nI n from rfl)) ?_
    refine k_nicmp_ge (a := k) (b := n)  (tgt := 65) (q := 17) C dX4_isNearerElsewhere_14 (by decide) rfl (by omega) (by omega) ?_ ?_
    · intro c_14
      obtain rfl : n = k := by omega
      refine k_iload_n (q := 66) C 3 dX4_isNearerElsewhere_65 rfl rfl ?_
      exact k_fin E dX4_isNearerElsewhere_66 (rfl) (rfl)
    · intro c_14
      refine k_iload_n (q := 18) C 3 dX4_isNearerElsewhere_17 rfl rfl ?_
      refine k_ifB_ne (tgt := 53) (q := 21) C dX4_isNearerElsewhere_18 (by decide) rfl ?_ ?_
      · intro c_18
        refine k_iconst (q := 54) (v := 1) C dX4_isNearerElsewhere_53 (by decide) rfl ?_
        refine k_goto (q := 58) C dX4_isNearerElsewhere_54 (by decide) ?_
        refine k_istore_n (q := 59) (fr2 := [(3, .int 1), (0, .ref (a 0)), (1, .int x), (2, .int (nI p)), (4, .int (nI k))]) C dX4_isNearerElsewhere_58 (by decide) rfl rfl ?_
        refine k_iinc (q := 62) (v := nI (k + 1)) (fr2 := [(4, .int (nI (k + 1))), (3, .int 1), (0, .ref (a 0)), (1, .int x), (2, .int (nI p))]) C 4 dX4_isNearerElsewhere_59 rfl (nI_add k 1) (by decide) rfl rfl ?_
        refine k_goto (q := 5) C dX4_isNearerElsewhere_62 (by decide) ?_
        refine k_fr (fr2 := [(0, .ref (a 0)), (1, .int x), (2, .int (nI p)), (3, .int 1), (4, .int (nI (k + 1)))]) ⟨[2, 3, 4, 1, 0], rfl⟩ ?_
        have K := ih (k + 1) (by omega) (by omega)
        first | rw [← bI_t (b := sAnyL (mNear h x p) (k + 1) = true) (sAnyL_t c_18)] at K | rw [← bI_f (b := sAnyL (mNear h x p) (k + 1) = true) (fun q => by rw [sAnyL_s (by simpa using c_18) (fun z => not_lt_of_le32 c_50 (of_decide_eq_true z))] at q; cases q)] at K | rw [← bI_t (b := sAnyL (mNear h x p) (k + 1) = true) (sAnyL_y (decide_eq_true (Int32.not_le.mp c_50)))] at K
        exact K
      · intro c_18
        refine k_aload_n (q := 22) C 0 dX4_isNearerElsewhere_21 rfl rfl ?_
        refine k_get (q := 25) (ci := 4) (v := .ref (a 1)) C 0 1 in4_X4_isNearerElsewhere rfl (List.mem_of_getElem? (i := 1) rfl) rfl rfl (by decide) rfl dX4_isNearerElsewhere_22 rfl ?_
        refine k_bipush (q := 27) (v := 12) C dX4_isNearerElsewhere_25 (by decide +kernel) rfl ?_
        refine k_iload (q := 29) C 4 dX4_isNearerElsewhere_27 rfl rfl ?_
        refine k_iadd (q := 30) C dX4_isNearerElsewhere_29 rfl ?_
        refine k_st (st2 := (.int (nI (12 + k)) :: _)) (congrArg (fun z => Value.int z :: _) (show 12 + (nI k) = nI (12 + k) from nI_add 12 k)) ?_
        refine k_iald (q := 31) C 1 rfl (vp_in_nI (n := 12 + k) (by omega) (by decide)) dX4_isNearerElsewhere_30 rfl ?_
        refine k_st (st2 := (.int ((mSt n o h t s g kn lo lf nm) (12 + k)) :: _)) (congrArg (fun z => Value.int z :: _) (show (mSt n o h t s g kn lo lf nm) (nI (12 + k)).toNatClampNeg = (mSt n o h t s g kn lo lf nm) (12 + k) from congrArg (mSt n o h t s g kn lo lf nm) (nI_clamp (n := 12 + k) (by omega)))) ?_
        refine k_st (st2 := (.int (h k) :: _)) (congrArg (fun z => Value.int z :: _) (show (mSt n o h t s g kn lo lf nm) (12 + k) = h k from mSt_h (k := k) (by omega))) ?_
        refine k_iload_n (q := 32) C 1 dX4_isNearerElsewhere_31 rfl rfl ?_
        refine k_isub (q := 33) C dX4_isNearerElsewhere_32 rfl ?_
        refine k_callSI (n := 1) (q := 36) (pre := ([] : va_W)) (post := (wM a cy th sm ln pt sg fi se (mSt n o h t s g kn lo lf nm) sv sl ik bf co go fo)) (w2 := (wM a cy th sm ln pt sg fi se (mSt n o h t s g kn lo lf nm) sv sl ik bf co go fo)) (As := [.int ((h k) - x)]) (rest := []) C (c_X4_sizeOf ((h k) - x)) gX4_isNearerElsewhere_X4_sizeOf rfl rfl rfl (by decide +kernel) (k_room hR (by decide)) ⟨Nat.zero_le _, Nat.zero_le _⟩  rfl rfl (Nat.le_of_ble_eq_true rfl) (rfl) (rfl) dX4_isNearerElsewhere_33 rfl ?_
        refine k_aload_n (q := 37) C 0 dX4_isNearerElsewhere_36 rfl rfl ?_
        refine k_get (q := 40) (ci := 4) (v := .ref (a 1)) C 0 1 in4_X4_isNearerElsewhere rfl (List.mem_of_getElem? (i := 1) rfl) rfl rfl (by decide) rfl dX4_isNearerElsewhere_37 rfl ?_
        refine k_bipush (q := 42) (v := 12) C dX4_isNearerElsewhere_40 (by decide +kernel) rfl ?_
        refine k_iload_n (q := 43) C 2 dX4_isNearerElsewhere_42 rfl rfl ?_
        refine k_iadd (q := 44) C dX4_isNearerElsewhere_43 rfl ?_
        refine k_st (st2 := (.int (nI (12 + p)) :: _)) (congrArg (fun z => Value.int z :: _) (show 12 + (nI p) = nI (12 + p) from nI_add 12 p)) ?_
        refine k_iald (q := 45) C 1 rfl (vp_in_nI (n := 12 + p) (by omega) (by decide)) dX4_isNearerElsewhere_44 rfl ?_
        refine k_st (st2 := (.int ((mSt n o h t s g kn lo lf nm) (12 + p)) :: _)) (congrArg (fun z => Value.int z :: _) (show (mSt n o h t s g kn lo lf nm) (nI (12 + p)).toNatClampNeg = (mSt n o h t s g kn lo lf nm) (12 + p) from congrArg (mSt n o h t s g kn lo lf nm) (nI_clamp (n := 12 + p) (by omega)))) ?_
        refine k_st (st2 := (.int (h p) :: _)) (congrArg (fun z => Value.int z :: _) (show (mSt n o h t s g kn lo lf nm) (12 + p) = h p from mSt_h (k := p) (by omega))) ?_
        refine k_iload_n (q := 46) C 1 dX4_isNearerElsewhere_45 rfl rfl ?_
        refine k_isub (q := 47) C dX4_isNearerElsewhere_46 rfl ?_
        refine k_callSI (n := 1) (q := 50) (pre := ([] : va_W)) (post := (wM a cy th sm ln pt sg fi se (mSt n o h t s g kn lo lf nm) sv sl ik bf co go fo)) (w2 := (wM a cy th sm ln pt sg fi se (mSt n o h t s g kn lo lf nm) sv sl ik bf co go fo)) (As := [.int ((h p) - x)]) (rest := [.int (mAbs ((h k) - x))]) C (c_X4_sizeOf ((h p) - x)) gX4_isNearerElsewhere_X4_sizeOf rfl rfl rfl (by decide +kernel) (k_room hR (by decide)) ⟨Nat.zero_le _, Nat.zero_le _⟩  rfl rfl (Nat.le_of_ble_eq_true rfl) (rfl) (rfl) dX4_isNearerElsewhere_47 rfl ?_
        refine k_icmp_ge (tgt := 57) (q := 53) C dX4_isNearerElsewhere_50 (by decide) rfl ?_ ?_
        · intro c_50
          refine k_iconst (q := 58) (v := 0) C dX4_isNearerElsewhere_57 (by decide) rfl ?_
          refine k_istore_n (q := 59) (fr2 := [(3, .int 0), (0, .ref (a 0)), (1, .int x), (2, .int (nI p)), (4, .int (nI k))]) C dX4_isNearerElsewhere_58 (by decide) rfl rfl ?_
          refine k_iinc (q := 62) (v := nI (k + 1)) (fr2 := [(4, .int (nI (k + 1))), (3, .int 0), (0, .ref (a 0)), (1, .int x), (2, .int (nI p))]) C 4 dX4_isNearerElsewhere_59 rfl (nI_add k 1) (by decide) rfl rfl ?_
          refine k_goto (q := 5) C dX4_isNearerElsewhere_62 (by decide) ?_
          refine k_fr (fr2 := [(0, .ref (a 0)), (1, .int x), (2, .int (nI p)), (3, .int 0), (4, .int (nI (k + 1)))]) ⟨[2, 3, 4, 1, 0], rfl⟩ ?_
          have K := ih (k + 1) (by omega) (by omega)
          first | rw [← bI_t (b := sAnyL (mNear h x p) (k + 1) = true) (sAnyL_t c_18)] at K | rw [← bI_f (b := sAnyL (mNear h x p) (k + 1) = true) (fun q => by rw [sAnyL_s (by simpa using c_18) (fun z => not_lt_of_le32 c_50 (of_decide_eq_true z))] at q; cases q)] at K | rw [← bI_t (b := sAnyL (mNear h x p) (k + 1) = true) (sAnyL_y (decide_eq_true (Int32.not_le.mp c_50)))] at K
          exact K
        · intro c_50
          refine k_iconst (q := 54) (v := 1) C dX4_isNearerElsewhere_53 (by decide) rfl ?_
          refine k_goto (q := 58) C dX4_isNearerElsewhere_54 (by decide) ?_
          refine k_istore_n (q := 59) (fr2 := [(3, .int 1), (0, .ref (a 0)), (1, .int x), (2, .int (nI p)), (4, .int (nI k))]) C dX4_isNearerElsewhere_58 (by decide) rfl rfl ?_
          refine k_iinc (q := 62) (v := nI (k + 1)) (fr2 := [(4, .int (nI (k + 1))), (3, .int 1), (0, .ref (a 0)), (1, .int x), (2, .int (nI p))]) C 4 dX4_isNearerElsewhere_59 rfl (nI_add k 1) (by decide) rfl rfl ?_
          refine k_goto (q := 5) C dX4_isNearerElsewhere_62 (by decide) ?_
          refine k_fr (fr2 := [(0, .ref (a 0)), (1, .int x), (2, .int (nI p)), (3, .int 1), (4, .int (nI (k + 1)))]) ⟨[2, 3, 4, 1, 0], rfl⟩ ?_
          have K := ih (k + 1) (by omega) (by omega)
          first | rw [← bI_t (b := sAnyL (mNear h x p) (k + 1) = true) (sAnyL_t c_18)] at K | rw [← bI_f (b := sAnyL (mNear h x p) (k + 1) = true) (fun q => by rw [sAnyL_s (by simpa using c_18) (fun z => not_lt_of_le32 c_50 (of_decide_eq_true z))] at q; cases q)] at K | rw [← bI_t (b := sAnyL (mNear h x p) (k + 1) = true) (sAnyL_y (decide_eq_true (Int32.not_le.mp c_50)))] at K
          exact K
set_option maxHeartbeats 4000000 in
set_option maxRecDepth 100000 in
theorem c_X4_isNearerElsewhere (cy : Nat → ClassId) (a : Nat → Nat) (th : Int32) (sm : Nat) (ln : Nat) (pt : Nat) (sg : Nat) (fi : Int32) (se : Int32) (n : Nat) (o : Nat → Int32) (h : Nat → Int32) (t : Nat → Int32) (s : Nat → Int32) (g : Nat → Int32) (kn : Nat) (lo : Int32) (lf : Int32) (nm : Nat → Int32) (sv : Nat → Int32) (sl : Nat → Int32) (ik : Nat → Int32) (bf : Nat → Nat) (co : Nat → Int32) (go : Nat → Int32) (fo : Nat → Int32) (x : Int32) (p : Nat)  (hn : n ≤ 6) (hp : p < n) : kI yX4_isNearerElsewhere wsX4_isNearerElsewhere rm_X4_isNearerElsewhere cy [.ref (a 0), .int x, .int (nI p)] (wM a cy th sm ln pt sg fi se (mSt n o h t s g kn lo lf nm) sv sl ik bf co go fo) (bI (sAnyL (mNear h x p) n = true)) (wM a cy th sm ln pt sg fi se (mSt n o h t s g kn lo lf nm) sv sl ik bf co go fo) := by
  refine kI_of (cc := cX4_isNearerElsewhere) (maxL := 5) (rt := .boolean) (by decide) rfl (kb_nar _) (Nat.le_of_ble_eq_true rfl) ?_
  intro X hR C E
  have C : kC X 5 RX4 cX4_isNearerElsewhere wsX4_isNearerElsewhere cy := C
  refine k_fr (fr2 := [(0, .ref (a 0)), (1, .int x), (2, .int (nI p))]) ⟨[0, 1, 2], rfl⟩ ?_
  refine k_iconst (q := 1) (v := 0) C dX4_isNearerElsewhere_0 (by decide) rfl ?_
  refine k_istore_n (q := 2) (fr2 := [(3, .int 0), (0, .ref (a 0)), (1, .int x), (2, .int (nI p))]) C dX4_isNearerElsewhere_1 (by decide) rfl rfl ?_
  refine k_iconst (q := 3) (v := 0) C dX4_isNearerElsewhere_2 (by decide) rfl ?_
  refine k_istore (q := 5) (fr2 := [(4, .int 0), (3, .int 0), (0, .ref (a 0)), (1, .int x), (2, .int (nI p))]) C dX4_isNearerElsewhere_3 (by decide) rfl rfl ?_
  refine k_fr (fr2 := [(0, .ref (a 0)), (1, .int x), (2, .int (nI p)), (3, .int 0), (4, .int 0)]) ⟨[2, 3, 4, 1, 0], rfl⟩ ?_
  exact lp_X4_isNearerElsewhere_5 cy a th sm ln pt sg fi se n o h t s g kn lo lf nm sv sl ik bf co go fo x p hn hp X hR C E _ 0 (Nat.lt_succ_self _) (by omega)
abbrev rm_X4_read : Room := { frames := 5, cells := 0, slots := 0, locals := 109 }
theorem in4_X4_read : ∀ w ∈ wsX40, w ∈ wsX4_read := fun _ h => (List.mem_cons_of_mem _ (List.mem_append_right _ h))
set_option maxHeartbeats 4000000 in
set_option maxRecDepth 100000 in
theorem c_X4_read (cy : Nat → ClassId) (a : Nat → Nat) (th : Int32) (sm : Nat) (ln : Nat) (pt : Nat) (sg : Nat) (fi : Int32) (se : Int32) (n : Nat) (o : Nat → Int32) (h : Nat → Int32) (t : Nat → Int32) (s : Nat → Int32) (g : Nat → Int32) (kn : Nat) (lo : Int32) (lf : Int32) (nm : Nat → Int32) (sv : Nat → Int32) (sl : Nat → Int32) (ik : Nat → Int32) (bf : Nat → Nat) (co : Nat → Int32) (go : Nat → Int32) (fo : Nat → Int32)  (hn : n ≤ 6) (ho : mBin o) (h0 : sOk (s 0)) (h1 : sOk (s 1)) : kIx yX4_read wsX4_read rm_X4_read cy [.ref (a 0)] (wM a cy th sm ln pt sg fi se (mSt n o h t s g kn lo lf nm) sv sl ik bf co go fo) (bI (¬ (sMeet g (s 0) (s 1)) = -99999 ∧ ¬ (mC (sClose (mLit o) h t s g) (mD h s g) n) = -99999)) (fun (u : (Nat → Int32) × (Nat → Int32) × (Nat → Int32)) => (wM a cy th sm ln pt sg fi se (mSt n o h t s g kn lo lf nm) sv sl ik bf u.1 u.2.1 u.2.2)) (fun (u : (Nat → Int32) × (Nat → Int32) × (Nat → Int32)) => mFnd h n (sMeet g (s 0) (s 1)) (mC (sClose (mLit o) h t s g) (mD h s g) n) u.2.2) := by
  refine kIx_of (cc := cX4_read) (maxL := 4) (rt := .boolean) (by decide) rfl (kb_nar _) (Nat.le_of_ble_eq_true rfl) ?_
  intro X hR C E
  have C : kC X 4 RX4 cX4_read wsX4_read cy := C
  refine k_fr (fr2 := [(0, .ref (a 0))]) ⟨[0], rfl⟩ ?_
  refine k_aload_n (q := 1) C 0 dX4_read_0 rfl rfl ?_
  refine k_aload_n (q := 2) C 0 dX4_read_1 rfl rfl ?_
  refine k_get (q := 5) (ci := 4) (v := .ref (a 1)) C 0 1 in4_X4_read rfl (List.mem_of_getElem? (i := 1) rfl) rfl rfl (by decide) rfl dX4_read_2 rfl ?_
  refine k_iconst (q := 6) (v := 1) C dX4_read_5 (by decide) rfl ?_
  refine k_iald (q := 7) C 1 rfl (vp_in_nI (n := 1) (by decide) (by decide)) dX4_read_6 rfl ?_
  refine k_st (st2 := (.int ((mSt n o h t s g kn lo lf nm) 1) :: _)) (congrArg (fun z => Value.int z :: _) (show (mSt n o h t s g kn lo lf nm) (1 : Int32).toNatClampNeg = (mSt n o h t s g kn lo lf nm) 1 from congrArg (mSt n o h t s g kn lo lf nm) (nI_clamp (n := 1) (by decide)))) ?_
  refine k_st (st2 := (.int (g 1) :: _)) (congrArg (fun z => Value.int z :: _) (show (mSt n o h t s g kn lo lf nm) 1 = g 1 from mSt_g (k := 1) (by decide))) ?_
  refine k_callVVx (n := 1) (q := 10) (pre := ([] : va_W)) (post := ([] : va_W)) (w2 := (fun u => (wM a cy th sm ln pt sg fi se (mSt n o h t s g kn lo lf nm) sv sl ik bf (u.1) (u.2) fo))) (As := [.int (g 1)]) (rest := []) C (c_X4_lay cy a th sm ln pt sg fi se n o h t s g kn lo lf nm sv sl ik bf co go fo (g 1) hn) gX4_read_X4_lay rfl rfl rfl (by decide +kernel) (k_room hR (by decide)) ⟨Nat.zero_le _, Nat.zero_le _⟩ (ci := 4) rfl 0 rfl rfl rfl (Nat.le_of_ble_eq_true rfl) ((List.append_nil _).symm) (fun u => List.append_nil _) dX4_read_7 rfl ?_
  rintro ⟨co_7, go_7⟩ h_7
  try dsimp only at h_7
  refine k_aload_n (q := 11) C 0 dX4_read_10 rfl rfl ?_
  refine k_callVI (n := 0) (q := 14) (pre := ([] : va_W)) (post := ([] : va_W)) (w2 := (wM a cy th sm ln pt sg fi se (mSt n o h t s g kn lo lf nm) sv sl ik bf co_7 go_7 fo)) (As := []) (rest := []) C (c_X4_meeting cy a th sm ln pt sg fi se n o h t s g kn lo lf nm sv sl ik bf co_7 go_7 fo h0 h1) gX4_read_X4_meeting rfl rfl rfl (by decide +kernel) (k_room hR (by decide)) ⟨Nat.zero_le _, Nat.zero_le _⟩ (ci := 4) rfl 0 rfl rfl rfl (Nat.le_of_ble_eq_true rfl) ((List.append_nil _).symm) (List.append_nil _) dX4_read_11 rfl ?_
  refine k_istore_n (q := 15) (fr2 := [(1, .int (sMeet g (s 0) (s 1))), (0, .ref (a 0))]) C dX4_read_14 (by decide) rfl rfl ?_
  refine k_aload_n (q := 16) C 1 dX4_read_15 rfl rfl ?_
  refine k_callVI (n := 0) (q := 19) (pre := ([] : va_W)) (post := ([] : va_W)) (w2 := (wM a cy th sm ln pt sg fi se (mSt n o h t s g kn lo lf nm) sv sl ik bf co_7 go_7 fo)) (As := []) (rest := []) C (c_X4_closest cy a th sm ln pt sg fi se n o h t s g kn lo lf nm sv sl ik bf co_7 go_7 fo hn ho h_7) gX4_read_X4_closest rfl rfl rfl (by decide +kernel) (k_room hR (by decide)) ⟨Nat.zero_le _, Nat.zero_le _⟩ (ci := 4) rfl 0 rfl rfl rfl (Nat.le_of_ble_eq_true rfl) ((List.append_nil _).symm) (List.append_nil _) dX4_read_16 rfl ?_
  refine k_istore_n (q := 20) (fr2 := [(2, .int (mC (sClose (mLit o) h t s g) (mD h s g) n)), (1, .int (sMeet g (s 0) (s 1))), (0, .ref (a 0))]) C dX4_read_19 (by decide) rfl rfl ?_
  refine k_iload_n (q := 21) C 1 dX4_read_20 rfl rfl ?_
  refine k_ldc (q := 23) (v := -99999) C (List.mem_of_getElem? (i := 2) rfl) dX4_read_21 rfl ?_
  refine k_icmp_eq (tgt := 36) (q := 26) C dX4_read_23 (by decide) rfl ?_ ?_
  · intro c_23
    refine k_iconst (q := 37) (v := 0) C dX4_read_36 (by decide) rfl ?_
    refine k_istore_n (q := 38) (fr2 := [(3, .int 0), (2, .int (mC (sClose (mLit o) h t s g) (mD h s g) n)), (1, .int (sMeet g (s 0) (s 1))), (0, .ref (a 0))]) C dX4_read_37 (by decide) rfl rfl ?_
    refine k_aload_n (q := 39) C 3 dX4_read_38 rfl rfl ?_
    refine k_get (q := 42) (ci := 4) (v := .ref (a 8)) C 0 14 in4_X4_read rfl (List.mem_of_getElem? (i := 3) rfl) rfl rfl (by decide) rfl dX4_read_39 rfl ?_
    refine k_iconst (q := 43) (v := 0) C dX4_read_42 (by decide) rfl ?_
    refine k_iload_n (q := 44) C 0 dX4_read_43 rfl rfl ?_
    refine k_if_eq (tgt := 51) (q := 47) C dX4_read_44 (by decide) rfl ?_ ?_
    · intro c_44
      refine k_ldc (q := 53) (v := -99999) C (List.mem_of_getElem? (i := 2) rfl) dX4_read_51 rfl ?_
      refine k_iast (q := 54) (w2 := (wM a cy th sm ln pt sg fi se (mSt n o h t s g kn lo lf nm) sv sl ik bf co_7 go_7 (upd fo 0 (-99999)))) C 8 rfl (vp_in_nI (n := 0) (by decide) (by decide)) rfl dX4_read_53 rfl ?_
      refine k_aload_n (q := 55) C 3 dX4_read_54 rfl rfl ?_
      refine k_get (q := 58) (ci := 4) (v := .ref (a 8)) C 0 14 in4_X4_read rfl (List.mem_of_getElem? (i := 3) rfl) rfl rfl (by decide) rfl dX4_read_55 rfl ?_
      refine k_iconst (q := 59) (v := 1) C dX4_read_58 (by decide) rfl ?_
      refine k_iload_n (q := 60) C 0 dX4_read_59 rfl rfl ?_
      refine k_if_eq (tgt := 67) (q := 63) C dX4_read_60 (by decide) rfl ?_ ?_
      · intro c_60
        refine k_ldc (q := 69) (v := -99999) C (List.mem_of_getElem? (i := 2) rfl) dX4_read_67 rfl ?_
        refine k_iast (q := 70) (w2 := (wM a cy th sm ln pt sg fi se (mSt n o h t s g kn lo lf nm) sv sl ik bf co_7 go_7 (upd (upd fo 0 (-99999)) 1 (-99999)))) C 8 rfl (vp_in_nI (n := 1) (by decide) (by decide)) rfl dX4_read_69 rfl ?_
        refine k_aload_n (q := 71) C 3 dX4_read_70 rfl rfl ?_
        refine k_get (q := 74) (ci := 4) (v := .ref (a 8)) C 0 14 in4_X4_read rfl (List.mem_of_getElem? (i := 3) rfl) rfl rfl (by decide) rfl dX4_read_71 rfl ?_
        refine k_iconst (q := 75) (v := 2) C dX4_read_74 (by decide) rfl ?_
        refine k_iload_n (q := 76) C 0 dX4_read_75 rfl rfl ?_
        refine k_if_eq (tgt := 93) (q := 79) C dX4_read_76 (by decide) rfl ?_ ?_
        · intro c_76
          refine k_ldc (q := 95) (v := -99999) C (List.mem_of_getElem? (i := 2) rfl) dX4_read_93 rfl ?_
          refine k_iast (q := 96) (w2 := (wM a cy th sm ln pt sg fi se (mSt n o h t s g kn lo lf nm) sv sl ik bf co_7 go_7 (upd (upd (upd fo 0 (-99999)) 1 (-99999)) 2 (-99999)))) C 8 rfl (vp_in_nI (n := 2) (by decide) (by decide)) rfl dX4_read_95 rfl ?_
          refine k_aload_n (q := 97) C 3 dX4_read_96 rfl rfl ?_
          refine k_get (q := 100) (ci := 4) (v := .ref (a 8)) C 0 14 in4_X4_read rfl (List.mem_of_getElem? (i := 3) rfl) rfl rfl (by decide) rfl dX4_read_97 rfl ?_
          refine k_iconst (q := 101) (v := 3) C dX4_read_100 (by decide) rfl ?_
          refine k_iload_n (q := 102) C 0 dX4_read_101 rfl rfl ?_
          refine k_if_ne (tgt := 110) (q := 105) C dX4_read_102 (by decide) rfl ?_ ?_
          · exact fun c_102 => absurd c_102 (by decide)
          · intro c_102
            refine k_ldc (q := 107) (v := -99999) C (List.mem_of_getElem? (i := 2) rfl) dX4_read_105 rfl ?_
            refine k_goto (q := 124) C dX4_read_107 (by decide) ?_
            refine k_iast (q := 125) (w2 := (wM a cy th sm ln pt sg fi se (mSt n o h t s g kn lo lf nm) sv sl ik bf co_7 go_7 (upd (upd (upd (upd fo 0 (-99999)) 1 (-99999)) 2 (-99999)) 3 (-99999)))) C 8 rfl (vp_in_nI (n := 3) (by decide) (by decide)) rfl dX4_read_124 rfl ?_
            refine k_iload_n (q := 126) C 0 dX4_read_125 rfl rfl ?_
            exact k_finx E (co_7, go_7, upd (upd (upd (upd fo 0 (-99999)) 1 (-99999)) 2 (-99999)) 3 (-99999)) dX4_read_126 (by first | exact bI_f (fun q => q.1 c_23) | exact bI_f (fun q => q.2 c_29) | exact bI_t ⟨c_23, c_29⟩) (rfl) (by first | exact mFnd_n hn (by first | exact Or.inl c_23 | exact Or.inr c_29) rfl rfl rfl rfl | exact mFnd_y hn hp c_23 ep rfl rfl rfl (bI_t c_116) | exact mFnd_y hn hp c_23 ep rfl rfl rfl (bI_f c_116))
        · exact fun c_76 => absurd c_76 (by decide)
      · exact fun c_60 => absurd c_60 (by decide)
    · exact fun c_44 => absurd c_44 (by decide)
  · intro c_23
    refine k_iload_n (q := 27) C 0 dX4_read_26 rfl rfl ?_
    refine k_ldc (q := 29) (v := -99999) C (List.mem_of_getElem? (i := 2) rfl) dX4_read_27 rfl ?_
    refine k_icmp_eq (tgt := 36) (q := 32) C dX4_read_29 (by decide) rfl ?_ ?_
    · intro c_29
      refine k_iconst (q := 37) (v := 0) C dX4_read_36 (by decide) rfl ?_
      refine k_istore_n (q := 38) (fr2 := [(3, .int 0), (2, .int (mC (sClose (mLit o) h t s g) (mD h s g) n)), (1, .int (sMeet g (s 0) (s 1))), (0, .ref (a 0))]) C dX4_read_37 (by decide) rfl rfl ?_
      refine k_aload_n (q := 39) C 3 dX4_read_38 rfl rfl ?_
      refine k_get (q := 42) (ci := 4) (v := .ref (a 8)) C 0 14 in4_X4_read rfl (List.mem_of_getElem? (i := 3) rfl) rfl rfl (by decide) rfl dX4_read_39 rfl ?_
      refine k_iconst (q := 43) (v := 0) C dX4_read_42 (by decide) rfl ?_
      refine k_iload_n (q := 44) C 0 dX4_read_43 rfl rfl ?_
      refine k_if_eq (tgt := 51) (q := 47) C dX4_read_44 (by decide) rfl ?_ ?_
      · intro c_44
        refine k_ldc (q := 53) (v := -99999) C (List.mem_of_getElem? (i := 2) rfl) dX4_read_51 rfl ?_
        refine k_iast (q := 54) (w2 := (wM a cy th sm ln pt sg fi se (mSt n o h t s g kn lo lf nm) sv sl ik bf co_7 go_7 (upd fo 0 (-99999)))) C 8 rfl (vp_in_nI (n := 0) (by decide) (by decide)) rfl dX4_read_53 rfl ?_
        refine k_aload_n (q := 55) C 3 dX4_read_54 rfl rfl ?_
        refine k_get (q := 58) (ci := 4) (v := .ref (a 8)) C 0 14 in4_X4_read rfl (List.mem_of_getElem? (i := 3) rfl) rfl rfl (by decide) rfl dX4_read_55 rfl ?_
        refine k_iconst (q := 59) (v := 1) C dX4_read_58 (by decide) rfl ?_
        refine k_iload_n (q := 60) C 0 dX4_read_59 rfl rfl ?_
        refine k_if_eq (tgt := 67) (q := 63) C dX4_read_60 (by decide) rfl ?_ ?_
        · intro c_60
          refine k_ldc (q := 69) (v := -99999) C (List.mem_of_getElem? (i := 2) rfl) dX4_read_67 rfl ?_
          refine k_iast (q := 70) (w2 := (wM a cy th sm ln pt sg fi se (mSt n o h t s g kn lo lf nm) sv sl ik bf co_7 go_7 (upd (upd fo 0 (-99999)) 1 (-99999)))) C 8 rfl (vp_in_nI (n := 1) (by decide) (by decide)) rfl dX4_read_69 rfl ?_
          refine k_aload_n (q := 71) C 3 dX4_read_70 rfl rfl ?_
          refine k_get (q := 74) (ci := 4) (v := .ref (a 8)) C 0 14 in4_X4_read rfl (List.mem_of_getElem? (i := 3) rfl) rfl rfl (by decide) rfl dX4_read_71 rfl ?_
          refine k_iconst (q := 75) (v := 2) C dX4_read_74 (by decide) rfl ?_
          refine k_iload_n (q := 76) C 0 dX4_read_75 rfl rfl ?_
          refine k_if_eq (tgt := 93) (q := 79) C dX4_read_76 (by decide) rfl ?_ ?_
          · intro c_76
            refine k_ldc (q := 95) (v := -99999) C (List.mem_of_getElem? (i := 2) rfl) dX4_read_93 rfl ?_
            refine k_iast (q := 96) (w2 := (wM a cy th sm ln pt sg fi se (mSt n o h t s g kn lo lf nm) sv sl ik bf co_7 go_7 (upd (upd (upd fo 0 (-99999)) 1 (-99999)) 2 (-99999)))) C 8 rfl (vp_in_nI (n := 2) (by decide) (by decide)) rfl dX4_read_95 rfl ?_
            refine k_aload_n (q := 97) C 3 dX4_read_96 rfl rfl ?_
            refine k_get (q := 100) (ci := 4) (v := .ref (a 8)) C 0 14 in4_X4_read rfl (List.mem_of_getElem? (i := 3) rfl) rfl rfl (by decide) rfl dX4_read_97 rfl ?_
            refine k_iconst (q := 101) (v := 3) C dX4_read_100 (by decide) rfl ?_
            refine k_iload_n (q := 102) C 0 dX4_read_101 rfl rfl ?_
            refine k_if_ne (tgt := 110) (q := 105) C dX4_read_102 (by decide) rfl ?_ ?_
            · exact fun c_102 => absurd c_102 (by decide)
            · intro c_102
              refine k_ldc (q := 107) (v := -99999) C (List.mem_of_getElem? (i := 2) rfl) dX4_read_105 rfl ?_
              refine k_goto (q := 124) C dX4_read_107 (by decide) ?_
              refine k_iast (q := 125) (w2 := (wM a cy th sm ln pt sg fi se (mSt n o h t s g kn lo lf nm) sv sl ik bf co_7 go_7 (upd (upd (upd (upd fo 0 (-99999)) 1 (-99999)) 2 (-99999)) 3 (-99999)))) C 8 rfl (vp_in_nI (n := 3) (by decide) (by decide)) rfl dX4_read_124 rfl ?_
              refine k_iload_n (q := 126) C 0 dX4_read_125 rfl rfl ?_
              exact k_finx E (co_7, go_7, upd (upd (upd (upd fo 0 (-99999)) 1 (-99999)) 2 (-99999)) 3 (-99999)) dX4_read_126 (by first | exact bI_f (fun q => q.1 c_23) | exact bI_f (fun q => q.2 c_29) | exact bI_t ⟨c_23, c_29⟩) (rfl) (by first | exact mFnd_n hn (by first | exact Or.inl c_23 | exact Or.inr c_29) rfl rfl rfl rfl | exact mFnd_y hn hp c_23 ep rfl rfl rfl (bI_t c_116) | exact mFnd_y hn hp c_23 ep rfl rfl rfl (bI_f c_116))
          · exact fun c_76 => absurd c_76 (by decide)
        · exact fun c_60 => absurd c_60 (by decide)
      · exact fun c_44 => absurd c_44 (by decide)
    · intro c_29
      obtain ⟨p, hp, ep⟩ := (mC_ex _ _ _).resolve_left c_29
      have e_32_2 : (mC (sClose (mLit o) h t s g) (mD h s g) n) = nI p := ep
      rw [e_32_2]
      refine k_iconst (q := 33) (v := 1) C dX4_read_32 (by decide) rfl ?_
      refine k_goto (q := 37) C dX4_read_33 (by decide) ?_
      refine k_istore_n (q := 38) (fr2 := [(3, .int 1), (2, .int (nI p)), (1, .int (sMeet g (s 0) (s 1))), (0, .ref (a 0))]) C dX4_read_37 (by decide) rfl rfl ?_
      refine k_aload_n (q := 39) C 3 dX4_read_38 rfl rfl ?_
      refine k_get (q := 42) (ci := 4) (v := .ref (a 8)) C 0 14 in4_X4_read rfl (List.mem_of_getElem? (i := 3) rfl) rfl rfl (by decide) rfl dX4_read_39 rfl ?_
      refine k_iconst (q := 43) (v := 0) C dX4_read_42 (by decide) rfl ?_
      refine k_iload_n (q := 44) C 0 dX4_read_43 rfl rfl ?_
      refine k_if_eq (tgt := 51) (q := 47) C dX4_read_44 (by decide) rfl ?_ ?_
      · exact fun c_44 => absurd c_44 (by decide)
      · intro c_44
        refine k_iload_n (q := 48) C 2 dX4_read_47 rfl rfl ?_
        refine k_goto (q := 53) C dX4_read_48 (by decide) ?_
        refine k_iast (q := 54) (w2 := (wM a cy th sm ln pt sg fi se (mSt n o h t s g kn lo lf nm) sv sl ik bf co_7 go_7 (upd fo 0 (sMeet g (s 0) (s 1))))) C 8 rfl (vp_in_nI (n := 0) (by decide) (by decide)) rfl dX4_read_53 rfl ?_
        refine k_aload_n (q := 55) C 3 dX4_read_54 rfl rfl ?_
        refine k_get (q := 58) (ci := 4) (v := .ref (a 8)) C 0 14 in4_X4_read rfl (List.mem_of_getElem? (i := 3) rfl) rfl rfl (by decide) rfl dX4_read_55 rfl ?_
        refine k_iconst (q := 59) (v := 1) C dX4_read_58 (by decide) rfl ?_
        refine k_iload_n (q := 60) C 0 dX4_read_59 rfl rfl ?_
        refine k_if_eq (tgt := 67) (q := 63) C dX4_read_60 (by decide) rfl ?_ ?_
        · exact fun c_60 => absurd c_60 (by decide)
        · intro c_60
          refine k_iload_n (q := 64) C 1 dX4_read_63 rfl rfl ?_
          refine k_goto (q := 69) C dX4_read_64 (by decide) ?_
          refine k_iast (q := 70) (w2 := (wM a cy th sm ln pt sg fi se (mSt n o h t s g kn lo lf nm) sv sl ik bf co_7 go_7 (upd (upd fo 0 (sMeet g (s 0) (s 1))) 1 (nI p)))) C 8 rfl (vp_in_nI (n := 1) (by decide) (by decide)) rfl dX4_read_69 rfl ?_
          refine k_aload_n (q := 71) C 3 dX4_read_70 rfl rfl ?_
          refine k_get (q := 74) (ci := 4) (v := .ref (a 8)) C 0 14 in4_X4_read rfl (List.mem_of_getElem? (i := 3) rfl) rfl rfl (by decide) rfl dX4_read_71 rfl ?_
          refine k_iconst (q := 75) (v := 2) C dX4_read_74 (by decide) rfl ?_
          refine k_iload_n (q := 76) C 0 dX4_read_75 rfl rfl ?_
          refine k_if_eq (tgt := 93) (q := 79) C dX4_read_76 (by decide) rfl ?_ ?_
          · exact fun c_76 => absurd c_76 (by decide)
          · intro c_76
            refine k_iload_n (q := 80) C 2 dX4_read_79 rfl rfl ?_
            refine k_aload_n (q := 81) C 3 dX4_read_80 rfl rfl ?_
            refine k_get (q := 84) (ci := 4) (v := .ref (a 1)) C 0 1 in4_X4_read rfl (List.mem_of_getElem? (i := 1) rfl) rfl rfl (by decide) rfl dX4_read_81 rfl ?_
            refine k_bipush (q := 86) (v := 12) C dX4_read_84 (by decide +kernel) rfl ?_
            refine k_iload_n (q := 87) C 1 dX4_read_86 rfl rfl ?_
            refine k_iadd (q := 88) C dX4_read_87 rfl ?_
            refine k_st (st2 := (.int (nI (12 + p)) :: _)) (congrArg (fun z => Value.int z :: _) (show 12 + (nI p) = nI (12 + p) from nI_add 12 p)) ?_
            refine k_iald (q := 89) C 1 rfl (vp_in_nI (n := 12 + p) (by omega) (by decide)) dX4_read_88 rfl ?_
            refine k_st (st2 := (.int ((mSt n o h t s g kn lo lf nm) (12 + p)) :: _)) (congrArg (fun z => Value.int z :: _) (show (mSt n o h t s g kn lo lf nm) (nI (12 + p)).toNatClampNeg = (mSt n o h t s g kn lo lf nm) (12 + p) from congrArg (mSt n o h t s g kn lo lf nm) (nI_clamp (n := 12 + p) (by omega)))) ?_
            refine k_st (st2 := (.int (h p) :: _)) (congrArg (fun z => Value.int z :: _) (show (mSt n o h t s g kn lo lf nm) (12 + p) = h p from mSt_h (k := p) (by omega))) ?_
            refine k_isub (q := 90) C dX4_read_89 rfl ?_
            refine k_goto (q := 95) C dX4_read_90 (by decide) ?_
            refine k_iast (q := 96) (w2 := (wM a cy th sm ln pt sg fi se (mSt n o h t s g kn lo lf nm) sv sl ik bf co_7 go_7 (upd (upd (upd fo 0 (sMeet g (s 0) (s 1))) 1 (nI p)) 2 ((sMeet g (s 0) (s 1)) - (h p))))) C 8 rfl (vp_in_nI (n := 2) (by decide) (by decide)) rfl dX4_read_95 rfl ?_
            refine k_aload_n (q := 97) C 3 dX4_read_96 rfl rfl ?_
            refine k_get (q := 100) (ci := 4) (v := .ref (a 8)) C 0 14 in4_X4_read rfl (List.mem_of_getElem? (i := 3) rfl) rfl rfl (by decide) rfl dX4_read_97 rfl ?_
            refine k_iconst (q := 101) (v := 3) C dX4_read_100 (by decide) rfl ?_
            refine k_iload_n (q := 102) C 0 dX4_read_101 rfl rfl ?_
            refine k_if_ne (tgt := 110) (q := 105) C dX4_read_102 (by decide) rfl ?_ ?_
            · intro c_102
              refine k_aload_n (q := 111) C 3 dX4_read_110 rfl rfl ?_
              refine k_iload_n (q := 112) C 2 dX4_read_111 rfl rfl ?_
              refine k_iload_n (q := 113) C 1 dX4_read_112 rfl rfl ?_
              refine k_callVI (n := 2) (q := 116) (pre := ([] : va_W)) (post := ([] : va_W)) (w2 := (wM a cy th sm ln pt sg fi se (mSt n o h t s g kn lo lf nm) sv sl ik bf co_7 go_7 (upd (upd (upd fo 0 (sMeet g (s 0) (s 1))) 1 (nI p)) 2 ((sMeet g (s 0) (s 1)) - (h p))))) (As := [.int (sMeet g (s 0) (s 1)), .int (nI p)]) (rest := [.int 3, .ref (a 8)]) C (c_X4_isNearerElsewhere cy a th sm ln pt sg fi se n o h t s g kn lo lf nm sv sl ik bf co_7 go_7 (upd (upd (upd fo 0 (sMeet g (s 0) (s 1))) 1 (nI p)) 2 ((sMeet g (s 0) (s 1)) - (h p))) (sMeet g (s 0) (s 1)) p hn hp) gX4_read_X4_isNearerElsewhere rfl rfl rfl (by decide +kernel) (k_room hR (by decide)) ⟨Nat.zero_le _, Nat.zero_le _⟩ (ci := 4) rfl 0 rfl rfl rfl (Nat.le_of_ble_eq_true rfl) ((List.append_nil _).symm) (List.append_nil _) dX4_read_113 rfl ?_
              refine k_ifB_eq (tgt := 123) (q := 119) C dX4_read_116 (by decide) rfl ?_ ?_
              · intro c_116
                refine k_iconst (q := 124) (v := 0) C dX4_read_123 (by decide) rfl ?_
                refine k_iast (q := 125) (w2 := (wM a cy th sm ln pt sg fi se (mSt n o h t s g kn lo lf nm) sv sl ik bf co_7 go_7 (upd (upd (upd (upd fo 0 (sMeet g (s 0) (s 1))) 1 (nI p)) 2 ((sMeet g (s 0) (s 1)) - (h p))) 3 0))) C 8 rfl (vp_in_nI (n := 3) (by decide) (by decide)) rfl dX4_read_124 rfl ?_
                refine k_iload_n (q := 126) C 0 dX4_read_125 rfl rfl ?_
                exact k_finx E (co_7, go_7, upd (upd (upd (upd fo 0 (sMeet g (s 0) (s 1))) 1 (nI p)) 2 ((sMeet g (s 0) (s 1)) - (h p))) 3 0) dX4_read_126 (by first | exact bI_f (fun q => q.1 c_23) | exact bI_f (fun q => q.2 c_29) | exact bI_t ⟨c_23, c_29⟩) (rfl) (by first | exact mFnd_n hn (by first | exact Or.inl c_23 | exact Or.inr c_29) rfl rfl rfl rfl | exact mFnd_y hn hp c_23 ep rfl rfl rfl (bI_t c_116) | exact mFnd_y hn hp c_23 ep rfl rfl rfl (bI_f c_116))
              · intro c_116
                refine k_iconst (q := 120) (v := 1) C dX4_read_119 (by decide) rfl ?_
                refine k_goto (q := 124) C dX4_read_120 (by decide) ?_
                refine k_iast (q := 125) (w2 := (wM a cy th sm ln pt sg fi se (mSt n o h t s g kn lo lf nm) sv sl ik bf co_7 go_7 (upd (upd (upd (upd fo 0 (sMeet g (s 0) (s 1))) 1 (nI p)) 2 ((sMeet g (s 0) (s 1)) - (h p))) 3 1))) C 8 rfl (vp_in_nI (n := 3) (by decide) (by decide)) rfl dX4_read_124 rfl ?_
                refine k_iload_n (q := 126) C 0 dX4_read_125 rfl rfl ?_
                exact k_finx E (co_7, go_7, upd (upd (upd (upd fo 0 (sMeet g (s 0) (s 1))) 1 (nI p)) 2 ((sMeet g (s 0) (s 1)) - (h p))) 3 1) dX4_read_126 (by first | exact bI_f (fun q => q.1 c_23) | exact bI_f (fun q => q.2 c_29) | exact bI_t ⟨c_23, c_29⟩) (rfl) (by first | exact mFnd_n hn (by first | exact Or.inl c_23 | exact Or.inr c_29) rfl rfl rfl rfl | exact mFnd_y hn hp c_23 ep rfl rfl rfl (bI_t c_116) | exact mFnd_y hn hp c_23 ep rfl rfl rfl (bI_f c_116))
            · exact fun c_102 => absurd c_102 (by decide)
abbrev rm_X4_whyNotLayer : Room := { frames := 1, cells := 0, slots := 0, locals := 22 }
theorem in4_X4_whyNotLayer : ∀ w ∈ wsX40, w ∈ wsX4_whyNotLayer := fun _ h => (List.mem_cons_of_mem _ (List.mem_append_right _ h))
set_option maxHeartbeats 4000000 in
set_option maxRecDepth 100000 in
theorem lp_X4_whyNotLayer_45 (cy : Nat → ClassId) (a : Nat → Nat) (th : Int32) (sm : Nat) (ln : Nat) (pt : Nat) (sg : Nat) (fi : Int32) (se : Int32) (n : Nat) (o : Nat → Int32) (h : Nat → Int32) (t : Nat → Int32) (s : Nat → Int32) (g : Nat → Int32) (kn : Nat) (lo : Int32) (lf : Int32) (nm : Nat → Int32) (sv : Nat → Int32) (sl : Nat → Int32) (ik : Nat → Int32) (bf : Nat → Nat) (co : Nat → Int32) (go : Nat → Int32) (fo : Nat → Int32) (x : Int32) (y : Int32)  (hn : n ≤ 6) (X : kX) (hR : xR X = rm_X4_whyNotLayer) (C : kC X 5 RX4 cX4_whyNotLayer wsX4_whyNotLayer cy) (E : kEnd X 5 cX4_whyNotLayer (mWhy n h x y) (wM a cy th sm ln pt sg fi se (mSt n o h t s g kn lo lf nm) sv sl ik bf co go fo)) : ∀ (fu : Nat) (k : Nat), n - k < fu → (k ≤ n) → ((50 ≤ x ∧ x ≤ 3000) ∧ (1 ≤ y ∧ y ≤ 100)) → kG X 5 0 0 (wM a cy th sm ln pt sg fi se (mSt n o h t s g kn lo lf nm) sv sl ik bf co go fo) 45 [(0, .ref (a 0)), (1, .int x), (2, .int y), (3, .int (bI (n = 6 ∨ sAny h x k = true))), (4, .int (nI k))] [] := by
  intro fu
  induction fu with
  | zero => intro k hfu; exact absurd hfu (Nat.not_lt_zero _)
  | succ fu ih =>
    intro k hfu hk hr
    refine k_iload (q := 47) C 4 dX4_whyNotLayer_45 rfl rfl ?_
    refine k_aload_n (q := 48) C 0 dX4_whyNotLayer_47 rfl rfl ?_
    refine k_get (q := 51) (ci := 4) (v := .ref (a 1)) C 0 1 in4_X4_whyNotLayer rfl (List.mem_of_getElem? (i := 1) rfl) rfl rfl (by decide) rfl dX4_whyNotLayer_48 rfl ?_
    refine k_bipush (q := 53) (v := 8) C dX4_whyNotLayer_51 (by decide +kernel) rfl ?_
    refine k_iald (q := 54) C 1 rfl (vp_in_nI (n := 8) (by decide) (by decide)) dX4_whyNotLayer_53 rfl ?_
    refine k_st (st2 := (.int ((mSt n o h t s g kn lo lf nm) 8) :: _)) (congrArg (fun z => Value.int z :: _) (show (mSt n o h t s g kn lo lf nm) (8 : Int32).toNatClampNeg = (mSt n o h t s g kn lo lf nm) 8 from congrArg (mSt n o h t s g kn lo lf nm) (nI_clamp (n := 8) (by decide)))) ?_
    refine k_st (st2 := (.int (nI n) :: _)) (congrArg (fun z => Value.int z :: _) (show (mSt n o h t s g kn lo lf nm) 8 = nI n from rfl)) ?_
    refine k_nicmp_ge (a := k) (b := n)  (tgt := 87) (q := 57) C dX4_whyNotLayer_54 (by decide) rfl (by omega) (by omega) ?_ ?_
    · intro c_54
      obtain rfl : n = k := by omega
      refine k_iload_n (q := 88) C 3 dX4_whyNotLayer_87 rfl rfl ?_
      refine k_ifB_eq (tgt := 95) (q := 91) C dX4_whyNotLayer_88 (by decide) rfl ?_ ?_
      · intro c_88
        refine k_iconst (q := 96) (v := 0) C dX4_whyNotLayer_95 (by decide) rfl ?_
        exact k_fin E dX4_whyNotLayer_96 (by unfold mWhy; rw [if_neg (fun q => q hr)]; first | rw [if_pos c_88] | rw [if_neg c_88]) (rfl)
      · intro c_88
        refine k_iconst (q := 92) (v := 2) C dX4_whyNotLayer_91 (by decide) rfl ?_
        refine k_goto (q := 96) C dX4_whyNotLayer_92 (by decide) ?_
        exact k_fin E dX4_whyNotLayer_96 (by unfold mWhy; rw [if_neg (fun q => q hr)]; first | rw [if_pos c_88] | rw [if_neg c_88]) (rfl)
    · intro c_54
      refine k_iload_n (q := 58) C 3 dX4_whyNotLayer_57 rfl rfl ?_
      refine k_ifB_ne (tgt := 75) (q := 61) C dX4_whyNotLayer_58 (by decide) rfl ?_ ?_
      · intro c_58
        refine k_iconst (q := 76) (v := 1) C dX4_whyNotLayer_75 (by decide) rfl ?_
        refine k_goto (q := 80) C dX4_whyNotLayer_76 (by decide) ?_
        refine k_istore_n (q := 81) (fr2 := [(3, .int 1), (0, .ref (a 0)), (1, .int x), (2, .int y), (4, .int (nI k))]) C dX4_whyNotLayer_80 (by decide) rfl rfl ?_
        refine k_iinc (q := 84) (v := nI (k + 1)) (fr2 := [(4, .int (nI (k + 1))), (3, .int 1), (0, .ref (a 0)), (1, .int x), (2, .int y)]) C 4 dX4_whyNotLayer_81 rfl (nI_add k 1) (by decide) rfl rfl ?_
        refine k_goto (q := 45) C dX4_whyNotLayer_84 (by decide) ?_
        refine k_fr (fr2 := [(0, .ref (a 0)), (1, .int x), (2, .int y), (3, .int 1), (4, .int (nI (k + 1)))]) ⟨[2, 3, 4, 1, 0], rfl⟩ ?_
        have K := ih (k + 1) (by omega) (by omega) hr
        first | rw [← bI_t (b := n = 6 ∨ sAny h x (k + 1) = true) (mW_t c_58)] at K | rw [← bI_t (b := n = 6 ∨ sAny h x (k + 1) = true) (mW_y c_72)] at K | rw [← bI_f (b := n = 6 ∨ sAny h x (k + 1) = true) (mW_f c_58 c_72)] at K
        exact K
      · intro c_58
        refine k_aload_n (q := 62) C 0 dX4_whyNotLayer_61 rfl rfl ?_
        refine k_get (q := 65) (ci := 4) (v := .ref (a 1)) C 0 1 in4_X4_whyNotLayer rfl (List.mem_of_getElem? (i := 1) rfl) rfl rfl (by decide) rfl dX4_whyNotLayer_62 rfl ?_
        refine k_bipush (q := 67) (v := 12) C dX4_whyNotLayer_65 (by decide +kernel) rfl ?_
        refine k_iload (q := 69) C 4 dX4_whyNotLayer_67 rfl rfl ?_
        refine k_iadd (q := 70) C dX4_whyNotLayer_69 rfl ?_
        refine k_st (st2 := (.int (nI (12 + k)) :: _)) (congrArg (fun z => Value.int z :: _) (show 12 + (nI k) = nI (12 + k) from nI_add 12 k)) ?_
        refine k_iald (q := 71) C 1 rfl (vp_in_nI (n := 12 + k) (by omega) (by decide)) dX4_whyNotLayer_70 rfl ?_
        refine k_st (st2 := (.int ((mSt n o h t s g kn lo lf nm) (12 + k)) :: _)) (congrArg (fun z => Value.int z :: _) (show (mSt n o h t s g kn lo lf nm) (nI (12 + k)).toNatClampNeg = (mSt n o h t s g kn lo lf nm) (12 + k) from congrArg (mSt n o h t s g kn lo lf nm) (nI_clamp (n := 12 + k) (by omega)))) ?_
        refine k_st (st2 := (.int (h k) :: _)) (congrArg (fun z => Value.int z :: _) (show (mSt n o h t s g kn lo lf nm) (12 + k) = h k from mSt_h (k := k) (by omega))) ?_
        refine k_iload_n (q := 72) C 1 dX4_whyNotLayer_71 rfl rfl ?_
        refine k_icmp_ne (tgt := 79) (q := 75) C dX4_whyNotLayer_72 (by decide) rfl ?_ ?_
        · intro c_72
          refine k_iconst (q := 80) (v := 0) C dX4_whyNotLayer_79 (by decide) rfl ?_
          refine k_istore_n (q := 81) (fr2 := [(3, .int 0), (0, .ref (a 0)), (1, .int x), (2, .int y), (4, .int (nI k))]) C dX4_whyNotLayer_80 (by decide) rfl rfl ?_
          refine k_iinc (q := 84) (v := nI (k + 1)) (fr2 := [(4, .int (nI (k + 1))), (3, .int 0), (0, .ref (a 0)), (1, .int x), (2, .int y)]) C 4 dX4_whyNotLayer_81 rfl (nI_add k 1) (by decide) rfl rfl ?_
          refine k_goto (q := 45) C dX4_whyNotLayer_84 (by decide) ?_
          refine k_fr (fr2 := [(0, .ref (a 0)), (1, .int x), (2, .int y), (3, .int 0), (4, .int (nI (k + 1)))]) ⟨[2, 3, 4, 1, 0], rfl⟩ ?_
          have K := ih (k + 1) (by omega) (by omega) hr
          first | rw [← bI_t (b := n = 6 ∨ sAny h x (k + 1) = true) (mW_t c_58)] at K | rw [← bI_t (b := n = 6 ∨ sAny h x (k + 1) = true) (mW_y c_72)] at K | rw [← bI_f (b := n = 6 ∨ sAny h x (k + 1) = true) (mW_f c_58 c_72)] at K
          exact K
        · intro c_72
          refine k_iconst (q := 76) (v := 1) C dX4_whyNotLayer_75 (by decide) rfl ?_
          refine k_goto (q := 80) C dX4_whyNotLayer_76 (by decide) ?_
          refine k_istore_n (q := 81) (fr2 := [(3, .int 1), (0, .ref (a 0)), (1, .int x), (2, .int y), (4, .int (nI k))]) C dX4_whyNotLayer_80 (by decide) rfl rfl ?_
          refine k_iinc (q := 84) (v := nI (k + 1)) (fr2 := [(4, .int (nI (k + 1))), (3, .int 1), (0, .ref (a 0)), (1, .int x), (2, .int y)]) C 4 dX4_whyNotLayer_81 rfl (nI_add k 1) (by decide) rfl rfl ?_
          refine k_goto (q := 45) C dX4_whyNotLayer_84 (by decide) ?_
          refine k_fr (fr2 := [(0, .ref (a 0)), (1, .int x), (2, .int y), (3, .int 1), (4, .int (nI (k + 1)))]) ⟨[2, 3, 4, 1, 0], rfl⟩ ?_
          have K := ih (k + 1) (by omega) (by omega) hr
          first | rw [← bI_t (b := n = 6 ∨ sAny h x (k + 1) = true) (mW_t c_58)] at K | rw [← bI_t (b := n = 6 ∨ sAny h x (k + 1) = true) (mW_y c_72)] at K | rw [← bI_f (b := n = 6 ∨ sAny h x (k + 1) = true) (mW_f c_58 c_72)] at K
          exact K
set_option maxHeartbeats 4000000 in
set_option maxRecDepth 100000 in
theorem c_X4_whyNotLayer (cy : Nat → ClassId) (a : Nat → Nat) (th : Int32) (sm : Nat) (ln : Nat) (pt : Nat) (sg : Nat) (fi : Int32) (se : Int32) (n : Nat) (o : Nat → Int32) (h : Nat → Int32) (t : Nat → Int32) (s : Nat → Int32) (g : Nat → Int32) (kn : Nat) (lo : Int32) (lf : Int32) (nm : Nat → Int32) (sv : Nat → Int32) (sl : Nat → Int32) (ik : Nat → Int32) (bf : Nat → Nat) (co : Nat → Int32) (go : Nat → Int32) (fo : Nat → Int32) (x : Int32) (y : Int32)  (hn : n ≤ 6) : kI yX4_whyNotLayer wsX4_whyNotLayer rm_X4_whyNotLayer cy [.ref (a 0), .int x, .int y] (wM a cy th sm ln pt sg fi se (mSt n o h t s g kn lo lf nm) sv sl ik bf co go fo) (mWhy n h x y) (wM a cy th sm ln pt sg fi se (mSt n o h t s g kn lo lf nm) sv sl ik bf co go fo) := by
  refine kI_of (cc := cX4_whyNotLayer) (maxL := 5) (rt := .int) (by decide) rfl (rfl) (Nat.le_of_ble_eq_true rfl) ?_
  intro X hR C E
  have C : kC X 5 RX4 cX4_whyNotLayer wsX4_whyNotLayer cy := C
  refine k_fr (fr2 := [(0, .ref (a 0)), (1, .int x), (2, .int y)]) ⟨[0, 1, 2], rfl⟩ ?_
  refine k_iload_n (q := 1) C 1 dX4_whyNotLayer_0 rfl rfl ?_
  refine k_bipush (q := 3) (v := 50) C dX4_whyNotLayer_1 (by decide +kernel) rfl ?_
  refine k_sipush (q := 6) (v := 3000) C dX4_whyNotLayer_3 (by decide +kernel) rfl ?_
  refine k_callSI (n := 3) (q := 9) (pre := ([] : va_W)) (post := (wM a cy th sm ln pt sg fi se (mSt n o h t s g kn lo lf nm) sv sl ik bf co go fo)) (w2 := (wM a cy th sm ln pt sg fi se (mSt n o h t s g kn lo lf nm) sv sl ik bf co go fo)) (As := [.int x, .int 50, .int 3000]) (rest := []) C (c_X4_within x 50 3000) gX4_whyNotLayer_X4_within rfl rfl rfl (by decide +kernel) (k_room hR (by decide)) ⟨Nat.zero_le _, Nat.zero_le _⟩  rfl rfl (Nat.le_of_ble_eq_true rfl) (rfl) (rfl) dX4_whyNotLayer_6 rfl ?_
  refine k_ifB_eq (tgt := 22) (q := 12) C dX4_whyNotLayer_9 (by decide) rfl ?_ ?_
  · intro c_9
    refine k_iconst (q := 23) (v := 1) C dX4_whyNotLayer_22 (by decide) rfl ?_
    exact k_fin E dX4_whyNotLayer_23 (by first | exact (if_pos (fun q => c_9 q.1)).symm | exact (if_pos (fun q => c_19 q.2)).symm) (rfl)
  · intro c_9
    refine k_iload_n (q := 13) C 2 dX4_whyNotLayer_12 rfl rfl ?_
    refine k_iconst (q := 14) (v := 1) C dX4_whyNotLayer_13 (by decide) rfl ?_
    refine k_bipush (q := 16) (v := 100) C dX4_whyNotLayer_14 (by decide +kernel) rfl ?_
    refine k_callSI (n := 3) (q := 19) (pre := ([] : va_W)) (post := (wM a cy th sm ln pt sg fi se (mSt n o h t s g kn lo lf nm) sv sl ik bf co go fo)) (w2 := (wM a cy th sm ln pt sg fi se (mSt n o h t s g kn lo lf nm) sv sl ik bf co go fo)) (As := [.int y, .int 1, .int 100]) (rest := []) C (c_X4_within y 1 100) gX4_whyNotLayer_X4_within rfl rfl rfl (by decide +kernel) (k_room hR (by decide)) ⟨Nat.zero_le _, Nat.zero_le _⟩  rfl rfl (Nat.le_of_ble_eq_true rfl) (rfl) (rfl) dX4_whyNotLayer_16 rfl ?_
    refine k_ifB_ne (tgt := 24) (q := 22) C dX4_whyNotLayer_19 (by decide) rfl ?_ ?_
    · intro c_19
      refine k_aload_n (q := 25) C 0 dX4_whyNotLayer_24 rfl rfl ?_
      refine k_get (q := 28) (ci := 4) (v := .ref (a 1)) C 0 1 in4_X4_whyNotLayer rfl (List.mem_of_getElem? (i := 1) rfl) rfl rfl (by decide) rfl dX4_whyNotLayer_25 rfl ?_
      refine k_bipush (q := 30) (v := 8) C dX4_whyNotLayer_28 (by decide +kernel) rfl ?_
      refine k_iald (q := 31) C 1 rfl (vp_in_nI (n := 8) (by decide) (by decide)) dX4_whyNotLayer_30 rfl ?_
      refine k_st (st2 := (.int ((mSt n o h t s g kn lo lf nm) 8) :: _)) (congrArg (fun z => Value.int z :: _) (show (mSt n o h t s g kn lo lf nm) (8 : Int32).toNatClampNeg = (mSt n o h t s g kn lo lf nm) 8 from congrArg (mSt n o h t s g kn lo lf nm) (nI_clamp (n := 8) (by decide)))) ?_
      refine k_st (st2 := (.int (nI n) :: _)) (congrArg (fun z => Value.int z :: _) (show (mSt n o h t s g kn lo lf nm) 8 = nI n from rfl)) ?_
      refine k_bipush (q := 33) (v := 6) C dX4_whyNotLayer_31 (by decide +kernel) rfl ?_
      refine k_nicmp_ne (a := n) (b := 6)  (tgt := 40) (q := 36) C dX4_whyNotLayer_33 (by decide) rfl (by omega) (by decide) ?_ ?_
      · intro c_33
        refine k_iconst (q := 41) (v := 0) C dX4_whyNotLayer_40 (by decide) rfl ?_
        refine k_istore_n (q := 42) (fr2 := [(3, .int 0), (0, .ref (a 0)), (1, .int x), (2, .int y)]) C dX4_whyNotLayer_41 (by decide) rfl rfl ?_
        refine k_iconst (q := 43) (v := 0) C dX4_whyNotLayer_42 (by decide) rfl ?_
        refine k_istore (q := 45) (fr2 := [(4, .int 0), (3, .int 0), (0, .ref (a 0)), (1, .int x), (2, .int y)]) C dX4_whyNotLayer_43 (by decide) rfl rfl ?_
        refine k_fr (fr2 := [(0, .ref (a 0)), (1, .int x), (2, .int y), (3, .int 0), (4, .int 0)]) ⟨[2, 3, 4, 1, 0], rfl⟩ ?_
        have K := lp_X4_whyNotLayer_45 cy a th sm ln pt sg fi se n o h t s g kn lo lf nm sv sl ik bf co go fo x y hn X hR C E _ 0 (Nat.lt_succ_self _) (by omega) ⟨c_9, c_19⟩
        rw [← bI_f (b := n = 6 ∨ sAny h x 0 = true) (fun q => q.elim c_33 (fun z => by cases z))] at K
        exact K
      · intro c_33
        refine k_iconst (q := 37) (v := 1) C dX4_whyNotLayer_36 (by decide) rfl ?_
        refine k_goto (q := 41) C dX4_whyNotLayer_37 (by decide) ?_
        refine k_istore_n (q := 42) (fr2 := [(3, .int 1), (0, .ref (a 0)), (1, .int x), (2, .int y)]) C dX4_whyNotLayer_41 (by decide) rfl rfl ?_
        refine k_iconst (q := 43) (v := 0) C dX4_whyNotLayer_42 (by decide) rfl ?_
        refine k_istore (q := 45) (fr2 := [(4, .int 0), (3, .int 1), (0, .ref (a 0)), (1, .int x), (2, .int y)]) C dX4_whyNotLayer_43 (by decide) rfl rfl ?_
        refine k_fr (fr2 := [(0, .ref (a 0)), (1, .int x), (2, .int y), (3, .int 1), (4, .int 0)]) ⟨[2, 3, 4, 1, 0], rfl⟩ ?_
        have K := lp_X4_whyNotLayer_45 cy a th sm ln pt sg fi se n o h t s g kn lo lf nm sv sl ik bf co go fo x y hn X hR C E _ 0 (Nat.lt_succ_self _) (by omega) ⟨c_9, c_19⟩
        rw [← bI_t (b := n = 6 ∨ sAny h x 0 = true) (Or.inl c_33)] at K
        exact K
    · intro c_19
      refine k_iconst (q := 23) (v := 1) C dX4_whyNotLayer_22 (by decide) rfl ?_
      exact k_fin E dX4_whyNotLayer_23 (by first | exact (if_pos (fun q => c_9 q.1)).symm | exact (if_pos (fun q => c_19 q.2)).symm) (rfl)
abbrev rm_X4_addLayer : Room := { frames := 0, cells := 0, slots := 0, locals := 0 }
theorem in4_X4_addLayer : ∀ w ∈ wsX40, w ∈ wsX4_addLayer := fun _ h => (List.mem_cons_of_mem _ (List.mem_append_right _ h))
set_option maxHeartbeats 4000000 in
set_option maxRecDepth 100000 in
theorem lp_X4_addLayer_8 (cy : Nat → ClassId) (a : Nat → Nat) (th : Int32) (sm : Nat) (ln : Nat) (pt : Nat) (sg : Nat) (fi : Int32) (se : Int32) (n : Nat) (o : Nat → Int32) (h : Nat → Int32) (t : Nat → Int32) (s : Nat → Int32) (g : Nat → Int32) (kn : Nat) (lo : Int32) (lf : Int32) (nm : Nat → Int32) (sv : Nat → Int32) (sl : Nat → Int32) (ik : Nat → Int32) (bf : Nat → Nat) (co : Nat → Int32) (go : Nat → Int32) (fo : Nat → Int32) (x : Int32) (y : Int32)  (hn : n < 6) (X : kX) (hR : xR X = rm_X4_addLayer) (C : kC X 4 RX4 cX4_addLayer wsX4_addLayer cy) (E : kEnd X 4 cX4_addLayer (nI (sPos h x n)) (wM a cy th sm ln pt sg fi se (mSt (n + 1) o (sIns h n (sPos h x n) x) (sIns t n (sPos h x n) y) s g kn lo lf nm) sv sl ik bf co go fo)) : ∀ (fu : Nat) (k : Nat), k < fu → (k ≤ n) → (sPos h x k = sPos h x n) → kG X 4 0 0 (wM a cy th sm ln pt sg fi se (mSt n o (sUp h n k) (sUp t n k) s g kn lo lf nm) sv sl ik bf co go fo) 8 [(0, .ref (a 0)), (1, .int x), (2, .int y), (3, .int (nI k))] [] := by
  intro fu
  induction fu with
  | zero => intro k hfu; exact absurd hfu (Nat.not_lt_zero _)
  | succ fu ih =>
    intro k hfu hk hp
    refine k_iload_n (q := 9) C 3 dX4_addLayer_8 rfl rfl ?_
    refine k_nif_le (a := k)  (tgt := 73) (q := 12) C dX4_addLayer_9 (by decide) rfl (by omega) ?_ ?_
    · intro c_9
      have hpos : k = sPos h x n := by first | (rw [← hp]; exact (sPos_n c_24).symm) | (rw [← hp, c_9]; rfl)
      refine k_aload_n (q := 74) C 0 dX4_addLayer_73 rfl rfl ?_
      refine k_get (q := 77) (ci := 4) (v := .ref (a 1)) C 0 1 in4_X4_addLayer rfl (List.mem_of_getElem? (i := 1) rfl) rfl rfl (by decide) rfl dX4_addLayer_74 rfl ?_
      refine k_bipush (q := 79) (v := 12) C dX4_addLayer_77 (by decide +kernel) rfl ?_
      refine k_iload_n (q := 80) C 3 dX4_addLayer_79 rfl rfl ?_
      refine k_iadd (q := 81) C dX4_addLayer_80 rfl ?_
      refine k_st (st2 := (.int (nI (12 + k)) :: _)) (congrArg (fun z => Value.int z :: _) (show 12 + (nI k) = nI (12 + k) from nI_add 12 k)) ?_
      refine k_iload_n (q := 82) C 1 dX4_addLayer_81 rfl rfl ?_
      refine k_iast (q := 83) (w2 := (wM a cy th sm ln pt sg fi se (mSt n o (upd (sUp h n k) k x) (sUp t n k) s g kn lo lf nm) sv sl ik bf co go fo)) C 1 rfl (vp_in_nI (n := 12 + k) (by omega) (by decide)) (by rw [nI_clamp (n := 12 + k) (by omega)]; exact wM_st (mSt_wh (k := k) (by omega))) dX4_addLayer_82 rfl ?_
      refine k_aload_n (q := 84) C 0 dX4_addLayer_83 rfl rfl ?_
      refine k_get (q := 87) (ci := 4) (v := .ref (a 1)) C 0 1 in4_X4_addLayer rfl (List.mem_of_getElem? (i := 1) rfl) rfl rfl (by decide) rfl dX4_addLayer_84 rfl ?_
      refine k_bipush (q := 89) (v := 18) C dX4_addLayer_87 (by decide +kernel) rfl ?_
      refine k_iload_n (q := 90) C 3 dX4_addLayer_89 rfl rfl ?_
      refine k_iadd (q := 91) C dX4_addLayer_90 rfl ?_
      refine k_st (st2 := (.int (nI (18 + k)) :: _)) (congrArg (fun z => Value.int z :: _) (show 18 + (nI k) = nI (18 + k) from nI_add 18 k)) ?_
      refine k_iload_n (q := 92) C 2 dX4_addLayer_91 rfl rfl ?_
      refine k_iast (q := 93) (w2 := (wM a cy th sm ln pt sg fi se (mSt n o (upd (sUp h n k) k x) (upd (sUp t n k) k y) s g kn lo lf nm) sv sl ik bf co go fo)) C 1 rfl (vp_in_nI (n := 18 + k) (by omega) (by decide)) (by rw [nI_clamp (n := 18 + k) (by omega)]; exact wM_st (mSt_wt (k := k) (by omega))) dX4_addLayer_92 rfl ?_
      refine k_aload_n (q := 94) C 0 dX4_addLayer_93 rfl rfl ?_
      refine k_get (q := 97) (ci := 4) (v := .ref (a 1)) C 0 1 in4_X4_addLayer rfl (List.mem_of_getElem? (i := 1) rfl) rfl rfl (by decide) rfl dX4_addLayer_94 rfl ?_
      refine k_bipush (q := 99) (v := 8) C dX4_addLayer_97 (by decide +kernel) rfl ?_
      refine k_dup2 (q := 100) C dX4_addLayer_99 rfl rfl rfl ?_
      refine k_iald (q := 101) C 1 rfl (vp_in_nI (n := 8) (by decide) (by decide)) dX4_addLayer_100 rfl ?_
      refine k_st (st2 := (.int ((mSt n o (upd (sUp h n k) k x) (upd (sUp t n k) k y) s g kn lo lf nm) 8) :: _)) (congrArg (fun z => Value.int z :: _) (show (mSt n o (upd (sUp h n k) k x) (upd (sUp t n k) k y) s g kn lo lf nm) (8 : Int32).toNatClampNeg = (mSt n o (upd (sUp h n k) k x) (upd (sUp t n k) k y) s g kn lo lf nm) 8 from congrArg (mSt n o (upd (sUp h n k) k x) (upd (sUp t n k) k y) s g kn lo lf nm) (nI_clamp (n := 8) (by decide)))) ?_
      refine k_st (st2 := (.int (nI n) :: _)) (congrArg (fun z => Value.int z :: _) (show (mSt n o (upd (sUp h n k) k x) (upd (sUp t n k) k y) s g kn lo lf nm) 8 = nI n from rfl)) ?_
      refine k_iconst (q := 102) (v := 1) C dX4_addLayer_101 (by decide) rfl ?_
      refine k_iadd (q := 103) C dX4_addLayer_102 rfl ?_
      refine k_st (st2 := (.int (nI (n + 1)) :: _)) (congrArg (fun z => Value.int z :: _) (show (nI n) + 1 = nI (n + 1) from nI_add n 1)) ?_
      refine k_iast (q := 104) (w2 := (wM a cy th sm ln pt sg fi se (mSt (n + 1) o (upd (sUp h n k) k x) (upd (sUp t n k) k y) s g kn lo lf nm) sv sl ik bf co go fo)) C 1 rfl (vp_in_nI (n := 8) (by decide) (by decide)) (by exact wM_st (mSt_w8 (n + 1))) dX4_addLayer_103 rfl ?_
      refine k_iload_n (q := 105) C 3 dX4_addLayer_104 rfl rfl ?_
      exact k_fin E dX4_addLayer_105 (by rw [hpos]) (by rw [← hpos]; rfl)
    · intro c_9
      refine k_aload_n (q := 13) C 0 dX4_addLayer_12 rfl rfl ?_
      refine k_get (q := 16) (ci := 4) (v := .ref (a 1)) C 0 1 in4_X4_addLayer rfl (List.mem_of_getElem? (i := 1) rfl) rfl rfl (by decide) rfl dX4_addLayer_13 rfl ?_
      refine k_bipush (q := 18) (v := 12) C dX4_addLayer_16 (by decide +kernel) rfl ?_
      refine k_iload_n (q := 19) C 3 dX4_addLayer_18 rfl rfl ?_
      refine k_iadd (q := 20) C dX4_addLayer_19 rfl ?_
      refine k_st (st2 := (.int (nI (12 + k)) :: _)) (congrArg (fun z => Value.int z :: _) (show 12 + (nI k) = nI (12 + k) from nI_add 12 k)) ?_
      refine k_iconst (q := 21) (v := 1) C dX4_addLayer_20 (by decide) rfl ?_
      refine k_isub (q := 22) C dX4_addLayer_21 rfl ?_
      refine k_st (st2 := (.int (nI (12 + k - 1)) :: _)) (congrArg (fun z => Value.int z :: _) (show (nI (12 + k)) - 1 = nI (12 + k - 1) from pk_sub (a := 12 + k) (b := 1) (by omega))) ?_
      refine k_st (st2 := (.int (nI (12 + (k - 1))) :: _)) (congrArg (fun z => Value.int z :: _) (show nI (12 + k - 1) = nI (12 + (k - 1)) from congrArg nI (by omega))) ?_
      refine k_iald (q := 23) C 1 rfl (vp_in_nI (n := 12 + (k - 1)) (by omega) (by decide)) dX4_addLayer_22 rfl ?_
      refine k_st (st2 := (.int ((mSt n o (sUp h n k) (sUp t n k) s g kn lo lf nm) (12 + (k - 1))) :: _)) (congrArg (fun z => Value.int z :: _) (show (mSt n o (sUp h n k) (sUp t n k) s g kn lo lf nm) (nI (12 + (k - 1))).toNatClampNeg = (mSt n o (sUp h n k) (sUp t n k) s g kn lo lf nm) (12 + (k - 1)) from congrArg (mSt n o (sUp h n k) (sUp t n k) s g kn lo lf nm) (nI_clamp (n := 12 + (k - 1)) (by omega)))) ?_
      refine k_st (st2 := (.int ((sUp h n k) (k - 1)) :: _)) (congrArg (fun z => Value.int z :: _) (show (mSt n o (sUp h n k) (sUp t n k) s g kn lo lf nm) (12 + (k - 1)) = (sUp h n k) (k - 1) from mSt_h (k := (k - 1)) (by omega))) ?_
      refine k_st (st2 := (.int (h (k - 1)) :: _)) (congrArg (fun z => Value.int z :: _) (show (sUp h n k) (k - 1) = h (k - 1) from sUp_p c_9)) ?_
      refine k_iload_n (q := 24) C 1 dX4_addLayer_23 rfl rfl ?_
      refine k_icmp_le (tgt := 73) (q := 27) C dX4_addLayer_24 (by decide) rfl ?_ ?_
      · intro c_24
        have hpos : k = sPos h x n := by first | (rw [← hp]; exact (sPos_n c_24).symm) | (rw [← hp, c_9]; rfl)
        refine k_aload_n (q := 74) C 0 dX4_addLayer_73 rfl rfl ?_
        refine k_get (q := 77) (ci := 4) (v := .ref (a 1)) C 0 1 in4_X4_addLayer rfl (List.mem_of_getElem? (i := 1) rfl) rfl rfl (by decide) rfl dX4_addLayer_74 rfl ?_
        refine k_bipush (q := 79) (v := 12) C dX4_addLayer_77 (by decide +kernel) rfl ?_
        refine k_iload_n (q := 80) C 3 dX4_addLayer_79 rfl rfl ?_
        refine k_iadd (q := 81) C dX4_addLayer_80 rfl ?_
        refine k_st (st2 := (.int (nI (12 + k)) :: _)) (congrArg (fun z => Value.int z :: _) (show 12 + (nI k) = nI (12 + k) from nI_add 12 k)) ?_
        refine k_iload_n (q := 82) C 1 dX4_addLayer_81 rfl rfl ?_
        refine k_iast (q := 83) (w2 := (wM a cy th sm ln pt sg fi se (mSt n o (upd (sUp h n k) k x) (sUp t n k) s g kn lo lf nm) sv sl ik bf co go fo)) C 1 rfl (vp_in_nI (n := 12 + k) (by omega) (by decide)) (by rw [nI_clamp (n := 12 + k) (by omega)]; exact wM_st (mSt_wh (k := k) (by omega))) dX4_addLayer_82 rfl ?_
        refine k_aload_n (q := 84) C 0 dX4_addLayer_83 rfl rfl ?_
        refine k_get (q := 87) (ci := 4) (v := .ref (a 1)) C 0 1 in4_X4_addLayer rfl (List.mem_of_getElem? (i := 1) rfl) rfl rfl (by decide) rfl dX4_addLayer_84 rfl ?_
        refine k_bipush (q := 89) (v := 18) C dX4_addLayer_87 (by decide +kernel) rfl ?_
        refine k_iload_n (q := 90) C 3 dX4_addLayer_89 rfl rfl ?_
        refine k_iadd (q := 91) C dX4_addLayer_90 rfl ?_
        refine k_st (st2 := (.int (nI (18 + k)) :: _)) (congrArg (fun z => Value.int z :: _) (show 18 + (nI k) = nI (18 + k) from nI_add 18 k)) ?_
        refine k_iload_n (q := 92) C 2 dX4_addLayer_91 rfl rfl ?_
        refine k_iast (q := 93) (w2 := (wM a cy th sm ln pt sg fi se (mSt n o (upd (sUp h n k) k x) (upd (sUp t n k) k y) s g kn lo lf nm) sv sl ik bf co go fo)) C 1 rfl (vp_in_nI (n := 18 + k) (by omega) (by decide)) (by rw [nI_clamp (n := 18 + k) (by omega)]; exact wM_st (mSt_wt (k := k) (by omega))) dX4_addLayer_92 rfl ?_
        refine k_aload_n (q := 94) C 0 dX4_addLayer_93 rfl rfl ?_
        refine k_get (q := 97) (ci := 4) (v := .ref (a 1)) C 0 1 in4_X4_addLayer rfl (List.mem_of_getElem? (i := 1) rfl) rfl rfl (by decide) rfl dX4_addLayer_94 rfl ?_
        refine k_bipush (q := 99) (v := 8) C dX4_addLayer_97 (by decide +kernel) rfl ?_
        refine k_dup2 (q := 100) C dX4_addLayer_99 rfl rfl rfl ?_
        refine k_iald (q := 101) C 1 rfl (vp_in_nI (n := 8) (by decide) (by decide)) dX4_addLayer_100 rfl ?_
        refine k_st (st2 := (.int ((mSt n o (upd (sUp h n k) k x) (upd (sUp t n k) k y) s g kn lo lf nm) 8) :: _)) (congrArg (fun z => Value.int z :: _) (show (mSt n o (upd (sUp h n k) k x) (upd (sUp t n k) k y) s g kn lo lf nm) (8 : Int32).toNatClampNeg = (mSt n o (upd (sUp h n k) k x) (upd (sUp t n k) k y) s g kn lo lf nm) 8 from congrArg (mSt n o (upd (sUp h n k) k x) (upd (sUp t n k) k y) s g kn lo lf nm) (nI_clamp (n := 8) (by decide)))) ?_
        refine k_st (st2 := (.int (nI n) :: _)) (congrArg (fun z => Value.int z :: _) (show (mSt n o (upd (sUp h n k) k x) (upd (sUp t n k) k y) s g kn lo lf nm) 8 = nI n from rfl)) ?_
        refine k_iconst (q := 102) (v := 1) C dX4_addLayer_101 (by decide) rfl ?_
        refine k_iadd (q := 103) C dX4_addLayer_102 rfl ?_
        refine k_st (st2 := (.int (nI (n + 1)) :: _)) (congrArg (fun z => Value.int z :: _) (show (nI n) + 1 = nI (n + 1) from nI_add n 1)) ?_
        refine k_iast (q := 104) (w2 := (wM a cy th sm ln pt sg fi se (mSt (n + 1) o (upd (sUp h n k) k x) (upd (sUp t n k) k y) s g kn lo lf nm) sv sl ik bf co go fo)) C 1 rfl (vp_in_nI (n := 8) (by decide) (by decide)) (by exact wM_st (mSt_w8 (n + 1))) dX4_addLayer_103 rfl ?_
        refine k_iload_n (q := 105) C 3 dX4_addLayer_104 rfl rfl ?_
        exact k_fin E dX4_addLayer_105 (by rw [hpos]) (by rw [← hpos]; rfl)
      · intro c_24
        refine k_aload_n (q := 28) C 0 dX4_addLayer_27 rfl rfl ?_
        refine k_get (q := 31) (ci := 4) (v := .ref (a 1)) C 0 1 in4_X4_addLayer rfl (List.mem_of_getElem? (i := 1) rfl) rfl rfl (by decide) rfl dX4_addLayer_28 rfl ?_
        refine k_bipush (q := 33) (v := 12) C dX4_addLayer_31 (by decide +kernel) rfl ?_
        refine k_iload_n (q := 34) C 3 dX4_addLayer_33 rfl rfl ?_
        refine k_iadd (q := 35) C dX4_addLayer_34 rfl ?_
        refine k_st (st2 := (.int (nI (12 + k)) :: _)) (congrArg (fun z => Value.int z :: _) (show 12 + (nI k) = nI (12 + k) from nI_add 12 k)) ?_
        refine k_aload_n (q := 36) C 0 dX4_addLayer_35 rfl rfl ?_
        refine k_get (q := 39) (ci := 4) (v := .ref (a 1)) C 0 1 in4_X4_addLayer rfl (List.mem_of_getElem? (i := 1) rfl) rfl rfl (by decide) rfl dX4_addLayer_36 rfl ?_
        refine k_bipush (q := 41) (v := 12) C dX4_addLayer_39 (by decide +kernel) rfl ?_
        refine k_iload_n (q := 42) C 3 dX4_addLayer_41 rfl rfl ?_
        refine k_iadd (q := 43) C dX4_addLayer_42 rfl ?_
        refine k_st (st2 := (.int (nI (12 + k)) :: _)) (congrArg (fun z => Value.int z :: _) (show 12 + (nI k) = nI (12 + k) from nI_add 12 k)) ?_
        refine k_iconst (q := 44) (v := 1) C dX4_addLayer_43 (by decide) rfl ?_
        refine k_isub (q := 45) C dX4_addLayer_44 rfl ?_
        refine k_st (st2 := (.int (nI (12 + k - 1)) :: _)) (congrArg (fun z => Value.int z :: _) (show (nI (12 + k)) - 1 = nI (12 + k - 1) from pk_sub (a := 12 + k) (b := 1) (by omega))) ?_
        refine k_st (st2 := (.int (nI (12 + (k - 1))) :: _)) (congrArg (fun z => Value.int z :: _) (show nI (12 + k - 1) = nI (12 + (k - 1)) from congrArg nI (by omega))) ?_
        refine k_iald (q := 46) C 1 rfl (vp_in_nI (n := 12 + (k - 1)) (by omega) (by decide)) dX4_addLayer_45 rfl ?_
        refine k_st (st2 := (.int ((mSt n o (sUp h n k) (sUp t n k) s g kn lo lf nm) (12 + (k - 1))) :: _)) (congrArg (fun z => Value.int z :: _) (show (mSt n o (sUp h n k) (sUp t n k) s g kn lo lf nm) (nI (12 + (k - 1))).toNatClampNeg = (mSt n o (sUp h n k) (sUp t n k) s g kn lo lf nm) (12 + (k - 1)) from congrArg (mSt n o (sUp h n k) (sUp t n k) s g kn lo lf nm) (nI_clamp (n := 12 + (k - 1)) (by omega)))) ?_
        refine k_st (st2 := (.int ((sUp h n k) (k - 1)) :: _)) (congrArg (fun z => Value.int z :: _) (show (mSt n o (sUp h n k) (sUp t n k) s g kn lo lf nm) (12 + (k - 1)) = (sUp h n k) (k - 1) from mSt_h (k := (k - 1)) (by omega))) ?_
        refine k_st (st2 := (.int (h (k - 1)) :: _)) (congrArg (fun z => Value.int z :: _) (show (sUp h n k) (k - 1) = h (k - 1) from sUp_p c_9)) ?_
        refine k_iast (q := 47) (w2 := (wM a cy th sm ln pt sg fi se (mSt n o (upd (sUp h n k) k (h (k - 1))) (sUp t n k) s g kn lo lf nm) sv sl ik bf co go fo)) C 1 rfl (vp_in_nI (n := 12 + k) (by omega) (by decide)) (by rw [nI_clamp (n := 12 + k) (by omega)]; exact wM_st (mSt_wh (k := k) (by omega))) dX4_addLayer_46 rfl ?_
        refine k_w (w2 := (wM a cy th sm ln pt sg fi se (mSt n o (sUp h n (k - 1)) (sUp t n k) s g kn lo lf nm) sv sl ik bf co go fo)) (by rw [sUp_d c_9 hk]) ?_
        refine k_aload_n (q := 48) C 0 dX4_addLayer_47 rfl rfl ?_
        refine k_get (q := 51) (ci := 4) (v := .ref (a 1)) C 0 1 in4_X4_addLayer rfl (List.mem_of_getElem? (i := 1) rfl) rfl rfl (by decide) rfl dX4_addLayer_48 rfl ?_
        refine k_bipush (q := 53) (v := 18) C dX4_addLayer_51 (by decide +kernel) rfl ?_
        refine k_iload_n (q := 54) C 3 dX4_addLayer_53 rfl rfl ?_
        refine k_iadd (q := 55) C dX4_addLayer_54 rfl ?_
        refine k_st (st2 := (.int (nI (18 + k)) :: _)) (congrArg (fun z => Value.int z :: _) (show 18 + (nI k) = nI (18 + k) from nI_add 18 k)) ?_
        refine k_aload_n (q := 56) C 0 dX4_addLayer_55 rfl rfl ?_
        refine k_get (q := 59) (ci := 4) (v := .ref (a 1)) C 0 1 in4_X4_addLayer rfl (List.mem_of_getElem? (i := 1) rfl) rfl rfl (by decide) rfl dX4_addLayer_56 rfl ?_
        refine k_bipush (q := 61) (v := 18) C dX4_addLayer_59 (by decide +kernel) rfl ?_
        refine k_iload_n (q := 62) C 3 dX4_addLayer_61 rfl rfl ?_
        refine k_iadd (q := 63) C dX4_addLayer_62 rfl ?_
        refine k_st (st2 := (.int (nI (18 + k)) :: _)) (congrArg (fun z => Value.int z :: _) (show 18 + (nI k) = nI (18 + k) from nI_add 18 k)) ?_
        refine k_iconst (q := 64) (v := 1) C dX4_addLayer_63 (by decide) rfl ?_
        refine k_isub (q := 65) C dX4_addLayer_64 rfl ?_
        refine k_st (st2 := (.int (nI (18 + k - 1)) :: _)) (congrArg (fun z => Value.int z :: _) (show (nI (18 + k)) - 1 = nI (18 + k - 1) from pk_sub (a := 18 + k) (b := 1) (by omega))) ?_
        refine k_st (st2 := (.int (nI (18 + (k - 1))) :: _)) (congrArg (fun z => Value.int z :: _) (show nI (18 + k - 1) = nI (18 + (k - 1)) from congrArg nI (by omega))) ?_
        refine k_iald (q := 66) C 1 rfl (vp_in_nI (n := 18 + (k - 1)) (by omega) (by decide)) dX4_addLayer_65 rfl ?_
        refine k_st (st2 := (.int ((mSt n o (sUp h n (k - 1)) (sUp t n k) s g kn lo lf nm) (18 + (k - 1))) :: _)) (congrArg (fun z => Value.int z :: _) (show (mSt n o (sUp h n (k - 1)) (sUp t n k) s g kn lo lf nm) (nI (18 + (k - 1))).toNatClampNeg = (mSt n o (sUp h n (k - 1)) (sUp t n k) s g kn lo lf nm) (18 + (k - 1)) from congrArg (mSt n o (sUp h n (k - 1)) (sUp t n k) s g kn lo lf nm) (nI_clamp (n := 18 + (k - 1)) (by omega)))) ?_
        refine k_st (st2 := (.int ((sUp t n k) (k - 1)) :: _)) (congrArg (fun z => Value.int z :: _) (show (mSt n o (sUp h n (k - 1)) (sUp t n k) s g kn lo lf nm) (18 + (k - 1)) = (sUp t n k) (k - 1) from mSt_t (k := (k - 1)) (by omega))) ?_
        refine k_st (st2 := (.int (t (k - 1)) :: _)) (congrArg (fun z => Value.int z :: _) (show (sUp t n k) (k - 1) = t (k - 1) from sUp_p c_9)) ?_
        refine k_iast (q := 67) (w2 := (wM a cy th sm ln pt sg fi se (mSt n o (sUp h n (k - 1)) (upd (sUp t n k) k (t (k - 1))) s g kn lo lf nm) sv sl ik bf co go fo)) C 1 rfl (vp_in_nI (n := 18 + k) (by omega) (by decide)) (by rw [nI_clamp (n := 18 + k) (by omega)]; exact wM_st (mSt_wt (k := k) (by omega))) dX4_addLayer_66 rfl ?_
        refine k_w (w2 := (wM a cy th sm ln pt sg fi se (mSt n o (sUp h n (k - 1)) (sUp t n (k - 1)) s g kn lo lf nm) sv sl ik bf co go fo)) (by rw [sUp_d c_9 hk]) ?_
        refine k_iinc (q := 70) (v := nI (k - 1)) (fr2 := [(3, .int (nI (k - 1))), (0, .ref (a 0)), (1, .int x), (2, .int y)]) C 3 dX4_addLayer_67 rfl ((by rw [show (Int32.ofInt (-1)) = -1 from by decide +kernel, ← Int32.sub_eq_add_neg]; exact pk_sub (a := k) (b := 1) (by omega))) (by decide) rfl rfl ?_
        refine k_goto (q := 8) C dX4_addLayer_70 (by decide) ?_
        refine k_fr (fr2 := [(0, .ref (a 0)), (1, .int x), (2, .int y), (3, .int (nI (k - 1)))]) ⟨[1, 2, 3, 0], rfl⟩ ?_
        exact ih (k - 1) (by omega) (by omega) (by rw [← hp]; exact (sPos_y c_9 (Int32.not_le.mp c_24)).symm)
set_option maxHeartbeats 4000000 in
set_option maxRecDepth 100000 in
theorem c_X4_addLayer (cy : Nat → ClassId) (a : Nat → Nat) (th : Int32) (sm : Nat) (ln : Nat) (pt : Nat) (sg : Nat) (fi : Int32) (se : Int32) (n : Nat) (o : Nat → Int32) (h : Nat → Int32) (t : Nat → Int32) (s : Nat → Int32) (g : Nat → Int32) (kn : Nat) (lo : Int32) (lf : Int32) (nm : Nat → Int32) (sv : Nat → Int32) (sl : Nat → Int32) (ik : Nat → Int32) (bf : Nat → Nat) (co : Nat → Int32) (go : Nat → Int32) (fo : Nat → Int32) (x : Int32) (y : Int32)  (hn : n < 6) : kI yX4_addLayer wsX4_addLayer rm_X4_addLayer cy [.ref (a 0), .int x, .int y] (wM a cy th sm ln pt sg fi se (mSt n o h t s g kn lo lf nm) sv sl ik bf co go fo) (nI (sPos h x n)) (wM a cy th sm ln pt sg fi se (mSt (n + 1) o (sIns h n (sPos h x n) x) (sIns t n (sPos h x n) y) s g kn lo lf nm) sv sl ik bf co go fo) := by
  refine kI_of (cc := cX4_addLayer) (maxL := 4) (rt := .int) (by decide) rfl (rfl) (Nat.le_of_ble_eq_true rfl) ?_
  intro X hR C E
  have C : kC X 4 RX4 cX4_addLayer wsX4_addLayer cy := C
  refine k_fr (fr2 := [(0, .ref (a 0)), (1, .int x), (2, .int y)]) ⟨[0, 1, 2], rfl⟩ ?_
  refine k_aload_n (q := 1) C 0 dX4_addLayer_0 rfl rfl ?_
  refine k_get (q := 4) (ci := 4) (v := .ref (a 1)) C 0 1 in4_X4_addLayer rfl (List.mem_of_getElem? (i := 1) rfl) rfl rfl (by decide) rfl dX4_addLayer_1 rfl ?_
  refine k_bipush (q := 6) (v := 8) C dX4_addLayer_4 (by decide +kernel) rfl ?_
  refine k_iald (q := 7) C 1 rfl (vp_in_nI (n := 8) (by decide) (by decide)) dX4_addLayer_6 rfl ?_
  refine k_st (st2 := (.int ((mSt n o h t s g kn lo lf nm) 8) :: _)) (congrArg (fun z => Value.int z :: _) (show (mSt n o h t s g kn lo lf nm) (8 : Int32).toNatClampNeg = (mSt n o h t s g kn lo lf nm) 8 from congrArg (mSt n o h t s g kn lo lf nm) (nI_clamp (n := 8) (by decide)))) ?_
  refine k_st (st2 := (.int (nI n) :: _)) (congrArg (fun z => Value.int z :: _) (show (mSt n o h t s g kn lo lf nm) 8 = nI n from rfl)) ?_
  refine k_istore_n (q := 8) (fr2 := [(3, .int (nI n)), (0, .ref (a 0)), (1, .int x), (2, .int y)]) C dX4_addLayer_7 (by decide) rfl rfl ?_
  refine k_fr (fr2 := [(0, .ref (a 0)), (1, .int x), (2, .int y), (3, .int (nI n))]) ⟨[1, 2, 3, 0], rfl⟩ ?_
  have K := lp_X4_addLayer_8 cy a th sm ln pt sg fi se n o h t s g kn lo lf nm sv sl ik bf co go fo x y hn X hR C E _ n (Nat.lt_succ_self _) (Nat.le_refl _) rfl
  rw [sUp_0, sUp_0] at K
  exact K
abbrev rm_X4_dropLayer : Room := { frames := 0, cells := 0, slots := 0, locals := 0 }
theorem in4_X4_dropLayer : ∀ w ∈ wsX40, w ∈ wsX4_dropLayer := fun _ h => (List.mem_cons_of_mem _ (List.mem_append_right _ h))
set_option maxHeartbeats 4000000 in
set_option maxRecDepth 100000 in
theorem lp_X4_dropLayer_23 (cy : Nat → ClassId) (a : Nat → Nat) (th : Int32) (sm : Nat) (ln : Nat) (pt : Nat) (sg : Nat) (fi : Int32) (se : Int32) (n : Nat) (o : Nat → Int32) (h : Nat → Int32) (t : Nat → Int32) (s : Nat → Int32) (g : Nat → Int32) (kn : Nat) (lo : Int32) (lf : Int32) (nm : Nat → Int32) (sv : Nat → Int32) (sl : Nat → Int32) (ik : Nat → Int32) (bf : Nat → Nat) (co : Nat → Int32) (go : Nat → Int32) (fo : Nat → Int32) (p : Nat)  (hn : n ≤ 6) (hp : p < n) (X : kX) (hR : xR X = rm_X4_dropLayer) (C : kC X 4 RX4 cX4_dropLayer wsX4_dropLayer cy) (E : kEnd X 4 cX4_dropLayer (h p) (wM a cy th sm ln pt sg fi se (mSt (n - 1) o (sDn h p n) (sDn t p n) s g kn lo lf nm) sv sl ik bf co go fo)) : ∀ (fu : Nat) (k : Nat), n - k < fu → (k ≤ n - 1) → (p ≤ k) → kG X 4 0 0 (wM a cy th sm ln pt sg fi se (mSt (n - 1) o (sDn h p (k + 1)) (sDn t p (k + 1)) s g kn lo lf nm) sv sl ik bf co go fo) 23 [(0, .ref (a 0)), (1, .int (nI p)), (2, .int (h p)), (3, .int (nI k))] [] := by
  intro fu
  induction fu with
  | zero => intro k hfu; exact absurd hfu (Nat.not_lt_zero _)
  | succ fu ih =>
    intro k hfu hk hpk
    refine k_iload_n (q := 24) C 3 dX4_dropLayer_23 rfl rfl ?_
    refine k_aload_n (q := 25) C 0 dX4_dropLayer_24 rfl rfl ?_
    refine k_get (q := 28) (ci := 4) (v := .ref (a 1)) C 0 1 in4_X4_dropLayer rfl (List.mem_of_getElem? (i := 1) rfl) rfl rfl (by decide) rfl dX4_dropLayer_25 rfl ?_
    refine k_bipush (q := 30) (v := 8) C dX4_dropLayer_28 (by decide +kernel) rfl ?_
    refine k_iald (q := 31) C 1 rfl (vp_in_nI (n := 8) (by decide) (by decide)) dX4_dropLayer_30 rfl ?_
    refine k_st (st2 := (.int ((mSt (n - 1) o (sDn h p (k + 1)) (sDn t p (k + 1)) s g kn lo lf nm) 8) :: _)) (congrArg (fun z => Value.int z :: _) (show (mSt (n - 1) o (sDn h p (k + 1)) (sDn t p (k + 1)) s g kn lo lf nm) (8 : Int32).toNatClampNeg = (mSt (n - 1) o (sDn h p (k + 1)) (sDn t p (k + 1)) s g kn lo lf nm) 8 from congrArg (mSt (n - 1) o (sDn h p (k + 1)) (sDn t p (k + 1)) s g kn lo lf nm) (nI_clamp (n := 8) (by decide)))) ?_
    refine k_st (st2 := (.int (nI (n - 1)) :: _)) (congrArg (fun z => Value.int z :: _) (show (mSt (n - 1) o (sDn h p (k + 1)) (sDn t p (k + 1)) s g kn lo lf nm) 8 = nI (n - 1) from rfl)) ?_
    refine k_nicmp_ge (a := k) (b := n - 1)  (tgt := 80) (q := 34) C dX4_dropLayer_31 (by decide) rfl (by omega) (by omega) ?_ ?_
    · intro c_31
      refine k_iload_n (q := 81) C 2 dX4_dropLayer_80 rfl rfl ?_
      exact k_fin E dX4_dropLayer_81 (rfl) (by rw [show k + 1 = n by omega])
    · intro c_31
      refine k_aload_n (q := 35) C 0 dX4_dropLayer_34 rfl rfl ?_
      refine k_get (q := 38) (ci := 4) (v := .ref (a 1)) C 0 1 in4_X4_dropLayer rfl (List.mem_of_getElem? (i := 1) rfl) rfl rfl (by decide) rfl dX4_dropLayer_35 rfl ?_
      refine k_bipush (q := 40) (v := 12) C dX4_dropLayer_38 (by decide +kernel) rfl ?_
      refine k_iload_n (q := 41) C 3 dX4_dropLayer_40 rfl rfl ?_
      refine k_iadd (q := 42) C dX4_dropLayer_41 rfl ?_
      refine k_st (st2 := (.int (nI (12 + k)) :: _)) (congrArg (fun z => Value.int z :: _) (show 12 + (nI k) = nI (12 + k) from nI_add 12 k)) ?_
      refine k_aload_n (q := 43) C 0 dX4_dropLayer_42 rfl rfl ?_
      refine k_get (q := 46) (ci := 4) (v := .ref (a 1)) C 0 1 in4_X4_dropLayer rfl (List.mem_of_getElem? (i := 1) rfl) rfl rfl (by decide) rfl dX4_dropLayer_43 rfl ?_
      refine k_bipush (q := 48) (v := 12) C dX4_dropLayer_46 (by decide +kernel) rfl ?_
      refine k_iload_n (q := 49) C 3 dX4_dropLayer_48 rfl rfl ?_
      refine k_iadd (q := 50) C dX4_dropLayer_49 rfl ?_
      refine k_st (st2 := (.int (nI (12 + k)) :: _)) (congrArg (fun z => Value.int z :: _) (show 12 + (nI k) = nI (12 + k) from nI_add 12 k)) ?_
      refine k_iconst (q := 51) (v := 1) C dX4_dropLayer_50 (by decide) rfl ?_
      refine k_iadd (q := 52) C dX4_dropLayer_51 rfl ?_
      refine k_st (st2 := (.int (nI (12 + k + 1)) :: _)) (congrArg (fun z => Value.int z :: _) (show (nI (12 + k)) + 1 = nI (12 + k + 1) from nI_add (12 + k) 1)) ?_
      refine k_st (st2 := (.int (nI (12 + (k + 1))) :: _)) (congrArg (fun z => Value.int z :: _) (show nI (12 + k + 1) = nI (12 + (k + 1)) from congrArg nI (by omega))) ?_
      refine k_iald (q := 53) C 1 rfl (vp_in_nI (n := 12 + (k + 1)) (by omega) (by decide)) dX4_dropLayer_52 rfl ?_
      refine k_st (st2 := (.int ((mSt (n - 1) o (sDn h p (k + 1)) (sDn t p (k + 1)) s g kn lo lf nm) (12 + (k + 1))) :: _)) (congrArg (fun z => Value.int z :: _) (show (mSt (n - 1) o (sDn h p (k + 1)) (sDn t p (k + 1)) s g kn lo lf nm) (nI (12 + (k + 1))).toNatClampNeg = (mSt (n - 1) o (sDn h p (k + 1)) (sDn t p (k + 1)) s g kn lo lf nm) (12 + (k + 1)) from congrArg (mSt (n - 1) o (sDn h p (k + 1)) (sDn t p (k + 1)) s g kn lo lf nm) (nI_clamp (n := 12 + (k + 1)) (by omega)))) ?_
      refine k_st (st2 := (.int ((sDn h p (k + 1)) (k + 1)) :: _)) (congrArg (fun z => Value.int z :: _) (show (mSt (n - 1) o (sDn h p (k + 1)) (sDn t p (k + 1)) s g kn lo lf nm) (12 + (k + 1)) = (sDn h p (k + 1)) (k + 1) from mSt_h (k := (k + 1)) (by omega))) ?_
      refine k_st (st2 := (.int (h (k + 1)) :: _)) (congrArg (fun z => Value.int z :: _) (show (sDn h p (k + 1)) (k + 1) = h (k + 1) from sDn_at)) ?_
      refine k_iast (q := 54) (w2 := (wM a cy th sm ln pt sg fi se (mSt (n - 1) o (upd (sDn h p (k + 1)) k (h (k + 1))) (sDn t p (k + 1)) s g kn lo lf nm) sv sl ik bf co go fo)) C 1 rfl (vp_in_nI (n := 12 + k) (by omega) (by decide)) (by rw [nI_clamp (n := 12 + k) (by omega)]; exact wM_st (mSt_wh (k := k) (by omega))) dX4_dropLayer_53 rfl ?_
      refine k_w (w2 := (wM a cy th sm ln pt sg fi se (mSt (n - 1) o (sDn h p (k + 1 + 1)) (sDn t p (k + 1)) s g kn lo lf nm) sv sl ik bf co go fo)) (by rw [sDn_k hpk]) ?_
      refine k_aload_n (q := 55) C 0 dX4_dropLayer_54 rfl rfl ?_
      refine k_get (q := 58) (ci := 4) (v := .ref (a 1)) C 0 1 in4_X4_dropLayer rfl (List.mem_of_getElem? (i := 1) rfl) rfl rfl (by decide) rfl dX4_dropLayer_55 rfl ?_
      refine k_bipush (q := 60) (v := 18) C dX4_dropLayer_58 (by decide +kernel) rfl ?_
      refine k_iload_n (q := 61) C 3 dX4_dropLayer_60 rfl rfl ?_
      refine k_iadd (q := 62) C dX4_dropLayer_61 rfl ?_
      refine k_st (st2 := (.int (nI (18 + k)) :: _)) (congrArg (fun z => Value.int z :: _) (show 18 + (nI k) = nI (18 + k) from nI_add 18 k)) ?_
      refine k_aload_n (q := 63) C 0 dX4_dropLayer_62 rfl rfl ?_
      refine k_get (q := 66) (ci := 4) (v := .ref (a 1)) C 0 1 in4_X4_dropLayer rfl (List.mem_of_getElem? (i := 1) rfl) rfl rfl (by decide) rfl dX4_dropLayer_63 rfl ?_
      refine k_bipush (q := 68) (v := 18) C dX4_dropLayer_66 (by decide +kernel) rfl ?_
      refine k_iload_n (q := 69) C 3 dX4_dropLayer_68 rfl rfl ?_
      refine k_iadd (q := 70) C dX4_dropLayer_69 rfl ?_
      refine k_st (st2 := (.int (nI (18 + k)) :: _)) (congrArg (fun z => Value.int z :: _) (show 18 + (nI k) = nI (18 + k) from nI_add 18 k)) ?_
      refine k_iconst (q := 71) (v := 1) C dX4_dropLayer_70 (by decide) rfl ?_
      refine k_iadd (q := 72) C dX4_dropLayer_71 rfl ?_
      refine k_st (st2 := (.int (nI (18 + k + 1)) :: _)) (congrArg (fun z => Value.int z :: _) (show (nI (18 + k)) + 1 = nI (18 + k + 1) from nI_add (18 + k) 1)) ?_
      refine k_st (st2 := (.int (nI (18 + (k + 1))) :: _)) (congrArg (fun z => Value.int z :: _) (show nI (18 + k + 1) = nI (18 + (k + 1)) from congrArg nI (by omega))) ?_
      refine k_iald (q := 73) C 1 rfl (vp_in_nI (n := 18 + (k + 1)) (by omega) (by decide)) dX4_dropLayer_72 rfl ?_
      refine k_st (st2 := (.int ((mSt (n - 1) o (sDn h p (k + 1 + 1)) (sDn t p (k + 1)) s g kn lo lf nm) (18 + (k + 1))) :: _)) (congrArg (fun z => Value.int z :: _) (show (mSt (n - 1) o (sDn h p (k + 1 + 1)) (sDn t p (k + 1)) s g kn lo lf nm) (nI (18 + (k + 1))).toNatClampNeg = (mSt (n - 1) o (sDn h p (k + 1 + 1)) (sDn t p (k + 1)) s g kn lo lf nm) (18 + (k + 1)) from congrArg (mSt (n - 1) o (sDn h p (k + 1 + 1)) (sDn t p (k + 1)) s g kn lo lf nm) (nI_clamp (n := 18 + (k + 1)) (by omega)))) ?_
      refine k_st (st2 := (.int ((sDn t p (k + 1)) (k + 1)) :: _)) (congrArg (fun z => Value.int z :: _) (show (mSt (n - 1) o (sDn h p (k + 1 + 1)) (sDn t p (k + 1)) s g kn lo lf nm) (18 + (k + 1)) = (sDn t p (k + 1)) (k + 1) from mSt_t (k := (k + 1)) (by omega))) ?_
      refine k_st (st2 := (.int (t (k + 1)) :: _)) (congrArg (fun z => Value.int z :: _) (show (sDn t p (k + 1)) (k + 1) = t (k + 1) from sDn_at)) ?_
      refine k_iast (q := 74) (w2 := (wM a cy th sm ln pt sg fi se (mSt (n - 1) o (sDn h p (k + 1 + 1)) (upd (sDn t p (k + 1)) k (t (k + 1))) s g kn lo lf nm) sv sl ik bf co go fo)) C 1 rfl (vp_in_nI (n := 18 + k) (by omega) (by decide)) (by rw [nI_clamp (n := 18 + k) (by omega)]; exact wM_st (mSt_wt (k := k) (by omega))) dX4_dropLayer_73 rfl ?_
      refine k_w (w2 := (wM a cy th sm ln pt sg fi se (mSt (n - 1) o (sDn h p (k + 1 + 1)) (sDn t p (k + 1 + 1)) s g kn lo lf nm) sv sl ik bf co go fo)) (by rw [sDn_k hpk]) ?_
      refine k_iinc (q := 77) (v := nI (k + 1)) (fr2 := [(3, .int (nI (k + 1))), (0, .ref (a 0)), (1, .int (nI p)), (2, .int (h p))]) C 3 dX4_dropLayer_74 rfl (nI_add k 1) (by decide) rfl rfl ?_
      refine k_goto (q := 23) C dX4_dropLayer_77 (by decide) ?_
      refine k_fr (fr2 := [(0, .ref (a 0)), (1, .int (nI p)), (2, .int (h p)), (3, .int (nI (k + 1)))]) ⟨[1, 2, 3, 0], rfl⟩ ?_
      exact ih (k + 1) (by omega) (by omega) (by omega)
set_option maxHeartbeats 4000000 in
set_option maxRecDepth 100000 in
theorem c_X4_dropLayer (cy : Nat → ClassId) (a : Nat → Nat) (th : Int32) (sm : Nat) (ln : Nat) (pt : Nat) (sg : Nat) (fi : Int32) (se : Int32) (n : Nat) (o : Nat → Int32) (h : Nat → Int32) (t : Nat → Int32) (s : Nat → Int32) (g : Nat → Int32) (kn : Nat) (lo : Int32) (lf : Int32) (nm : Nat → Int32) (sv : Nat → Int32) (sl : Nat → Int32) (ik : Nat → Int32) (bf : Nat → Nat) (co : Nat → Int32) (go : Nat → Int32) (fo : Nat → Int32) (p : Nat)  (hn : n ≤ 6) (hp : p < n) : kI yX4_dropLayer wsX4_dropLayer rm_X4_dropLayer cy [.ref (a 0), .int (nI p)] (wM a cy th sm ln pt sg fi se (mSt n o h t s g kn lo lf nm) sv sl ik bf co go fo) (h p) (wM a cy th sm ln pt sg fi se (mSt (n - 1) o (sDn h p n) (sDn t p n) s g kn lo lf nm) sv sl ik bf co go fo) := by
  refine kI_of (cc := cX4_dropLayer) (maxL := 4) (rt := .int) (by decide) rfl (rfl) (Nat.le_of_ble_eq_true rfl) ?_
  intro X hR C E
  have C : kC X 4 RX4 cX4_dropLayer wsX4_dropLayer cy := C
  refine k_fr (fr2 := [(0, .ref (a 0)), (1, .int (nI p))]) ⟨[0, 1], rfl⟩ ?_
  refine k_aload_n (q := 1) C 0 dX4_dropLayer_0 rfl rfl ?_
  refine k_get (q := 4) (ci := 4) (v := .ref (a 1)) C 0 1 in4_X4_dropLayer rfl (List.mem_of_getElem? (i := 1) rfl) rfl rfl (by decide) rfl dX4_dropLayer_1 rfl ?_
  refine k_bipush (q := 6) (v := 12) C dX4_dropLayer_4 (by decide +kernel) rfl ?_
  refine k_iload_n (q := 7) C 1 dX4_dropLayer_6 rfl rfl ?_
  refine k_iadd (q := 8) C dX4_dropLayer_7 rfl ?_
  refine k_st (st2 := (.int (nI (12 + p)) :: _)) (congrArg (fun z => Value.int z :: _) (show 12 + (nI p) = nI (12 + p) from nI_add 12 p)) ?_
  refine k_iald (q := 9) C 1 rfl (vp_in_nI (n := 12 + p) (by omega) (by decide)) dX4_dropLayer_8 rfl ?_
  refine k_st (st2 := (.int ((mSt n o h t s g kn lo lf nm) (12 + p)) :: _)) (congrArg (fun z => Value.int z :: _) (show (mSt n o h t s g kn lo lf nm) (nI (12 + p)).toNatClampNeg = (mSt n o h t s g kn lo lf nm) (12 + p) from congrArg (mSt n o h t s g kn lo lf nm) (nI_clamp (n := 12 + p) (by omega)))) ?_
  refine k_st (st2 := (.int (h p) :: _)) (congrArg (fun z => Value.int z :: _) (show (mSt n o h t s g kn lo lf nm) (12 + p) = h p from mSt_h (k := p) (by omega))) ?_
  refine k_istore_n (q := 10) (fr2 := [(2, .int (h p)), (0, .ref (a 0)), (1, .int (nI p))]) C dX4_dropLayer_9 (by decide) rfl rfl ?_
  refine k_aload_n (q := 11) C 1 dX4_dropLayer_10 rfl rfl ?_
  refine k_get (q := 14) (ci := 4) (v := .ref (a 1)) C 0 1 in4_X4_dropLayer rfl (List.mem_of_getElem? (i := 1) rfl) rfl rfl (by decide) rfl dX4_dropLayer_11 rfl ?_
  refine k_bipush (q := 16) (v := 8) C dX4_dropLayer_14 (by decide +kernel) rfl ?_
  refine k_dup2 (q := 17) C dX4_dropLayer_16 rfl rfl rfl ?_
  refine k_iald (q := 18) C 1 rfl (vp_in_nI (n := 8) (by decide) (by decide)) dX4_dropLayer_17 rfl ?_
  refine k_st (st2 := (.int ((mSt n o h t s g kn lo lf nm) 8) :: _)) (congrArg (fun z => Value.int z :: _) (show (mSt n o h t s g kn lo lf nm) (8 : Int32).toNatClampNeg = (mSt n o h t s g kn lo lf nm) 8 from congrArg (mSt n o h t s g kn lo lf nm) (nI_clamp (n := 8) (by decide)))) ?_
  refine k_st (st2 := (.int (nI n) :: _)) (congrArg (fun z => Value.int z :: _) (show (mSt n o h t s g kn lo lf nm) 8 = nI n from rfl)) ?_
  refine k_iconst (q := 19) (v := 1) C dX4_dropLayer_18 (by decide) rfl ?_
  refine k_isub (q := 20) C dX4_dropLayer_19 rfl ?_
  refine k_st (st2 := (.int (nI (n - 1)) :: _)) (congrArg (fun z => Value.int z :: _) (show (nI n) - 1 = nI (n - 1) from pk_sub (a := n) (b := 1) (by omega))) ?_
  refine k_iast (q := 21) (w2 := (wM a cy th sm ln pt sg fi se (mSt (n - 1) o h t s g kn lo lf nm) sv sl ik bf co go fo)) C 1 rfl (vp_in_nI (n := 8) (by decide) (by decide)) (by exact wM_st (mSt_w8 (n - 1))) dX4_dropLayer_20 rfl ?_
  refine k_iload_n (q := 22) C 2 dX4_dropLayer_21 rfl rfl ?_
  refine k_istore_n (q := 23) (fr2 := [(3, .int (nI p)), (2, .int (h p)), (0, .ref (a 0)), (1, .int (nI p))]) C dX4_dropLayer_22 (by decide) rfl rfl ?_
  refine k_fr (fr2 := [(0, .ref (a 0)), (1, .int (nI p)), (2, .int (h p)), (3, .int (nI p))]) ⟨[2, 3, 1, 0], rfl⟩ ?_
  have K := lp_X4_dropLayer_23 cy a th sm ln pt sg fi se n o h t s g kn lo lf nm sv sl ik bf co go fo p hn hp X hR C E _ p (Nat.lt_succ_self _) (by omega) (by omega)
  rw [sDn_0, sDn_0] at K
  exact K
abbrev rm_X4_turnTo : Room := { frames := 0, cells := 0, slots := 0, locals := 0 }
theorem in4_X4_turnTo : ∀ w ∈ wsX40, w ∈ wsX4_turnTo := fun _ h => (List.mem_cons_of_mem _ (List.mem_append_right _ h))
set_option maxHeartbeats 4000000 in
set_option maxRecDepth 100000 in
theorem c_X4_turnTo (cy : Nat → ClassId) (a : Nat → Nat) (th : Int32) (sm : Nat) (ln : Nat) (pt : Nat) (sg : Nat) (fi : Int32) (se : Int32) (n : Nat) (o : Nat → Int32) (h : Nat → Int32) (t : Nat → Int32) (s : Nat → Int32) (g : Nat → Int32) (kn : Nat) (lo : Int32) (lf : Int32) (nm : Nat → Int32) (sv : Nat → Int32) (sl : Nat → Int32) (ik : Nat → Int32) (bf : Nat → Nat) (co : Nat → Int32) (go : Nat → Int32) (fo : Nat → Int32) (j : Nat) (x : Int32)  (hj : j < 2) : kI yX4_turnTo wsX4_turnTo rm_X4_turnTo cy [.ref (a 0), .int (nI j), .int x] (wM a cy th sm ln pt sg fi se (mSt n o h t s g kn lo lf nm) sv sl ik bf co go fo) (s j) (wM a cy th sm ln pt sg fi se (mSt n o h t (upd s j x) g kn lo lf nm) sv sl ik bf co go fo) := by
  refine kI_of (cc := cX4_turnTo) (maxL := 4) (rt := .int) (by decide) rfl (rfl) (Nat.le_of_ble_eq_true rfl) ?_
  intro X hR C E
  have C : kC X 4 RX4 cX4_turnTo wsX4_turnTo cy := C
  refine k_fr (fr2 := [(0, .ref (a 0)), (1, .int (nI j)), (2, .int x)]) ⟨[0, 1, 2], rfl⟩ ?_
  refine k_aload_n (q := 1) C 0 dX4_turnTo_0 rfl rfl ?_
  refine k_get (q := 4) (ci := 4) (v := .ref (a 1)) C 0 1 in4_X4_turnTo rfl (List.mem_of_getElem? (i := 1) rfl) rfl rfl (by decide) rfl dX4_turnTo_1 rfl ?_
  refine k_iconst (q := 5) (v := 4) C dX4_turnTo_4 (by decide) rfl ?_
  refine k_iload_n (q := 6) C 1 dX4_turnTo_5 rfl rfl ?_
  refine k_iadd (q := 7) C dX4_turnTo_6 rfl ?_
  refine k_st (st2 := (.int (nI (4 + j)) :: _)) (congrArg (fun z => Value.int z :: _) (show 4 + (nI j) = nI (4 + j) from nI_add 4 j)) ?_
  refine k_iald (q := 8) C 1 rfl (vp_in_nI (n := 4 + j) (by omega) (by decide)) dX4_turnTo_7 rfl ?_
  refine k_st (st2 := (.int ((mSt n o h t s g kn lo lf nm) (4 + j)) :: _)) (congrArg (fun z => Value.int z :: _) (show (mSt n o h t s g kn lo lf nm) (nI (4 + j)).toNatClampNeg = (mSt n o h t s g kn lo lf nm) (4 + j) from congrArg (mSt n o h t s g kn lo lf nm) (nI_clamp (n := 4 + j) (by omega)))) ?_
  refine k_st (st2 := (.int (s j) :: _)) (congrArg (fun z => Value.int z :: _) (show (mSt n o h t s g kn lo lf nm) (4 + j) = s j from mSt_s (k := j) (by omega))) ?_
  refine k_istore_n (q := 9) (fr2 := [(3, .int (s j)), (0, .ref (a 0)), (1, .int (nI j)), (2, .int x)]) C dX4_turnTo_8 (by decide) rfl rfl ?_
  refine k_aload_n (q := 10) C 1 dX4_turnTo_9 rfl rfl ?_
  refine k_get (q := 13) (ci := 4) (v := .ref (a 1)) C 0 1 in4_X4_turnTo rfl (List.mem_of_getElem? (i := 1) rfl) rfl rfl (by decide) rfl dX4_turnTo_10 rfl ?_
  refine k_iconst (q := 14) (v := 4) C dX4_turnTo_13 (by decide) rfl ?_
  refine k_iload_n (q := 15) C 2 dX4_turnTo_14 rfl rfl ?_
  refine k_iadd (q := 16) C dX4_turnTo_15 rfl ?_
  refine k_st (st2 := (.int (nI (4 + j)) :: _)) (congrArg (fun z => Value.int z :: _) (show 4 + (nI j) = nI (4 + j) from nI_add 4 j)) ?_
  refine k_iload_n (q := 17) C 3 dX4_turnTo_16 rfl rfl ?_
  refine k_iast (q := 18) (w2 := (wM a cy th sm ln pt sg fi se (mSt n o h t (upd s j x) g kn lo lf nm) sv sl ik bf co go fo)) C 1 rfl (vp_in_nI (n := 4 + j) (by omega) (by decide)) (by rw [nI_clamp (n := 4 + j) (by omega)]; exact wM_st (mSt_ws (k := j) (by omega))) dX4_turnTo_17 rfl ?_
  refine k_iload_n (q := 19) C 0 dX4_turnTo_18 rfl rfl ?_
  exact k_fin E dX4_turnTo_19 (rfl) (rfl)
abbrev rm_X4_logNow : Room := { frames := 6, cells := 0, slots := 0, locals := 132 }
theorem in4_X4_logNow : ∀ w ∈ wsX40, w ∈ wsX4_logNow := fun _ h => (List.mem_cons_of_mem _ (List.mem_append_right _ h))
set_option maxHeartbeats 4000000 in
set_option maxRecDepth 100000 in
theorem lp_X4_logNow_8 (cy : Nat → ClassId) (a : Nat → Nat) (th : Int32) (sm : Nat) (ln : Nat) (pt : Nat) (sg : Nat) (fi : Int32) (se : Int32) (n : Nat) (o : Nat → Int32) (h : Nat → Int32) (t : Nat → Int32) (s : Nat → Int32) (g : Nat → Int32) (kn : Nat) (lo : Int32) (lf : Int32) (nm : Nat → Int32) (sv : Nat → Int32) (sl : Nat → Int32) (ik : Nat → Int32) (bf : Nat → Nat) (co : Nat → Int32) (go : Nat → Int32) (fo : Nat → Int32)  (hn : n ≤ 6) (ho : mBin o) (h0 : sOk (s 0)) (h1 : sOk (s 1)) (hkn : kn ≤ 8) (X : kX) (hR : xR X = rm_X4_logNow) (C : kC X 3 RX4 cX4_logNow wsX4_logNow cy) (E : kEndx X 3 cX4_logNow (nI (min (kn + 1) 8)) (fun (u : (Nat → Int32) × (Nat → Int32) × (Nat → Int32)) => (wM a cy th sm ln pt sg fi se (mSt n o h t s g (min (kn + 1) 8) (lo + 1) (lf + bI ((mLg h n (sMeet g (s 0) (s 1)) (mC (sClose (mLit o) h t s g) (mD h s g) n)).2.2.2 = true)) (sWrL nm (mLg h n (sMeet g (s 0) (s 1)) (mC (sClose (mLit o) h t s g) (mD h s g) n)))) sv sl ik bf u.1 u.2.1 u.2.2)) (fun (u : (Nat → Int32) × (Nat → Int32) × (Nat → Int32)) => True)) : ∀ (fu : Nat) (k : Nat) (c1 : Nat → Int32) (g1 : Nat → Int32) (f1 : Nat → Int32), k < fu → (3 ≤ k ∧ k ≤ 31) → (mFnd h n (sMeet g (s 0) (s 1)) (mC (sClose (mLit o) h t s g) (mD h s g) n) f1) → kG X 3 0 0 (wM a cy th sm ln pt sg fi se (mSt n o h t s g kn lo lf (mShN nm k)) sv sl ik bf c1 g1 f1) 8 [(0, .ref (a 0)), (1, .int (bI (¬ (sMeet g (s 0) (s 1)) = -99999 ∧ ¬ (mC (sClose (mLit o) h t s g) (mD h s g) n) = -99999))), (2, .int (nI k))] [] := by
  intro fu
  induction fu with
  | zero => intro k c1 g1 f1 hfu; exact absurd hfu (Nat.not_lt_zero _)
  | succ fu ih =>
    intro k c1 g1 f1 hfu hk hf
    refine k_iload_n (q := 9) C 2 dX4_logNow_8 rfl rfl ?_
    refine k_iconst (q := 10) (v := 3) C dX4_logNow_9 (by decide) rfl ?_
    refine k_nicmp_le (a := k) (b := 3)  (tgt := 39) (q := 13) C dX4_logNow_10 (by decide) rfl (by omega) (by decide) ?_ ?_
    · intro c_10
      have hke : k = 3 := by omega
      obtain rfl : k = 3 := hke
      refine k_aload_n (q := 40) C 0 dX4_logNow_39 rfl rfl ?_
      refine k_get (q := 43) (ci := 4) (v := .ref (a 1)) C 0 1 in4_X4_logNow rfl (List.mem_of_getElem? (i := 1) rfl) rfl rfl (by decide) rfl dX4_logNow_40 rfl ?_
      refine k_bipush (q := 45) (v := 24) C dX4_logNow_43 (by decide +kernel) rfl ?_
      refine k_aload_n (q := 46) C 0 dX4_logNow_45 rfl rfl ?_
      refine k_get (q := 49) (ci := 4) (v := .ref (a 8)) C 0 14 in4_X4_logNow rfl (List.mem_of_getElem? (i := 2) rfl) rfl rfl (by decide) rfl dX4_logNow_46 rfl ?_
      refine k_iconst (q := 50) (v := 0) C dX4_logNow_49 (by decide) rfl ?_
      refine k_iald (q := 51) C 8 rfl (vp_in_nI (n := 0) (by decide) (by decide)) dX4_logNow_50 rfl ?_
      refine k_st (st2 := (.int (f1 0) :: _)) (congrArg (fun z => Value.int z :: _) (show f1 (0 : Int32).toNatClampNeg = f1 0 from congrArg f1 (nI_clamp (n := 0) (by decide)))) ?_
      refine k_iast (q := 52) (w2 := (wM a cy th sm ln pt sg fi se (mSt n o h t s g kn lo lf (upd (mShN nm 3) 0 (f1 0))) sv sl ik bf c1 g1 f1)) C 1 rfl (vp_in_nI (n := 24) (by decide) (by decide)) (by exact wM_st (mSt_wm (k := 0))) dX4_logNow_51 rfl ?_
      refine k_aload_n (q := 53) C 0 dX4_logNow_52 rfl rfl ?_
      refine k_get (q := 56) (ci := 4) (v := .ref (a 1)) C 0 1 in4_X4_logNow rfl (List.mem_of_getElem? (i := 1) rfl) rfl rfl (by decide) rfl dX4_logNow_53 rfl ?_
      refine k_bipush (q := 58) (v := 25) C dX4_logNow_56 (by decide +kernel) rfl ?_
      refine k_iload_n (q := 59) C 1 dX4_logNow_58 rfl rfl ?_
      refine k_ifB_eq (tgt := 79) (q := 62) C dX4_logNow_59 (by decide) rfl ?_ ?_
      · intro c_59
        have hno : sMeet g (s 0) (s 1) = -99999 ∨ mC (sClose (mLit o) h t s g) (mD h s g) n = -99999 := Classical.byContradiction (fun q => c_59 ⟨fun z => q (Or.inl z), fun z => q (Or.inr z)⟩)
        have hfn := hf.1 hno
        refine k_ldc (q := 81) (v := -99999) C (List.mem_of_getElem? (i := 3) rfl) dX4_logNow_79 rfl ?_
        refine k_iast (q := 82) (w2 := (wM a cy th sm ln pt sg fi se (mSt n o h t s g kn lo lf (upd (upd (mShN nm 3) 0 (f1 0)) 1 (-99999))) sv sl ik bf c1 g1 f1)) C 1 rfl (vp_in_nI (n := 25) (by decide) (by decide)) (by exact wM_st (mSt_wm (k := 1))) dX4_logNow_81 rfl ?_
        refine k_aload_n (q := 83) C 0 dX4_logNow_82 rfl rfl ?_
        refine k_get (q := 86) (ci := 4) (v := .ref (a 1)) C 0 1 in4_X4_logNow rfl (List.mem_of_getElem? (i := 1) rfl) rfl rfl (by decide) rfl dX4_logNow_83 rfl ?_
        refine k_bipush (q := 88) (v := 26) C dX4_logNow_86 (by decide +kernel) rfl ?_
        refine k_aload_n (q := 89) C 0 dX4_logNow_88 rfl rfl ?_
        refine k_get (q := 92) (ci := 4) (v := .ref (a 8)) C 0 14 in4_X4_logNow rfl (List.mem_of_getElem? (i := 2) rfl) rfl rfl (by decide) rfl dX4_logNow_89 rfl ?_
        refine k_iconst (q := 93) (v := 2) C dX4_logNow_92 (by decide) rfl ?_
        refine k_iald (q := 94) C 8 rfl (vp_in_nI (n := 2) (by decide) (by decide)) dX4_logNow_93 rfl ?_
        refine k_st (st2 := (.int (f1 2) :: _)) (congrArg (fun z => Value.int z :: _) (show f1 (2 : Int32).toNatClampNeg = f1 2 from congrArg f1 (nI_clamp (n := 2) (by decide)))) ?_
        refine k_iast (q := 95) (w2 := (wM a cy th sm ln pt sg fi se (mSt n o h t s g kn lo lf (upd (upd (upd (mShN nm 3) 0 (f1 0)) 1 (-99999)) 2 (f1 2))) sv sl ik bf c1 g1 f1)) C 1 rfl (vp_in_nI (n := 26) (by decide) (by decide)) (by exact wM_st (mSt_wm (k := 2))) dX4_logNow_94 rfl ?_
        refine k_aload_n (q := 96) C 0 dX4_logNow_95 rfl rfl ?_
        refine k_get (q := 99) (ci := 4) (v := .ref (a 1)) C 0 1 in4_X4_logNow rfl (List.mem_of_getElem? (i := 1) rfl) rfl rfl (by decide) rfl dX4_logNow_96 rfl ?_
        refine k_bipush (q := 101) (v := 27) C dX4_logNow_99 (by decide +kernel) rfl ?_
        refine k_iload_n (q := 102) C 1 dX4_logNow_101 rfl rfl ?_
        refine k_ifB_eq (tgt := 114) (q := 105) C dX4_logNow_102 (by decide) rfl ?_ ?_
        · intro c_102
          refine k_iconst (q := 115) (v := 0) C dX4_logNow_114 (by decide) rfl ?_
          refine k_iast (q := 116) (w2 := (wM a cy th sm ln pt sg fi se (mSt n o h t s g kn lo lf (upd (upd (upd (upd (mShN nm 3) 0 (f1 0)) 1 (-99999)) 2 (f1 2)) 3 0)) sv sl ik bf c1 g1 f1)) C 1 rfl (vp_in_nI (n := 27) (by decide) (by decide)) (by exact wM_st (mSt_wm (k := 3))) dX4_logNow_115 rfl ?_
          refine k_aload_n (q := 117) C 0 dX4_logNow_116 rfl rfl ?_
          refine k_get (q := 120) (ci := 4) (v := .ref (a 1)) C 0 1 in4_X4_logNow rfl (List.mem_of_getElem? (i := 1) rfl) rfl rfl (by decide) rfl dX4_logNow_117 rfl ?_
          refine k_bipush (q := 122) (v := 9) C dX4_logNow_120 (by decide +kernel) rfl ?_
          refine k_dup2 (q := 123) C dX4_logNow_122 rfl rfl rfl ?_
          refine k_iald (q := 124) C 1 rfl (vp_in_nI (n := 9) (by decide) (by decide)) dX4_logNow_123 rfl ?_
          refine k_st (st2 := (.int ((mSt n o h t s g kn lo lf (upd (upd (upd (upd (mShN nm 3) 0 (f1 0)) 1 (-99999)) 2 (f1 2)) 3 0)) 9) :: _)) (congrArg (fun z => Value.int z :: _) (show (mSt n o h t s g kn lo lf (upd (upd (upd (upd (mShN nm 3) 0 (f1 0)) 1 (-99999)) 2 (f1 2)) 3 0)) (9 : Int32).toNatClampNeg = (mSt n o h t s g kn lo lf (upd (upd (upd (upd (mShN nm 3) 0 (f1 0)) 1 (-99999)) 2 (f1 2)) 3 0)) 9 from congrArg (mSt n o h t s g kn lo lf (upd (upd (upd (upd (mShN nm 3) 0 (f1 0)) 1 (-99999)) 2 (f1 2)) 3 0)) (nI_clamp (n := 9) (by decide)))) ?_
          refine k_st (st2 := (.int (nI kn) :: _)) (congrArg (fun z => Value.int z :: _) (show (mSt n o h t s g kn lo lf (upd (upd (upd (upd (mShN nm 3) 0 (f1 0)) 1 (-99999)) 2 (f1 2)) 3 0)) 9 = nI kn from rfl)) ?_
          refine k_aload_n (q := 125) C 0 dX4_logNow_124 rfl rfl ?_
          refine k_get (q := 128) (ci := 4) (v := .ref (a 1)) C 0 1 in4_X4_logNow rfl (List.mem_of_getElem? (i := 1) rfl) rfl rfl (by decide) rfl dX4_logNow_125 rfl ?_
          refine k_bipush (q := 130) (v := 9) C dX4_logNow_128 (by decide +kernel) rfl ?_
          refine k_iald (q := 131) C 1 rfl (vp_in_nI (n := 9) (by decide) (by decide)) dX4_logNow_130 rfl ?_
          refine k_st (st2 := (.int ((mSt n o h t s g kn lo lf (upd (upd (upd (upd (mShN nm 3) 0 (f1 0)) 1 (-99999)) 2 (f1 2)) 3 0)) 9) :: _)) (congrArg (fun z => Value.int z :: _) (show (mSt n o h t s g kn lo lf (upd (upd (upd (upd (mShN nm 3) 0 (f1 0)) 1 (-99999)) 2 (f1 2)) 3 0)) (9 : Int32).toNatClampNeg = (mSt n o h t s g kn lo lf (upd (upd (upd (upd (mShN nm 3) 0 (f1 0)) 1 (-99999)) 2 (f1 2)) 3 0)) 9 from congrArg (mSt n o h t s g kn lo lf (upd (upd (upd (upd (mShN nm 3) 0 (f1 0)) 1 (-99999)) 2 (f1 2)) 3 0)) (nI_clamp (n := 9) (by decide)))) ?_
          refine k_st (st2 := (.int (nI kn) :: _)) (congrArg (fun z => Value.int z :: _) (show (mSt n o h t s g kn lo lf (upd (upd (upd (upd (mShN nm 3) 0 (f1 0)) 1 (-99999)) 2 (f1 2)) 3 0)) 9 = nI kn from rfl)) ?_
          refine k_bipush (q := 133) (v := 8) C dX4_logNow_131 (by decide +kernel) rfl ?_
          refine k_nicmp_ge (a := kn) (b := 8)  (tgt := 140) (q := 136) C dX4_logNow_133 (by decide) rfl (by omega) (by decide) ?_ ?_
          · intro c_133
            refine k_iconst (q := 141) (v := 0) C dX4_logNow_140 (by decide) rfl ?_
            refine k_iadd (q := 142) C dX4_logNow_141 rfl ?_
            refine k_st (st2 := (.int (nI (kn + 0)) :: _)) (congrArg (fun z => Value.int z :: _) (show (nI kn) + 0 = nI (kn + 0) from nI_add kn 0)) ?_
            refine k_iast (q := 143) (w2 := (wM a cy th sm ln pt sg fi se (mSt n o h t s g (kn + 0) lo lf (upd (upd (upd (upd (mShN nm 3) 0 (f1 0)) 1 (-99999)) 2 (f1 2)) 3 0)) sv sl ik bf c1 g1 f1)) C 1 rfl (vp_in_nI (n := 9) (by decide) (by decide)) (by exact wM_st (mSt_w9 (kn + 0))) dX4_logNow_142 rfl ?_
            refine k_aload_n (q := 144) C 0 dX4_logNow_143 rfl rfl ?_
            refine k_get (q := 147) (ci := 4) (v := .ref (a 1)) C 0 1 in4_X4_logNow rfl (List.mem_of_getElem? (i := 1) rfl) rfl rfl (by decide) rfl dX4_logNow_144 rfl ?_
            refine k_bipush (q := 149) (v := 10) C dX4_logNow_147 (by decide +kernel) rfl ?_
            refine k_dup2 (q := 150) C dX4_logNow_149 rfl rfl rfl ?_
            refine k_iald (q := 151) C 1 rfl (vp_in_nI (n := 10) (by decide) (by decide)) dX4_logNow_150 rfl ?_
            refine k_st (st2 := (.int ((mSt n o h t s g (kn + 0) lo lf (upd (upd (upd (upd (mShN nm 3) 0 (f1 0)) 1 (-99999)) 2 (f1 2)) 3 0)) 10) :: _)) (congrArg (fun z => Value.int z :: _) (show (mSt n o h t s g (kn + 0) lo lf (upd (upd (upd (upd (mShN nm 3) 0 (f1 0)) 1 (-99999)) 2 (f1 2)) 3 0)) (10 : Int32).toNatClampNeg = (mSt n o h t s g (kn + 0) lo lf (upd (upd (upd (upd (mShN nm 3) 0 (f1 0)) 1 (-99999)) 2 (f1 2)) 3 0)) 10 from congrArg (mSt n o h t s g (kn + 0) lo lf (upd (upd (upd (upd (mShN nm 3) 0 (f1 0)) 1 (-99999)) 2 (f1 2)) 3 0)) (nI_clamp (n := 10) (by decide)))) ?_
            refine k_st (st2 := (.int lo :: _)) (congrArg (fun z => Value.int z :: _) (show (mSt n o h t s g (kn + 0) lo lf (upd (upd (upd (upd (mShN nm 3) 0 (f1 0)) 1 (-99999)) 2 (f1 2)) 3 0)) 10 = lo from rfl)) ?_
            refine k_iconst (q := 152) (v := 1) C dX4_logNow_151 (by decide) rfl ?_
            refine k_iadd (q := 153) C dX4_logNow_152 rfl ?_
            refine k_iast (q := 154) (w2 := (wM a cy th sm ln pt sg fi se (mSt n o h t s g (kn + 0) (lo + 1) lf (upd (upd (upd (upd (mShN nm 3) 0 (f1 0)) 1 (-99999)) 2 (f1 2)) 3 0)) sv sl ik bf c1 g1 f1)) C 1 rfl (vp_in_nI (n := 10) (by decide) (by decide)) (by exact wM_st (mSt_w10)) dX4_logNow_153 rfl ?_
            refine k_aload_n (q := 155) C 0 dX4_logNow_154 rfl rfl ?_
            refine k_get (q := 158) (ci := 4) (v := .ref (a 1)) C 0 1 in4_X4_logNow rfl (List.mem_of_getElem? (i := 1) rfl) rfl rfl (by decide) rfl dX4_logNow_155 rfl ?_
            refine k_bipush (q := 160) (v := 11) C dX4_logNow_158 (by decide +kernel) rfl ?_
            refine k_dup2 (q := 161) C dX4_logNow_160 rfl rfl rfl ?_
            refine k_iald (q := 162) C 1 rfl (vp_in_nI (n := 11) (by decide) (by decide)) dX4_logNow_161 rfl ?_
            refine k_st (st2 := (.int ((mSt n o h t s g (kn + 0) (lo + 1) lf (upd (upd (upd (upd (mShN nm 3) 0 (f1 0)) 1 (-99999)) 2 (f1 2)) 3 0)) 11) :: _)) (congrArg (fun z => Value.int z :: _) (show (mSt n o h t s g (kn + 0) (lo + 1) lf (upd (upd (upd (upd (mShN nm 3) 0 (f1 0)) 1 (-99999)) 2 (f1 2)) 3 0)) (11 : Int32).toNatClampNeg = (mSt n o h t s g (kn + 0) (lo + 1) lf (upd (upd (upd (upd (mShN nm 3) 0 (f1 0)) 1 (-99999)) 2 (f1 2)) 3 0)) 11 from congrArg (mSt n o h t s g (kn + 0) (lo + 1) lf (upd (upd (upd (upd (mShN nm 3) 0 (f1 0)) 1 (-99999)) 2 (f1 2)) 3 0)) (nI_clamp (n := 11) (by decide)))) ?_
            refine k_st (st2 := (.int lf :: _)) (congrArg (fun z => Value.int z :: _) (show (mSt n o h t s g (kn + 0) (lo + 1) lf (upd (upd (upd (upd (mShN nm 3) 0 (f1 0)) 1 (-99999)) 2 (f1 2)) 3 0)) 11 = lf from rfl)) ?_
            refine k_aload_n (q := 163) C 0 dX4_logNow_162 rfl rfl ?_
            refine k_get (q := 166) (ci := 4) (v := .ref (a 1)) C 0 1 in4_X4_logNow rfl (List.mem_of_getElem? (i := 1) rfl) rfl rfl (by decide) rfl dX4_logNow_163 rfl ?_
            refine k_bipush (q := 168) (v := 27) C dX4_logNow_166 (by decide +kernel) rfl ?_
            refine k_iald (q := 169) C 1 rfl (vp_in_nI (n := 27) (by decide) (by decide)) dX4_logNow_168 rfl ?_
            refine k_st (st2 := (.int ((mSt n o h t s g (kn + 0) (lo + 1) lf (upd (upd (upd (upd (mShN nm 3) 0 (f1 0)) 1 (-99999)) 2 (f1 2)) 3 0)) 27) :: _)) (congrArg (fun z => Value.int z :: _) (show (mSt n o h t s g (kn + 0) (lo + 1) lf (upd (upd (upd (upd (mShN nm 3) 0 (f1 0)) 1 (-99999)) 2 (f1 2)) 3 0)) (27 : Int32).toNatClampNeg = (mSt n o h t s g (kn + 0) (lo + 1) lf (upd (upd (upd (upd (mShN nm 3) 0 (f1 0)) 1 (-99999)) 2 (f1 2)) 3 0)) 27 from congrArg (mSt n o h t s g (kn + 0) (lo + 1) lf (upd (upd (upd (upd (mShN nm 3) 0 (f1 0)) 1 (-99999)) 2 (f1 2)) 3 0)) (nI_clamp (n := 27) (by decide)))) ?_
            refine k_st (st2 := (.int ((upd (upd (upd (upd (mShN nm 3) 0 (f1 0)) 1 (-99999)) 2 (f1 2)) 3 0) 3) :: _)) (congrArg (fun z => Value.int z :: _) (show (mSt n o h t s g (kn + 0) (lo + 1) lf (upd (upd (upd (upd (mShN nm 3) 0 (f1 0)) 1 (-99999)) 2 (f1 2)) 3 0)) 27 = (upd (upd (upd (upd (mShN nm 3) 0 (f1 0)) 1 (-99999)) 2 (f1 2)) 3 0) 3 from mSt_m (k := 3))) ?_
            refine k_iadd (q := 170) C dX4_logNow_169 rfl ?_
            refine k_iast (q := 171) (w2 := (wM a cy th sm ln pt sg fi se (mSt n o h t s g (kn + 0) (lo + 1) (lf + ((upd (upd (upd (upd (mShN nm 3) 0 (f1 0)) 1 (-99999)) 2 (f1 2)) 3 0) 3)) (upd (upd (upd (upd (mShN nm 3) 0 (f1 0)) 1 (-99999)) 2 (f1 2)) 3 0)) sv sl ik bf c1 g1 f1)) C 1 rfl (vp_in_nI (n := 11) (by decide) (by decide)) (by exact wM_st (mSt_w11)) dX4_logNow_170 rfl ?_
            refine k_aload_n (q := 172) C 0 dX4_logNow_171 rfl rfl ?_
            refine k_get (q := 175) (ci := 4) (v := .ref (a 1)) C 0 1 in4_X4_logNow rfl (List.mem_of_getElem? (i := 1) rfl) rfl rfl (by decide) rfl dX4_logNow_172 rfl ?_
            refine k_bipush (q := 177) (v := 9) C dX4_logNow_175 (by decide +kernel) rfl ?_
            refine k_iald (q := 178) C 1 rfl (vp_in_nI (n := 9) (by decide) (by decide)) dX4_logNow_177 rfl ?_
            refine k_st (st2 := (.int ((mSt n o h t s g (kn + 0) (lo + 1) (lf + ((upd (upd (upd (upd (mShN nm 3) 0 (f1 0)) 1 (-99999)) 2 (f1 2)) 3 0) 3)) (upd (upd (upd (upd (mShN nm 3) 0 (f1 0)) 1 (-99999)) 2 (f1 2)) 3 0)) 9) :: _)) (congrArg (fun z => Value.int z :: _) (show (mSt n o h t s g (kn + 0) (lo + 1) (lf + ((upd (upd (upd (upd (mShN nm 3) 0 (f1 0)) 1 (-99999)) 2 (f1 2)) 3 0) 3)) (upd (upd (upd (upd (mShN nm 3) 0 (f1 0)) 1 (-99999)) 2 (f1 2)) 3 0)) (9 : Int32).toNatClampNeg = (mSt n o h t s g (kn + 0) (lo + 1) (lf + ((upd (upd (upd (upd (mShN nm 3) 0 (f1 0)) 1 (-99999)) 2 (f1 2)) 3 0) 3)) (upd (upd (upd (upd (mShN nm 3) 0 (f1 0)) 1 (-99999)) 2 (f1 2)) 3 0)) 9 from congrArg (mSt n o h t s g (kn + 0) (lo + 1) (lf + ((upd (upd (upd (upd (mShN nm 3) 0 (f1 0)) 1 (-99999)) 2 (f1 2)) 3 0) 3)) (upd (upd (upd (upd (mShN nm 3) 0 (f1 0)) 1 (-99999)) 2 (f1 2)) 3 0)) (nI_clamp (n := 9) (by decide)))) ?_
            refine k_st (st2 := (.int (nI (kn + 0)) :: _)) (congrArg (fun z => Value.int z :: _) (show (mSt n o h t s g (kn + 0) (lo + 1) (lf + ((upd (upd (upd (upd (mShN nm 3) 0 (f1 0)) 1 (-99999)) 2 (f1 2)) 3 0) 3)) (upd (upd (upd (upd (mShN nm 3) 0 (f1 0)) 1 (-99999)) 2 (f1 2)) 3 0)) 9 = nI (kn + 0) from rfl)) ?_
            exact k_finx E (c1, g1, f1) dX4_logNow_178 (by first | rfl | (congr 1; omega)) (by first | (rw [mLg_n hno, hfn.1, hfn.2.2.1, mShN_3, show min (kn + 1) 8 = kn + 0 by omega]; rfl) | (rw [mLg_n hno, hfn.1, hfn.2.2.1, mShN_3, show min (kn + 1) 8 = kn + 1 by omega]; rfl) | (rw [mLg_y c_59.1 ep (by omega), hfy.1, hfy.2.2.1, hfy.2.2.2, mShN_3, show min (kn + 1) 8 = kn + 0 by omega]; rfl) | (rw [mLg_y c_59.1 ep (by omega), hfy.1, hfy.2.2.1, hfy.2.2.2, mShN_3, show min (kn + 1) 8 = kn + 1 by omega]; rfl)) (trivial)
          · intro c_133
            refine k_iconst (q := 137) (v := 1) C dX4_logNow_136 (by decide) rfl ?_
            refine k_goto (q := 141) C dX4_logNow_137 (by decide) ?_
            refine k_iadd (q := 142) C dX4_logNow_141 rfl ?_
            refine k_st (st2 := (.int (nI (kn + 1)) :: _)) (congrArg (fun z => Value.int z :: _) (show (nI kn) + 1 = nI (kn + 1) from nI_add kn 1)) ?_
            refine k_iast (q := 143) (w2 := (wM a cy th sm ln pt sg fi se (mSt n o h t s g (kn + 1) lo lf (upd (upd (upd (upd (mShN nm 3) 0 (f1 0)) 1 (-99999)) 2 (f1 2)) 3 0)) sv sl ik bf c1 g1 f1)) C 1 rfl (vp_in_nI (n := 9) (by decide) (by decide)) (by exact wM_st (mSt_w9 (kn + 1))) dX4_logNow_142 rfl ?_
            refine k_aload_n (q := 144) C 0 dX4_logNow_143 rfl rfl ?_
            refine k_get (q := 147) (ci := 4) (v := .ref (a 1)) C 0 1 in4_X4_logNow rfl (List.mem_of_getElem? (i := 1) rfl) rfl rfl (by decide) rfl dX4_logNow_144 rfl ?_
            refine k_bipush (q := 149) (v := 10) C dX4_logNow_147 (by decide +kernel) rfl ?_
            refine k_dup2 (q := 150) C dX4_logNow_149 rfl rfl rfl ?_
            refine k_iald (q := 151) C 1 rfl (vp_in_nI (n := 10) (by decide) (by decide)) dX4_logNow_150 rfl ?_
            refine k_st (st2 := (.int ((mSt n o h t s g (kn + 1) lo lf (upd (upd (upd (upd (mShN nm 3) 0 (f1 0)) 1 (-99999)) 2 (f1 2)) 3 0)) 10) :: _)) (congrArg (fun z => Value.int z :: _) (show (mSt n o h t s g (kn + 1) lo lf (upd (upd (upd (upd (mShN nm 3) 0 (f1 0)) 1 (-99999)) 2 (f1 2)) 3 0)) (10 : Int32).toNatClampNeg = (mSt n o h t s g (kn + 1) lo lf (upd (upd (upd (upd (mShN nm 3) 0 (f1 0)) 1 (-99999)) 2 (f1 2)) 3 0)) 10 from congrArg (mSt n o h t s g (kn + 1) lo lf (upd (upd (upd (upd (mShN nm 3) 0 (f1 0)) 1 (-99999)) 2 (f1 2)) 3 0)) (nI_clamp (n := 10) (by decide)))) ?_
            refine k_st (st2 := (.int lo :: _)) (congrArg (fun z => Value.int z :: _) (show (mSt n o h t s g (kn + 1) lo lf (upd (upd (upd (upd (mShN nm 3) 0 (f1 0)) 1 (-99999)) 2 (f1 2)) 3 0)) 10 = lo from rfl)) ?_
            refine k_iconst (q := 152) (v := 1) C dX4_logNow_151 (by decide) rfl ?_
            refine k_iadd (q := 153) C dX4_logNow_152 rfl ?_
            refine k_iast (q := 154) (w2 := (wM a cy th sm ln pt sg fi se (mSt n o h t s g (kn + 1) (lo + 1) lf (upd (upd (upd (upd (mShN nm 3) 0 (f1 0)) 1 (-99999)) 2 (f1 2)) 3 0)) sv sl ik bf c1 g1 f1)) C 1 rfl (vp_in_nI (n := 10) (by decide) (by decide)) (by exact wM_st (mSt_w10)) dX4_logNow_153 rfl ?_
            refine k_aload_n (q := 155) C 0 dX4_logNow_154 rfl rfl ?_
            refine k_get (q := 158) (ci := 4) (v := .ref (a 1)) C 0 1 in4_X4_logNow rfl (List.mem_of_getElem? (i := 1) rfl) rfl rfl (by decide) rfl dX4_logNow_155 rfl ?_
            refine k_bipush (q := 160) (v := 11) C dX4_logNow_158 (by decide +kernel) rfl ?_
            refine k_dup2 (q := 161) C dX4_logNow_160 rfl rfl rfl ?_
            refine k_iald (q := 162) C 1 rfl (vp_in_nI (n := 11) (by decide) (by decide)) dX4_logNow_161 rfl ?_
            refine k_st (st2 := (.int ((mSt n o h t s g (kn + 1) (lo + 1) lf (upd (upd (upd (upd (mShN nm 3) 0 (f1 0)) 1 (-99999)) 2 (f1 2)) 3 0)) 11) :: _)) (congrArg (fun z => Value.int z :: _) (show (mSt n o h t s g (kn + 1) (lo + 1) lf (upd (upd (upd (upd (mShN nm 3) 0 (f1 0)) 1 (-99999)) 2 (f1 2)) 3 0)) (11 : Int32).toNatClampNeg = (mSt n o h t s g (kn + 1) (lo + 1) lf (upd (upd (upd (upd (mShN nm 3) 0 (f1 0)) 1 (-99999)) 2 (f1 2)) 3 0)) 11 from congrArg (mSt n o h t s g (kn + 1) (lo + 1) lf (upd (upd (upd (upd (mShN nm 3) 0 (f1 0)) 1 (-99999)) 2 (f1 2)) 3 0)) (nI_clamp (n := 11) (by decide)))) ?_
            refine k_st (st2 := (.int lf :: _)) (congrArg (fun z => Value.int z :: _) (show (mSt n o h t s g (kn + 1) (lo + 1) lf (upd (upd (upd (upd (mShN nm 3) 0 (f1 0)) 1 (-99999)) 2 (f1 2)) 3 0)) 11 = lf from rfl)) ?_
            refine k_aload_n (q := 163) C 0 dX4_logNow_162 rfl rfl ?_
            refine k_get (q := 166) (ci := 4) (v := .ref (a 1)) C 0 1 in4_X4_logNow rfl (List.mem_of_getElem? (i := 1) rfl) rfl rfl (by decide) rfl dX4_logNow_163 rfl ?_
            refine k_bipush (q := 168) (v := 27) C dX4_logNow_166 (by decide +kernel) rfl ?_
            refine k_iald (q := 169) C 1 rfl (vp_in_nI (n := 27) (by decide) (by decide)) dX4_logNow_168 rfl ?_
            refine k_st (st2 := (.int ((mSt n o h t s g (kn + 1) (lo + 1) lf (upd (upd (upd (upd (mShN nm 3) 0 (f1 0)) 1 (-99999)) 2 (f1 2)) 3 0)) 27) :: _)) (congrArg (fun z => Value.int z :: _) (show (mSt n o h t s g (kn + 1) (lo + 1) lf (upd (upd (upd (upd (mShN nm 3) 0 (f1 0)) 1 (-99999)) 2 (f1 2)) 3 0)) (27 : Int32).toNatClampNeg = (mSt n o h t s g (kn + 1) (lo + 1) lf (upd (upd (upd (upd (mShN nm 3) 0 (f1 0)) 1 (-99999)) 2 (f1 2)) 3 0)) 27 from congrArg (mSt n o h t s g (kn + 1) (lo + 1) lf (upd (upd (upd (upd (mShN nm 3) 0 (f1 0)) 1 (-99999)) 2 (f1 2)) 3 0)) (nI_clamp (n := 27) (by decide)))) ?_
            refine k_st (st2 := (.int ((upd (upd (upd (upd (mShN nm 3) 0 (f1 0)) 1 (-99999)) 2 (f1 2)) 3 0) 3) :: _)) (congrArg (fun z => Value.int z :: _) (show (mSt n o h t s g (kn + 1) (lo + 1) lf (upd (upd (upd (upd (mShN nm 3) 0 (f1 0)) 1 (-99999)) 2 (f1 2)) 3 0)) 27 = (upd (upd (upd (upd (mShN nm 3) 0 (f1 0)) 1 (-99999)) 2 (f1 2)) 3 0) 3 from mSt_m (k := 3))) ?_
            refine k_iadd (q := 170) C dX4_logNow_169 rfl ?_
            refine k_iast (q := 171) (w2 := (wM a cy th sm ln pt sg fi se (mSt n o h t s g (kn + 1) (lo + 1) (lf + ((upd (upd (upd (upd (mShN nm 3) 0 (f1 0)) 1 (-99999)) 2 (f1 2)) 3 0) 3)) (upd (upd (upd (upd (mShN nm 3) 0 (f1 0)) 1 (-99999)) 2 (f1 2)) 3 0)) sv sl ik bf c1 g1 f1)) C 1 rfl (vp_in_nI (n := 11) (by decide) (by decide)) (by exact wM_st (mSt_w11)) dX4_logNow_170 rfl ?_
            refine k_aload_n (q := 172) C 0 dX4_logNow_171 rfl rfl ?_
            refine k_get (q := 175) (ci := 4) (v := .ref (a 1)) C 0 1 in4_X4_logNow rfl (List.mem_of_getElem? (i := 1) rfl) rfl rfl (by decide) rfl dX4_logNow_172 rfl ?_
            refine k_bipush (q := 177) (v := 9) C dX4_logNow_175 (by decide +kernel) rfl ?_
            refine k_iald (q := 178) C 1 rfl (vp_in_nI (n := 9) (by decide) (by decide)) dX4_logNow_177 rfl ?_
            refine k_st (st2 := (.int ((mSt n o h t s g (kn + 1) (lo + 1) (lf + ((upd (upd (upd (upd (mShN nm 3) 0 (f1 0)) 1 (-99999)) 2 (f1 2)) 3 0) 3)) (upd (upd (upd (upd (mShN nm 3) 0 (f1 0)) 1 (-99999)) 2 (f1 2)) 3 0)) 9) :: _)) (congrArg (fun z => Value.int z :: _) (show (mSt n o h t s g (kn + 1) (lo + 1) (lf + ((upd (upd (upd (upd (mShN nm 3) 0 (f1 0)) 1 (-99999)) 2 (f1 2)) 3 0) 3)) (upd (upd (upd (upd (mShN nm 3) 0 (f1 0)) 1 (-99999)) 2 (f1 2)) 3 0)) (9 : Int32).toNatClampNeg = (mSt n o h t s g (kn + 1) (lo + 1) (lf + ((upd (upd (upd (upd (mShN nm 3) 0 (f1 0)) 1 (-99999)) 2 (f1 2)) 3 0) 3)) (upd (upd (upd (upd (mShN nm 3) 0 (f1 0)) 1 (-99999)) 2 (f1 2)) 3 0)) 9 from congrArg (mSt n o h t s g (kn + 1) (lo + 1) (lf + ((upd (upd (upd (upd (mShN nm 3) 0 (f1 0)) 1 (-99999)) 2 (f1 2)) 3 0) 3)) (upd (upd (upd (upd (mShN nm 3) 0 (f1 0)) 1 (-99999)) 2 (f1 2)) 3 0)) (nI_clamp (n := 9) (by decide)))) ?_
            refine k_st (st2 := (.int (nI (kn + 1)) :: _)) (congrArg (fun z => Value.int z :: _) (show (mSt n o h t s g (kn + 1) (lo + 1) (lf + ((upd (upd (upd (upd (mShN nm 3) 0 (f1 0)) 1 (-99999)) 2 (f1 2)) 3 0) 3)) (upd (upd (upd (upd (mShN nm 3) 0 (f1 0)) 1 (-99999)) 2 (f1 2)) 3 0)) 9 = nI (kn + 1) from rfl)) ?_
            exact k_finx E (c1, g1, f1) dX4_logNow_178 (by first | rfl | (congr 1; omega)) (by first | (rw [mLg_n hno, hfn.1, hfn.2.2.1, mShN_3, show min (kn + 1) 8 = kn + 0 by omega]; rfl) | (rw [mLg_n hno, hfn.1, hfn.2.2.1, mShN_3, show min (kn + 1) 8 = kn + 1 by omega]; rfl) | (rw [mLg_y c_59.1 ep (by omega), hfy.1, hfy.2.2.1, hfy.2.2.2, mShN_3, show min (kn + 1) 8 = kn + 0 by omega]; rfl) | (rw [mLg_y c_59.1 ep (by omega), hfy.1, hfy.2.2.1, hfy.2.2.2, mShN_3, show min (kn + 1) 8 = kn + 1 by omega]; rfl)) (trivial)
        · exact fun c_102 => absurd c_102 c_59
      · intro c_59
        obtain ⟨p, hp, ep⟩ := (mC_ex _ _ _).resolve_left c_59.2
        have hfy := hf.2 p hp c_59.1 ep
        refine k_aload_n (q := 63) C 0 dX4_logNow_62 rfl rfl ?_
        refine k_get (q := 66) (ci := 4) (v := .ref (a 1)) C 0 1 in4_X4_logNow rfl (List.mem_of_getElem? (i := 1) rfl) rfl rfl (by decide) rfl dX4_logNow_63 rfl ?_
        refine k_bipush (q := 68) (v := 12) C dX4_logNow_66 (by decide +kernel) rfl ?_
        refine k_aload_n (q := 69) C 0 dX4_logNow_68 rfl rfl ?_
        refine k_get (q := 72) (ci := 4) (v := .ref (a 8)) C 0 14 in4_X4_logNow rfl (List.mem_of_getElem? (i := 2) rfl) rfl rfl (by decide) rfl dX4_logNow_69 rfl ?_
        refine k_iconst (q := 73) (v := 1) C dX4_logNow_72 (by decide) rfl ?_
        refine k_iald (q := 74) C 8 rfl (vp_in_nI (n := 1) (by decide) (by decide)) dX4_logNow_73 rfl ?_
        refine k_st (st2 := (.int (f1 1) :: _)) (congrArg (fun z => Value.int z :: _) (show f1 (1 : Int32).toNatClampNeg = f1 1 from congrArg f1 (nI_clamp (n := 1) (by decide)))) ?_
        refine k_st (st2 := (.int (nI p) :: _)) (congrArg (fun z => Value.int z :: _) (show f1 1 = nI p from hfy.2.1)) ?_
        refine k_iadd (q := 75) C dX4_logNow_74 rfl ?_
        refine k_st (st2 := (.int (nI (12 + p)) :: _)) (congrArg (fun z => Value.int z :: _) (show 12 + (nI p) = nI (12 + p) from nI_add 12 p)) ?_
        refine k_iald (q := 76) C 1 rfl (vp_in_nI (n := 12 + p) (by omega) (by decide)) dX4_logNow_75 rfl ?_
        refine k_st (st2 := (.int ((mSt n o h t s g kn lo lf (upd (mShN nm 3) 0 (f1 0))) (12 + p)) :: _)) (congrArg (fun z => Value.int z :: _) (show (mSt n o h t s g kn lo lf (upd (mShN nm 3) 0 (f1 0))) (nI (12 + p)).toNatClampNeg = (mSt n o h t s g kn lo lf (upd (mShN nm 3) 0 (f1 0))) (12 + p) from congrArg (mSt n o h t s g kn lo lf (upd (mShN nm 3) 0 (f1 0))) (nI_clamp (n := 12 + p) (by omega)))) ?_
        refine k_st (st2 := (.int (h p) :: _)) (congrArg (fun z => Value.int z :: _) (show (mSt n o h t s g kn lo lf (upd (mShN nm 3) 0 (f1 0))) (12 + p) = h p from mSt_h (k := p) (by omega))) ?_
        refine k_goto (q := 81) C dX4_logNow_76 (by decide) ?_
        refine k_iast (q := 82) (w2 := (wM a cy th sm ln pt sg fi se (mSt n o h t s g kn lo lf (upd (upd (mShN nm 3) 0 (f1 0)) 1 (h p))) sv sl ik bf c1 g1 f1)) C 1 rfl (vp_in_nI (n := 25) (by decide) (by decide)) (by exact wM_st (mSt_wm (k := 1))) dX4_logNow_81 rfl ?_
        refine k_aload_n (q := 83) C 0 dX4_logNow_82 rfl rfl ?_
        refine k_get (q := 86) (ci := 4) (v := .ref (a 1)) C 0 1 in4_X4_logNow rfl (List.mem_of_getElem? (i := 1) rfl) rfl rfl (by decide) rfl dX4_logNow_83 rfl ?_
        refine k_bipush (q := 88) (v := 26) C dX4_logNow_86 (by decide +kernel) rfl ?_
        refine k_aload_n (q := 89) C 0 dX4_logNow_88 rfl rfl ?_
        refine k_get (q := 92) (ci := 4) (v := .ref (a 8)) C 0 14 in4_X4_logNow rfl (List.mem_of_getElem? (i := 2) rfl) rfl rfl (by decide) rfl dX4_logNow_89 rfl ?_
        refine k_iconst (q := 93) (v := 2) C dX4_logNow_92 (by decide) rfl ?_
        refine k_iald (q := 94) C 8 rfl (vp_in_nI (n := 2) (by decide) (by decide)) dX4_logNow_93 rfl ?_
        refine k_st (st2 := (.int (f1 2) :: _)) (congrArg (fun z => Value.int z :: _) (show f1 (2 : Int32).toNatClampNeg = f1 2 from congrArg f1 (nI_clamp (n := 2) (by decide)))) ?_
        refine k_iast (q := 95) (w2 := (wM a cy th sm ln pt sg fi se (mSt n o h t s g kn lo lf (upd (upd (upd (mShN nm 3) 0 (f1 0)) 1 (h p)) 2 (f1 2))) sv sl ik bf c1 g1 f1)) C 1 rfl (vp_in_nI (n := 26) (by decide) (by decide)) (by exact wM_st (mSt_wm (k := 2))) dX4_logNow_94 rfl ?_
        refine k_aload_n (q := 96) C 0 dX4_logNow_95 rfl rfl ?_
        refine k_get (q := 99) (ci := 4) (v := .ref (a 1)) C 0 1 in4_X4_logNow rfl (List.mem_of_getElem? (i := 1) rfl) rfl rfl (by decide) rfl dX4_logNow_96 rfl ?_
        refine k_bipush (q := 101) (v := 27) C dX4_logNow_99 (by decide +kernel) rfl ?_
        refine k_iload_n (q := 102) C 1 dX4_logNow_101 rfl rfl ?_
        refine k_ifB_eq (tgt := 114) (q := 105) C dX4_logNow_102 (by decide) rfl ?_ ?_
        · exact fun c_102 => absurd c_59 c_102
        · intro c_102
          refine k_aload_n (q := 106) C 0 dX4_logNow_105 rfl rfl ?_
          refine k_get (q := 109) (ci := 4) (v := .ref (a 8)) C 0 14 in4_X4_logNow rfl (List.mem_of_getElem? (i := 2) rfl) rfl rfl (by decide) rfl dX4_logNow_106 rfl ?_
          refine k_iconst (q := 110) (v := 3) C dX4_logNow_109 (by decide) rfl ?_
          refine k_iald (q := 111) C 8 rfl (vp_in_nI (n := 3) (by decide) (by decide)) dX4_logNow_110 rfl ?_
          refine k_st (st2 := (.int (f1 3) :: _)) (congrArg (fun z => Value.int z :: _) (show f1 (3 : Int32).toNatClampNeg = f1 3 from congrArg f1 (nI_clamp (n := 3) (by decide)))) ?_
          refine k_goto (q := 115) C dX4_logNow_111 (by decide) ?_
          refine k_iast (q := 116) (w2 := (wM a cy th sm ln pt sg fi se (mSt n o h t s g kn lo lf (upd (upd (upd (upd (mShN nm 3) 0 (f1 0)) 1 (h p)) 2 (f1 2)) 3 (f1 3))) sv sl ik bf c1 g1 f1)) C 1 rfl (vp_in_nI (n := 27) (by decide) (by decide)) (by exact wM_st (mSt_wm (k := 3))) dX4_logNow_115 rfl ?_
          refine k_aload_n (q := 117) C 0 dX4_logNow_116 rfl rfl ?_
          refine k_get (q := 120) (ci := 4) (v := .ref (a 1)) C 0 1 in4_X4_logNow rfl (List.mem_of_getElem? (i := 1) rfl) rfl rfl (by decide) rfl dX4_logNow_117 rfl ?_
          refine k_bipush (q := 122) (v := 9) C dX4_logNow_120 (by decide +kernel) rfl ?_
          refine k_dup2 (q := 123) C dX4_logNow_122 rfl rfl rfl ?_
          refine k_iald (q := 124) C 1 rfl (vp_in_nI (n := 9) (by decide) (by decide)) dX4_logNow_123 rfl ?_
          refine k_st (st2 := (.int ((mSt n o h t s g kn lo lf (upd (upd (upd (upd (mShN nm 3) 0 (f1 0)) 1 (h p)) 2 (f1 2)) 3 (f1 3))) 9) :: _)) (congrArg (fun z => Value.int z :: _) (show (mSt n o h t s g kn lo lf (upd (upd (upd (upd (mShN nm 3) 0 (f1 0)) 1 (h p)) 2 (f1 2)) 3 (f1 3))) (9 : Int32).toNatClampNeg = (mSt n o h t s g kn lo lf (upd (upd (upd (upd (mShN nm 3) 0 (f1 0)) 1 (h p)) 2 (f1 2)) 3 (f1 3))) 9 from congrArg (mSt n o h t s g kn lo lf (upd (upd (upd (upd (mShN nm 3) 0 (f1 0)) 1 (h p)) 2 (f1 2)) 3 (f1 3))) (nI_clamp (n := 9) (by decide)))) ?_
          refine k_st (st2 := (.int (nI kn) :: _)) (congrArg (fun z => Value.int z :: _) (show (mSt n o h t s g kn lo lf (upd (upd (upd (upd (mShN nm 3) 0 (f1 0)) 1 (h p)) 2 (f1 2)) 3 (f1 3))) 9 = nI kn from rfl)) ?_
          refine k_aload_n (q := 125) C 0 dX4_logNow_124 rfl rfl ?_
          refine k_get (q := 128) (ci := 4) (v := .ref (a 1)) C 0 1 in4_X4_logNow rfl (List.mem_of_getElem? (i := 1) rfl) rfl rfl (by decide) rfl dX4_logNow_125 rfl ?_
          refine k_bipush (q := 130) (v := 9) C dX4_logNow_128 (by decide +kernel) rfl ?_
          refine k_iald (q := 131) C 1 rfl (vp_in_nI (n := 9) (by decide) (by decide)) dX4_logNow_130 rfl ?_
          refine k_st (st2 := (.int ((mSt n o h t s g kn lo lf (upd (upd (upd (upd (mShN nm 3) 0 (f1 0)) 1 (h p)) 2 (f1 2)) 3 (f1 3))) 9) :: _)) (congrArg (fun z => Value.int z :: _) (show (mSt n o h t s g kn lo lf (upd (upd (upd (upd (mShN nm 3) 0 (f1 0)) 1 (h p)) 2 (f1 2)) 3 (f1 3))) (9 : Int32).toNatClampNeg = (mSt n o h t s g kn lo lf (upd (upd (upd (upd (mShN nm 3) 0 (f1 0)) 1 (h p)) 2 (f1 2)) 3 (f1 3))) 9 from congrArg (mSt n o h t s g kn lo lf (upd (upd (upd (upd (mShN nm 3) 0 (f1 0)) 1 (h p)) 2 (f1 2)) 3 (f1 3))) (nI_clamp (n := 9) (by decide)))) ?_
          refine k_st (st2 := (.int (nI kn) :: _)) (congrArg (fun z => Value.int z :: _) (show (mSt n o h t s g kn lo lf (upd (upd (upd (upd (mShN nm 3) 0 (f1 0)) 1 (h p)) 2 (f1 2)) 3 (f1 3))) 9 = nI kn from rfl)) ?_
          refine k_bipush (q := 133) (v := 8) C dX4_logNow_131 (by decide +kernel) rfl ?_
          refine k_nicmp_ge (a := kn) (b := 8)  (tgt := 140) (q := 136) C dX4_logNow_133 (by decide) rfl (by omega) (by decide) ?_ ?_
          · intro c_133
            refine k_iconst (q := 141) (v := 0) C dX4_logNow_140 (by decide) rfl ?_
            refine k_iadd (q := 142) C dX4_logNow_141 rfl ?_
            refine k_st (st2 := (.int (nI (kn + 0)) :: _)) (congrArg (fun z => Value.int z :: _) (show (nI kn) + 0 = nI (kn + 0) from nI_add kn 0)) ?_
            refine k_iast (q := 143) (w2 := (wM a cy th sm ln pt sg fi se (mSt n o h t s g (kn + 0) lo lf (upd (upd (upd (upd (mShN nm 3) 0 (f1 0)) 1 (h p)) 2 (f1 2)) 3 (f1 3))) sv sl ik bf c1 g1 f1)) C 1 rfl (vp_in_nI (n := 9) (by decide) (by decide)) (by exact wM_st (mSt_w9 (kn + 0))) dX4_logNow_142 rfl ?_
            refine k_aload_n (q := 144) C 0 dX4_logNow_143 rfl rfl ?_
            refine k_get (q := 147) (ci := 4) (v := .ref (a 1)) C 0 1 in4_X4_logNow rfl (List.mem_of_getElem? (i := 1) rfl) rfl rfl (by decide) rfl dX4_logNow_144 rfl ?_
            refine k_bipush (q := 149) (v := 10) C dX4_logNow_147 (by decide +kernel) rfl ?_
            refine k_dup2 (q := 150) C dX4_logNow_149 rfl rfl rfl ?_
            refine k_iald (q := 151) C 1 rfl (vp_in_nI (n := 10) (by decide) (by decide)) dX4_logNow_150 rfl ?_
            refine k_st (st2 := (.int ((mSt n o h t s g (kn + 0) lo lf (upd (upd (upd (upd (mShN nm 3) 0 (f1 0)) 1 (h p)) 2 (f1 2)) 3 (f1 3))) 10) :: _)) (congrArg (fun z => Value.int z :: _) (show (mSt n o h t s g (kn + 0) lo lf (upd (upd (upd (upd (mShN nm 3) 0 (f1 0)) 1 (h p)) 2 (f1 2)) 3 (f1 3))) (10 : Int32).toNatClampNeg = (mSt n o h t s g (kn + 0) lo lf (upd (upd (upd (upd (mShN nm 3) 0 (f1 0)) 1 (h p)) 2 (f1 2)) 3 (f1 3))) 10 from congrArg (mSt n o h t s g (kn + 0) lo lf (upd (upd (upd (upd (mShN nm 3) 0 (f1 0)) 1 (h p)) 2 (f1 2)) 3 (f1 3))) (nI_clamp (n := 10) (by decide)))) ?_
            refine k_st (st2 := (.int lo :: _)) (congrArg (fun z => Value.int z :: _) (show (mSt n o h t s g (kn + 0) lo lf (upd (upd (upd (upd (mShN nm 3) 0 (f1 0)) 1 (h p)) 2 (f1 2)) 3 (f1 3))) 10 = lo from rfl)) ?_
            refine k_iconst (q := 152) (v := 1) C dX4_logNow_151 (by decide) rfl ?_
            refine k_iadd (q := 153) C dX4_logNow_152 rfl ?_
            refine k_iast (q := 154) (w2 := (wM a cy th sm ln pt sg fi se (mSt n o h t s g (kn + 0) (lo + 1) lf (upd (upd (upd (upd (mShN nm 3) 0 (f1 0)) 1 (h p)) 2 (f1 2)) 3 (f1 3))) sv sl ik bf c1 g1 f1)) C 1 rfl (vp_in_nI (n := 10) (by decide) (by decide)) (by exact wM_st (mSt_w10)) dX4_logNow_153 rfl ?_
            refine k_aload_n (q := 155) C 0 dX4_logNow_154 rfl rfl ?_
            refine k_get (q := 158) (ci := 4) (v := .ref (a 1)) C 0 1 in4_X4_logNow rfl (List.mem_of_getElem? (i := 1) rfl) rfl rfl (by decide) rfl dX4_logNow_155 rfl ?_
            refine k_bipush (q := 160) (v := 11) C dX4_logNow_158 (by decide +kernel) rfl ?_
            refine k_dup2 (q := 161) C dX4_logNow_160 rfl rfl rfl ?_
            refine k_iald (q := 162) C 1 rfl (vp_in_nI (n := 11) (by decide) (by decide)) dX4_logNow_161 rfl ?_
            refine k_st (st2 := (.int ((mSt n o h t s g (kn + 0) (lo + 1) lf (upd (upd (upd (upd (mShN nm 3) 0 (f1 0)) 1 (h p)) 2 (f1 2)) 3 (f1 3))) 11) :: _)) (congrArg (fun z => Value.int z :: _) (show (mSt n o h t s g (kn + 0) (lo + 1) lf (upd (upd (upd (upd (mShN nm 3) 0 (f1 0)) 1 (h p)) 2 (f1 2)) 3 (f1 3))) (11 : Int32).toNatClampNeg = (mSt n o h t s g (kn + 0) (lo + 1) lf (upd (upd (upd (upd (mShN nm 3) 0 (f1 0)) 1 (h p)) 2 (f1 2)) 3 (f1 3))) 11 from congrArg (mSt n o h t s g (kn + 0) (lo + 1) lf (upd (upd (upd (upd (mShN nm 3) 0 (f1 0)) 1 (h p)) 2 (f1 2)) 3 (f1 3))) (nI_clamp (n := 11) (by decide)))) ?_
            refine k_st (st2 := (.int lf :: _)) (congrArg (fun z => Value.int z :: _) (show (mSt n o h t s g (kn + 0) (lo + 1) lf (upd (upd (upd (upd (mShN nm 3) 0 (f1 0)) 1 (h p)) 2 (f1 2)) 3 (f1 3))) 11 = lf from rfl)) ?_
            refine k_aload_n (q := 163) C 0 dX4_logNow_162 rfl rfl ?_
            refine k_get (q := 166) (ci := 4) (v := .ref (a 1)) C 0 1 in4_X4_logNow rfl (List.mem_of_getElem? (i := 1) rfl) rfl rfl (by decide) rfl dX4_logNow_163 rfl ?_
            refine k_bipush (q := 168) (v := 27) C dX4_logNow_166 (by decide +kernel) rfl ?_
            refine k_iald (q := 169) C 1 rfl (vp_in_nI (n := 27) (by decide) (by decide)) dX4_logNow_168 rfl ?_
            refine k_st (st2 := (.int ((mSt n o h t s g (kn + 0) (lo + 1) lf (upd (upd (upd (upd (mShN nm 3) 0 (f1 0)) 1 (h p)) 2 (f1 2)) 3 (f1 3))) 27) :: _)) (congrArg (fun z => Value.int z :: _) (show (mSt n o h t s g (kn + 0) (lo + 1) lf (upd (upd (upd (upd (mShN nm 3) 0 (f1 0)) 1 (h p)) 2 (f1 2)) 3 (f1 3))) (27 : Int32).toNatClampNeg = (mSt n o h t s g (kn + 0) (lo + 1) lf (upd (upd (upd (upd (mShN nm 3) 0 (f1 0)) 1 (h p)) 2 (f1 2)) 3 (f1 3))) 27 from congrArg (mSt n o h t s g (kn + 0) (lo + 1) lf (upd (upd (upd (upd (mShN nm 3) 0 (f1 0)) 1 (h p)) 2 (f1 2)) 3 (f1 3))) (nI_clamp (n := 27) (by decide)))) ?_
            refine k_st (st2 := (.int ((upd (upd (upd (upd (mShN nm 3) 0 (f1 0)) 1 (h p)) 2 (f1 2)) 3 (f1 3)) 3) :: _)) (congrArg (fun z => Value.int z :: _) (show (mSt n o h t s g (kn + 0) (lo + 1) lf (upd (upd (upd (upd (mShN nm 3) 0 (f1 0)) 1 (h p)) 2 (f1 2)) 3 (f1 3))) 27 = (upd (upd (upd (upd (mShN nm 3) 0 (f1 0)) 1 (h p)) 2 (f1 2)) 3 (f1 3)) 3 from mSt_m (k := 3))) ?_
            refine k_iadd (q := 170) C dX4_logNow_169 rfl ?_
            refine k_iast (q := 171) (w2 := (wM a cy th sm ln pt sg fi se (mSt n o h t s g (kn + 0) (lo + 1) (lf + ((upd (upd (upd (upd (mShN nm 3) 0 (f1 0)) 1 (h p)) 2 (f1 2)) 3 (f1 3)) 3)) (upd (upd (upd (upd (mShN nm 3) 0 (f1 0)) 1 (h p)) 2 (f1 2)) 3 (f1 3))) sv sl ik bf c1 g1 f1)) C 1 rfl (vp_in_nI (n := 11) (by decide) (by decide)) (by exact wM_st (mSt_w11)) dX4_logNow_170 rfl ?_
            refine k_aload_n (q := 172) C 0 dX4_logNow_171 rfl rfl ?_
            refine k_get (q := 175) (ci := 4) (v := .ref (a 1)) C 0 1 in4_X4_logNow rfl (List.mem_of_getElem? (i := 1) rfl) rfl rfl (by decide) rfl dX4_logNow_172 rfl ?_
            refine k_bipush (q := 177) (v := 9) C dX4_logNow_175 (by decide +kernel) rfl ?_
            refine k_iald (q := 178) C 1 rfl (vp_in_nI (n := 9) (by decide) (by decide)) dX4_logNow_177 rfl ?_
            refine k_st (st2 := (.int ((mSt n o h t s g (kn + 0) (lo + 1) (lf + ((upd (upd (upd (upd (mShN nm 3) 0 (f1 0)) 1 (h p)) 2 (f1 2)) 3 (f1 3)) 3)) (upd (upd (upd (upd (mShN nm 3) 0 (f1 0)) 1 (h p)) 2 (f1 2)) 3 (f1 3))) 9) :: _)) (congrArg (fun z => Value.int z :: _) (show (mSt n o h t s g (kn + 0) (lo + 1) (lf + ((upd (upd (upd (upd (mShN nm 3) 0 (f1 0)) 1 (h p)) 2 (f1 2)) 3 (f1 3)) 3)) (upd (upd (upd (upd (mShN nm 3) 0 (f1 0)) 1 (h p)) 2 (f1 2)) 3 (f1 3))) (9 : Int32).toNatClampNeg = (mSt n o h t s g (kn + 0) (lo + 1) (lf + ((upd (upd (upd (upd (mShN nm 3) 0 (f1 0)) 1 (h p)) 2 (f1 2)) 3 (f1 3)) 3)) (upd (upd (upd (upd (mShN nm 3) 0 (f1 0)) 1 (h p)) 2 (f1 2)) 3 (f1 3))) 9 from congrArg (mSt n o h t s g (kn + 0) (lo + 1) (lf + ((upd (upd (upd (upd (mShN nm 3) 0 (f1 0)) 1 (h p)) 2 (f1 2)) 3 (f1 3)) 3)) (upd (upd (upd (upd (mShN nm 3) 0 (f1 0)) 1 (h p)) 2 (f1 2)) 3 (f1 3))) (nI_clamp (n := 9) (by decide)))) ?_
            refine k_st (st2 := (.int (nI (kn + 0)) :: _)) (congrArg (fun z => Value.int z :: _) (show (mSt n o h t s g (kn + 0) (lo + 1) (lf + ((upd (upd (upd (upd (mShN nm 3) 0 (f1 0)) 1 (h p)) 2 (f1 2)) 3 (f1 3)) 3)) (upd (upd (upd (upd (mShN nm 3) 0 (f1 0)) 1 (h p)) 2 (f1 2)) 3 (f1 3))) 9 = nI (kn + 0) from rfl)) ?_
            exact k_finx E (c1, g1, f1) dX4_logNow_178 (by first | rfl | (congr 1; omega)) (by first | (rw [mLg_n hno, hfn.1, hfn.2.2.1, mShN_3, show min (kn + 1) 8 = kn + 0 by omega]; rfl) | (rw [mLg_n hno, hfn.1, hfn.2.2.1, mShN_3, show min (kn + 1) 8 = kn + 1 by omega]; rfl) | (rw [mLg_y c_59.1 ep (by omega), hfy.1, hfy.2.2.1, hfy.2.2.2, mShN_3, show min (kn + 1) 8 = kn + 0 by omega]; rfl) | (rw [mLg_y c_59.1 ep (by omega), hfy.1, hfy.2.2.1, hfy.2.2.2, mShN_3, show min (kn + 1) 8 = kn + 1 by omega]; rfl)) (trivial)
          · intro c_133
            refine k_iconst (q := 137) (v := 1) C dX4_logNow_136 (by decide) rfl ?_
            refine k_goto (q := 141) C dX4_logNow_137 (by decide) ?_
            refine k_iadd (q := 142) C dX4_logNow_141 rfl ?_
            refine k_st (st2 := (.int (nI (kn + 1)) :: _)) (congrArg (fun z => Value.int z :: _) (show (nI kn) + 1 = nI (kn + 1) from nI_add kn 1)) ?_
            refine k_iast (q := 143) (w2 := (wM a cy th sm ln pt sg fi se (mSt n o h t s g (kn + 1) lo lf (upd (upd (upd (upd (mShN nm 3) 0 (f1 0)) 1 (h p)) 2 (f1 2)) 3 (f1 3))) sv sl ik bf c1 g1 f1)) C 1 rfl (vp_in_nI (n := 9) (by decide) (by decide)) (by exact wM_st (mSt_w9 (kn + 1))) dX4_logNow_142 rfl ?_
            refine k_aload_n (q := 144) C 0 dX4_logNow_143 rfl rfl ?_
            refine k_get (q := 147) (ci := 4) (v := .ref (a 1)) C 0 1 in4_X4_logNow rfl (List.mem_of_getElem? (i := 1) rfl) rfl rfl (by decide) rfl dX4_logNow_144 rfl ?_
            refine k_bipush (q := 149) (v := 10) C dX4_logNow_147 (by decide +kernel) rfl ?_
            refine k_dup2 (q := 150) C dX4_logNow_149 rfl rfl rfl ?_
            refine k_iald (q := 151) C 1 rfl (vp_in_nI (n := 10) (by decide) (by decide)) dX4_logNow_150 rfl ?_
            refine k_st (st2 := (.int ((mSt n o h t s g (kn + 1) lo lf (upd (upd (upd (upd (mShN nm 3) 0 (f1 0)) 1 (h p)) 2 (f1 2)) 3 (f1 3))) 10) :: _)) (congrArg (fun z => Value.int z :: _) (show (mSt n o h t s g (kn + 1) lo lf (upd (upd (upd (upd (mShN nm 3) 0 (f1 0)) 1 (h p)) 2 (f1 2)) 3 (f1 3))) (10 : Int32).toNatClampNeg = (mSt n o h t s g (kn + 1) lo lf (upd (upd (upd (upd (mShN nm 3) 0 (f1 0)) 1 (h p)) 2 (f1 2)) 3 (f1 3))) 10 from congrArg (mSt n o h t s g (kn + 1) lo lf (upd (upd (upd (upd (mShN nm 3) 0 (f1 0)) 1 (h p)) 2 (f1 2)) 3 (f1 3))) (nI_clamp (n := 10) (by decide)))) ?_
            refine k_st (st2 := (.int lo :: _)) (congrArg (fun z => Value.int z :: _) (show (mSt n o h t s g (kn + 1) lo lf (upd (upd (upd (upd (mShN nm 3) 0 (f1 0)) 1 (h p)) 2 (f1 2)) 3 (f1 3))) 10 = lo from rfl)) ?_
            refine k_iconst (q := 152) (v := 1) C dX4_logNow_151 (by decide) rfl ?_
            refine k_iadd (q := 153) C dX4_logNow_152 rfl ?_
            refine k_iast (q := 154) (w2 := (wM a cy th sm ln pt sg fi se (mSt n o h t s g (kn + 1) (lo + 1) lf (upd (upd (upd (upd (mShN nm 3) 0 (f1 0)) 1 (h p)) 2 (f1 2)) 3 (f1 3))) sv sl ik bf c1 g1 f1)) C 1 rfl (vp_in_nI (n := 10) (by decide) (by decide)) (by exact wM_st (mSt_w10)) dX4_logNow_153 rfl ?_
            refine k_aload_n (q := 155) C 0 dX4_logNow_154 rfl rfl ?_
            refine k_get (q := 158) (ci := 4) (v := .ref (a 1)) C 0 1 in4_X4_logNow rfl (List.mem_of_getElem? (i := 1) rfl) rfl rfl (by decide) rfl dX4_logNow_155 rfl ?_
            refine k_bipush (q := 160) (v := 11) C dX4_logNow_158 (by decide +kernel) rfl ?_
            refine k_dup2 (q := 161) C dX4_logNow_160 rfl rfl rfl ?_
            refine k_iald (q := 162) C 1 rfl (vp_in_nI (n := 11) (by decide) (by decide)) dX4_logNow_161 rfl ?_
            refine k_st (st2 := (.int ((mSt n o h t s g (kn + 1) (lo + 1) lf (upd (upd (upd (upd (mShN nm 3) 0 (f1 0)) 1 (h p)) 2 (f1 2)) 3 (f1 3))) 11) :: _)) (congrArg (fun z => Value.int z :: _) (show (mSt n o h t s g (kn + 1) (lo + 1) lf (upd (upd (upd (upd (mShN nm 3) 0 (f1 0)) 1 (h p)) 2 (f1 2)) 3 (f1 3))) (11 : Int32).toNatClampNeg = (mSt n o h t s g (kn + 1) (lo + 1) lf (upd (upd (upd (upd (mShN nm 3) 0 (f1 0)) 1 (h p)) 2 (f1 2)) 3 (f1 3))) 11 from congrArg (mSt n o h t s g (kn + 1) (lo + 1) lf (upd (upd (upd (upd (mShN nm 3) 0 (f1 0)) 1 (h p)) 2 (f1 2)) 3 (f1 3))) (nI_clamp (n := 11) (by decide)))) ?_
            refine k_st (st2 := (.int lf :: _)) (congrArg (fun z => Value.int z :: _) (show (mSt n o h t s g (kn + 1) (lo + 1) lf (upd (upd (upd (upd (mShN nm 3) 0 (f1 0)) 1 (h p)) 2 (f1 2)) 3 (f1 3))) 11 = lf from rfl)) ?_
            refine k_aload_n (q := 163) C 0 dX4_logNow_162 rfl rfl ?_
            refine k_get (q := 166) (ci := 4) (v := .ref (a 1)) C 0 1 in4_X4_logNow rfl (List.mem_of_getElem? (i := 1) rfl) rfl rfl (by decide) rfl dX4_logNow_163 rfl ?_
            refine k_bipush (q := 168) (v := 27) C dX4_logNow_166 (by decide +kernel) rfl ?_
            refine k_iald (q := 169) C 1 rfl (vp_in_nI (n := 27) (by decide) (by decide)) dX4_logNow_168 rfl ?_
            refine k_st (st2 := (.int ((mSt n o h t s g (kn + 1) (lo + 1) lf (upd (upd (upd (upd (mShN nm 3) 0 (f1 0)) 1 (h p)) 2 (f1 2)) 3 (f1 3))) 27) :: _)) (congrArg (fun z => Value.int z :: _) (show (mSt n o h t s g (kn + 1) (lo + 1) lf (upd (upd (upd (upd (mShN nm 3) 0 (f1 0)) 1 (h p)) 2 (f1 2)) 3 (f1 3))) (27 : Int32).toNatClampNeg = (mSt n o h t s g (kn + 1) (lo + 1) lf (upd (upd (upd (upd (mShN nm 3) 0 (f1 0)) 1 (h p)) 2 (f1 2)) 3 (f1 3))) 27 from congrArg (mSt n o h t s g (kn + 1) (lo + 1) lf (upd (upd (upd (upd (mShN nm 3) 0 (f1 0)) 1 (h p)) 2 (f1 2)) 3 (f1 3))) (nI_clamp (n := 27) (by decide)))) ?_
            refine k_st (st2 := (.int ((upd (upd (upd (upd (mShN nm 3) 0 (f1 0)) 1 (h p)) 2 (f1 2)) 3 (f1 3)) 3) :: _)) (congrArg (fun z => Value.int z :: _) (show (mSt n o h t s g (kn + 1) (lo + 1) lf (upd (upd (upd (upd (mShN nm 3) 0 (f1 0)) 1 (h p)) 2 (f1 2)) 3 (f1 3))) 27 = (upd (upd (upd (upd (mShN nm 3) 0 (f1 0)) 1 (h p)) 2 (f1 2)) 3 (f1 3)) 3 from mSt_m (k := 3))) ?_
            refine k_iadd (q := 170) C dX4_logNow_169 rfl ?_
            refine k_iast (q := 171) (w2 := (wM a cy th sm ln pt sg fi se (mSt n o h t s g (kn + 1) (lo + 1) (lf + ((upd (upd (upd (upd (mShN nm 3) 0 (f1 0)) 1 (h p)) 2 (f1 2)) 3 (f1 3)) 3)) (upd (upd (upd (upd (mShN nm 3) 0 (f1 0)) 1 (h p)) 2 (f1 2)) 3 (f1 3))) sv sl ik bf c1 g1 f1)) C 1 rfl (vp_in_nI (n := 11) (by decide) (by decide)) (by exact wM_st (mSt_w11)) dX4_logNow_170 rfl ?_
            refine k_aload_n (q := 172) C 0 dX4_logNow_171 rfl rfl ?_
            refine k_get (q := 175) (ci := 4) (v := .ref (a 1)) C 0 1 in4_X4_logNow rfl (List.mem_of_getElem? (i := 1) rfl) rfl rfl (by decide) rfl dX4_logNow_172 rfl ?_
            refine k_bipush (q := 177) (v := 9) C dX4_logNow_175 (by decide +kernel) rfl ?_
            refine k_iald (q := 178) C 1 rfl (vp_in_nI (n := 9) (by decide) (by decide)) dX4_logNow_177 rfl ?_
            refine k_st (st2 := (.int ((mSt n o h t s g (kn + 1) (lo + 1) (lf + ((upd (upd (upd (upd (mShN nm 3) 0 (f1 0)) 1 (h p)) 2 (f1 2)) 3 (f1 3)) 3)) (upd (upd (upd (upd (mShN nm 3) 0 (f1 0)) 1 (h p)) 2 (f1 2)) 3 (f1 3))) 9) :: _)) (congrArg (fun z => Value.int z :: _) (show (mSt n o h t s g (kn + 1) (lo + 1) (lf + ((upd (upd (upd (upd (mShN nm 3) 0 (f1 0)) 1 (h p)) 2 (f1 2)) 3 (f1 3)) 3)) (upd (upd (upd (upd (mShN nm 3) 0 (f1 0)) 1 (h p)) 2 (f1 2)) 3 (f1 3))) (9 : Int32).toNatClampNeg = (mSt n o h t s g (kn + 1) (lo + 1) (lf + ((upd (upd (upd (upd (mShN nm 3) 0 (f1 0)) 1 (h p)) 2 (f1 2)) 3 (f1 3)) 3)) (upd (upd (upd (upd (mShN nm 3) 0 (f1 0)) 1 (h p)) 2 (f1 2)) 3 (f1 3))) 9 from congrArg (mSt n o h t s g (kn + 1) (lo + 1) (lf + ((upd (upd (upd (upd (mShN nm 3) 0 (f1 0)) 1 (h p)) 2 (f1 2)) 3 (f1 3)) 3)) (upd (upd (upd (upd (mShN nm 3) 0 (f1 0)) 1 (h p)) 2 (f1 2)) 3 (f1 3))) (nI_clamp (n := 9) (by decide)))) ?_
            refine k_st (st2 := (.int (nI (kn + 1)) :: _)) (congrArg (fun z => Value.int z :: _) (show (mSt n o h t s g (kn + 1) (lo + 1) (lf + ((upd (upd (upd (upd (mShN nm 3) 0 (f1 0)) 1 (h p)) 2 (f1 2)) 3 (f1 3)) 3)) (upd (upd (upd (upd (mShN nm 3) 0 (f1 0)) 1 (h p)) 2 (f1 2)) 3 (f1 3))) 9 = nI (kn + 1) from rfl)) ?_
            exact k_finx E (c1, g1, f1) dX4_logNow_178 (by first | rfl | (congr 1; omega)) (by first | (rw [mLg_n hno, hfn.1, hfn.2.2.1, mShN_3, show min (kn + 1) 8 = kn + 0 by omega]; rfl) | (rw [mLg_n hno, hfn.1, hfn.2.2.1, mShN_3, show min (kn + 1) 8 = kn + 1 by omega]; rfl) | (rw [mLg_y c_59.1 ep (by omega), hfy.1, hfy.2.2.1, hfy.2.2.2, mShN_3, show min (kn + 1) 8 = kn + 0 by omega]; rfl) | (rw [mLg_y c_59.1 ep (by omega), hfy.1, hfy.2.2.1, hfy.2.2.2, mShN_3, show min (kn + 1) 8 = kn + 1 by omega]; rfl)) (trivial)
    · intro c_10
      refine k_aload_n (q := 14) C 0 dX4_logNow_13 rfl rfl ?_
      refine k_get (q := 17) (ci := 4) (v := .ref (a 1)) C 0 1 in4_X4_logNow rfl (List.mem_of_getElem? (i := 1) rfl) rfl rfl (by decide) rfl dX4_logNow_14 rfl ?_
      refine k_bipush (q := 19) (v := 24) C dX4_logNow_17 (by decide +kernel) rfl ?_
      refine k_iload_n (q := 20) C 2 dX4_logNow_19 rfl rfl ?_
      refine k_iadd (q := 21) C dX4_logNow_20 rfl ?_
      refine k_st (st2 := (.int (nI (24 + k)) :: _)) (congrArg (fun z => Value.int z :: _) (show 24 + (nI k) = nI (24 + k) from nI_add 24 k)) ?_
      refine k_aload_n (q := 22) C 0 dX4_logNow_21 rfl rfl ?_
      refine k_get (q := 25) (ci := 4) (v := .ref (a 1)) C 0 1 in4_X4_logNow rfl (List.mem_of_getElem? (i := 1) rfl) rfl rfl (by decide) rfl dX4_logNow_22 rfl ?_
      refine k_bipush (q := 27) (v := 24) C dX4_logNow_25 (by decide +kernel) rfl ?_
      refine k_iload_n (q := 28) C 2 dX4_logNow_27 rfl rfl ?_
      refine k_iadd (q := 29) C dX4_logNow_28 rfl ?_
      refine k_st (st2 := (.int (nI (24 + k)) :: _)) (congrArg (fun z => Value.int z :: _) (show 24 + (nI k) = nI (24 + k) from nI_add 24 k)) ?_
      refine k_iconst (q := 30) (v := 4) C dX4_logNow_29 (by decide) rfl ?_
      refine k_isub (q := 31) C dX4_logNow_30 rfl ?_
      refine k_st (st2 := (.int (nI (24 + k - 4)) :: _)) (congrArg (fun z => Value.int z :: _) (show (nI (24 + k)) - 4 = nI (24 + k - 4) from pk_sub (a := 24 + k) (b := 4) (by omega))) ?_
      refine k_st (st2 := (.int (nI (24 + (k - 4))) :: _)) (congrArg (fun z => Value.int z :: _) (show nI (24 + k - 4) = nI (24 + (k - 4)) from congrArg nI (by omega))) ?_
      refine k_iald (q := 32) C 1 rfl (vp_in_nI (n := 24 + (k - 4)) (by omega) (by decide)) dX4_logNow_31 rfl ?_
      refine k_st (st2 := (.int ((mSt n o h t s g kn lo lf (mShN nm k)) (24 + (k - 4))) :: _)) (congrArg (fun z => Value.int z :: _) (show (mSt n o h t s g kn lo lf (mShN nm k)) (nI (24 + (k - 4))).toNatClampNeg = (mSt n o h t s g kn lo lf (mShN nm k)) (24 + (k - 4)) from congrArg (mSt n o h t s g kn lo lf (mShN nm k)) (nI_clamp (n := 24 + (k - 4)) (by omega)))) ?_
      refine k_st (st2 := (.int ((mShN nm k) (k - 4)) :: _)) (congrArg (fun z => Value.int z :: _) (show (mSt n o h t s g kn lo lf (mShN nm k)) (24 + (k - 4)) = (mShN nm k) (k - 4) from mSt_m (k := (k - 4)))) ?_
      refine k_st (st2 := (.int (nm (k - 4)) :: _)) (congrArg (fun z => Value.int z :: _) (show (mShN nm k) (k - 4) = nm (k - 4) from mShN_at (by omega))) ?_
      refine k_iast (q := 33) (w2 := (wM a cy th sm ln pt sg fi se (mSt n o h t s g kn lo lf (upd (mShN nm k) k (nm (k - 4)))) sv sl ik bf c1 g1 f1)) C 1 rfl (vp_in_nI (n := 24 + k) (by omega) (by decide)) (by rw [nI_clamp (n := 24 + k) (by omega)]; exact wM_st (mSt_wm (k := k))) dX4_logNow_32 rfl ?_
      refine k_w (w2 := (wM a cy th sm ln pt sg fi se (mSt n o h t s g kn lo lf (mShN nm (k - 1))) sv sl ik bf c1 g1 f1)) (by rw [mShN_s (by omega) (by omega)]) ?_
      refine k_iinc (q := 36) (v := nI (k - 1)) (fr2 := [(2, .int (nI (k - 1))), (0, .ref (a 0)), (1, .int (bI (¬ (sMeet g (s 0) (s 1)) = -99999 ∧ ¬ (mC (sClose (mLit o) h t s g) (mD h s g) n) = -99999)))]) C 2 dX4_logNow_33 rfl ((by rw [show (Int32.ofInt (-1)) = -1 from by decide +kernel, ← Int32.sub_eq_add_neg]; exact pk_sub (a := k) (b := 1) (by omega))) (by decide) rfl rfl ?_
      refine k_goto (q := 8) C dX4_logNow_36 (by decide) ?_
      refine k_fr (fr2 := [(0, .ref (a 0)), (1, .int (bI (¬ (sMeet g (s 0) (s 1)) = -99999 ∧ ¬ (mC (sClose (mLit o) h t s g) (mD h s g) n) = -99999))), (2, .int (nI (k - 1)))]) ⟨[1, 2, 0], rfl⟩ ?_
      exact ih (k - 1) c1 g1 f1 (by omega) (by omega) hf
set_option maxHeartbeats 4000000 in
set_option maxRecDepth 100000 in
theorem c_X4_logNow (cy : Nat → ClassId) (a : Nat → Nat) (th : Int32) (sm : Nat) (ln : Nat) (pt : Nat) (sg : Nat) (fi : Int32) (se : Int32) (n : Nat) (o : Nat → Int32) (h : Nat → Int32) (t : Nat → Int32) (s : Nat → Int32) (g : Nat → Int32) (kn : Nat) (lo : Int32) (lf : Int32) (nm : Nat → Int32) (sv : Nat → Int32) (sl : Nat → Int32) (ik : Nat → Int32) (bf : Nat → Nat) (co : Nat → Int32) (go : Nat → Int32) (fo : Nat → Int32)  (hn : n ≤ 6) (ho : mBin o) (h0 : sOk (s 0)) (h1 : sOk (s 1)) (hkn : kn ≤ 8) : kIx yX4_logNow wsX4_logNow rm_X4_logNow cy [.ref (a 0)] (wM a cy th sm ln pt sg fi se (mSt n o h t s g kn lo lf nm) sv sl ik bf co go fo) (nI (min (kn + 1) 8)) (fun (u : (Nat → Int32) × (Nat → Int32) × (Nat → Int32)) => (wM a cy th sm ln pt sg fi se (mSt n o h t s g (min (kn + 1) 8) (lo + 1) (lf + bI ((mLg h n (sMeet g (s 0) (s 1)) (mC (sClose (mLit o) h t s g) (mD h s g) n)).2.2.2 = true)) (sWrL nm (mLg h n (sMeet g (s 0) (s 1)) (mC (sClose (mLit o) h t s g) (mD h s g) n)))) sv sl ik bf u.1 u.2.1 u.2.2)) (fun (u : (Nat → Int32) × (Nat → Int32) × (Nat → Int32)) => True) := by
  refine kIx_of (cc := cX4_logNow) (maxL := 3) (rt := .int) (by decide) rfl (rfl) (Nat.le_of_ble_eq_true rfl) ?_
  intro X hR C E
  have C : kC X 3 RX4 cX4_logNow wsX4_logNow cy := C
  refine k_fr (fr2 := [(0, .ref (a 0))]) ⟨[0], rfl⟩ ?_
  refine k_aload_n (q := 1) C 0 dX4_logNow_0 rfl rfl ?_
  refine k_callVIx (n := 0) (q := 4) (pre := ([] : va_W)) (post := ([] : va_W)) (w2 := (fun u => (wM a cy th sm ln pt sg fi se (mSt n o h t s g kn lo lf nm) sv sl ik bf (u.1) (u.2.1) (u.2.2)))) (As := []) (rest := []) C (c_X4_read cy a th sm ln pt sg fi se n o h t s g kn lo lf nm sv sl ik bf co go fo hn ho h0 h1) gX4_logNow_X4_read rfl rfl rfl (by decide +kernel) (k_room hR (by decide)) ⟨Nat.zero_le _, Nat.zero_le _⟩ (ci := 4) rfl 0 rfl rfl rfl (Nat.le_of_ble_eq_true rfl) ((List.append_nil _).symm) (fun u => List.append_nil _) dX4_logNow_1 rfl ?_
  rintro ⟨co_1, go_1, fo_1⟩ h_1
  try dsimp only at h_1
  refine k_istore_n (q := 5) (fr2 := [(1, .int (bI (¬ (sMeet g (s 0) (s 1)) = -99999 ∧ ¬ (mC (sClose (mLit o) h t s g) (mD h s g) n) = -99999))), (0, .ref (a 0))]) C dX4_logNow_4 (by decide) rfl rfl ?_
  refine k_bipush (q := 7) (v := 31) C dX4_logNow_5 (by decide +kernel) rfl ?_
  refine k_istore_n (q := 8) (fr2 := [(2, .int 31), (1, .int (bI (¬ (sMeet g (s 0) (s 1)) = -99999 ∧ ¬ (mC (sClose (mLit o) h t s g) (mD h s g) n) = -99999))), (0, .ref (a 0))]) C dX4_logNow_7 (by decide) rfl rfl ?_
  refine k_fr (fr2 := [(0, .ref (a 0)), (1, .int (bI (¬ (sMeet g (s 0) (s 1)) = -99999 ∧ ¬ (mC (sClose (mLit o) h t s g) (mD h s g) n) = -99999))), (2, .int 31)]) ⟨[2, 1, 0], rfl⟩ ?_
  have K := lp_X4_logNow_8 cy a th sm ln pt sg fi se n o h t s g kn lo lf nm sv sl ik bf co go fo hn ho h0 h1 hkn X hR C E _ 31 co_1 go_1 fo_1 (Nat.lt_succ_self _) (by omega) h_1
  rw [mShN_0] at K
  exact K
abbrev rm_X4_bestSlope : Room := { frames := 3, cells := 0, slots := 0, locals := 65 }
theorem in4_X4_bestSlope : ∀ w ∈ wsX40, w ∈ wsX4_bestSlope := fun _ h => (List.mem_cons_of_mem _ (List.mem_append_right _ h))
set_option maxHeartbeats 4000000 in
set_option maxRecDepth 100000 in
theorem lp_X4_bestSlope_19 (cy : Nat → ClassId) (a : Nat → Nat) (th : Int32) (sm : Nat) (ln : Nat) (pt : Nat) (sg : Nat) (fi : Int32) (se : Int32) (n : Nat) (o : Nat → Int32) (h : Nat → Int32) (t : Nat → Int32) (s : Nat → Int32) (g : Nat → Int32) (kn : Nat) (lo : Int32) (lf : Int32) (nm : Nat → Int32) (sv : Nat → Int32) (sl : Nat → Int32) (ik : Nat → Int32) (bf : Nat → Nat) (co : Nat → Int32) (go : Nat → Int32) (fo : Nat → Int32) (j : Nat) (p : Nat)  (hj : j < 2) (hp : p < 6) (X : kX) (hR : xR X = rm_X4_bestSlope) (C : kC X 9 RX4 cX4_bestSlope wsX4_bestSlope cy) (E : kEnd X 9 cX4_bestSlope ((mB (sFar g h s j p) 61).1) (wM a cy th sm ln pt sg fi se (mSt n o h t s g kn lo lf nm) sv sl ik bf co go fo)) : ∀ (fu : Nat) (k : Nat) (s1 : Nat → Int32), 61 - k < fu → (k ≤ 61) → (upd s1 j (s j) = s) → kG X 9 0 0 (wM a cy th sm ln pt sg fi se (mSt n o h t s1 g kn lo lf nm) sv sl ik bf co go fo) 19 [(0, .ref (a 0)), (1, .int (nI j)), (2, .int (nI p)), (3, .int (s j)), (4, .int ((mB (sFar g h s j p) k).1)), (5, .int ((mB (sFar g h s j p) k).2)), (6, .int (iI (-30 + (k : Int))))] [] := by
  intro fu
  induction fu with
  | zero => intro k s1 hfu; exact absurd hfu (Nat.not_lt_zero _)
  | succ fu ih =>
    intro k s1 hfu hk hs
    refine k_iload (q := 21) C 6 dX4_bestSlope_19 rfl rfl ?_
    refine k_bipush (q := 23) (v := 30) C dX4_bestSlope_21 (by decide +kernel) rfl ?_
    refine k_icmp_gt (tgt := 99) (q := 26) C dX4_bestSlope_23 (by decide) rfl ?_ ?_
    · intro c_23
      have c1 : 30 < -30 + (k : Int) := (iI_lt (a := 30) (by omega) (by omega)).mp c_23
      have hke : k = 61 := by omega
      obtain rfl : k = 61 := hke
      refine k_aload_n (q := 100) C 0 dX4_bestSlope_99 rfl rfl ?_
      refine k_get (q := 103) (ci := 4) (v := .ref (a 1)) C 0 1 in4_X4_bestSlope rfl (List.mem_of_getElem? (i := 1) rfl) rfl rfl (by decide) rfl dX4_bestSlope_100 rfl ?_
      refine k_iconst (q := 104) (v := 4) C dX4_bestSlope_103 (by decide) rfl ?_
      refine k_iload_n (q := 105) C 1 dX4_bestSlope_104 rfl rfl ?_
      refine k_iadd (q := 106) C dX4_bestSlope_105 rfl ?_
      refine k_st (st2 := (.int (nI (4 + j)) :: _)) (congrArg (fun z => Value.int z :: _) (show 4 + (nI j) = nI (4 + j) from nI_add 4 j)) ?_
      refine k_iload_n (q := 107) C 3 dX4_bestSlope_106 rfl rfl ?_
      refine k_iast (q := 108) (w2 := (wM a cy th sm ln pt sg fi se (mSt n o h t (upd s1 j (s j)) g kn lo lf nm) sv sl ik bf co go fo)) C 1 rfl (vp_in_nI (n := 4 + j) (by omega) (by decide)) (by rw [nI_clamp (n := 4 + j) (by omega)]; exact wM_st (mSt_ws (k := j) (by omega))) dX4_bestSlope_107 rfl ?_
      refine k_iload (q := 110) C 4 dX4_bestSlope_108 rfl rfl ?_
      exact k_fin E dX4_bestSlope_110 (rfl) (by rw [hs])
    · intro c_23
      have c1 : ¬ 30 < -30 + (k : Int) := fun q => c_23 ((iI_lt (a := 30) (by omega) (by omega)).mpr q)
      refine k_aload_n (q := 27) C 0 dX4_bestSlope_26 rfl rfl ?_
      refine k_get (q := 30) (ci := 4) (v := .ref (a 1)) C 0 1 in4_X4_bestSlope rfl (List.mem_of_getElem? (i := 1) rfl) rfl rfl (by decide) rfl dX4_bestSlope_27 rfl ?_
      refine k_iconst (q := 31) (v := 4) C dX4_bestSlope_30 (by decide) rfl ?_
      refine k_iload_n (q := 32) C 1 dX4_bestSlope_31 rfl rfl ?_
      refine k_iadd (q := 33) C dX4_bestSlope_32 rfl ?_
      refine k_st (st2 := (.int (nI (4 + j)) :: _)) (congrArg (fun z => Value.int z :: _) (show 4 + (nI j) = nI (4 + j) from nI_add 4 j)) ?_
      refine k_iload (q := 35) C 6 dX4_bestSlope_33 rfl rfl ?_
      refine k_iast (q := 36) (w2 := (wM a cy th sm ln pt sg fi se (mSt n o h t (upd s1 j (iI (-30 + (k : Int)))) g kn lo lf nm) sv sl ik bf co go fo)) C 1 rfl (vp_in_nI (n := 4 + j) (by omega) (by decide)) (by rw [nI_clamp (n := 4 + j) (by omega)]; exact wM_st (mSt_ws (k := j) (by omega))) dX4_bestSlope_35 rfl ?_
      refine k_aload_n (q := 37) C 0 dX4_bestSlope_36 rfl rfl ?_
      refine k_iload_n (q := 38) C 2 dX4_bestSlope_37 rfl rfl ?_
      refine k_callVI (n := 1) (q := 41) (pre := ([] : va_W)) (post := ([] : va_W)) (w2 := (wM a cy th sm ln pt sg fi se (mSt n o h t (upd s1 j (iI (-30 + (k : Int)))) g kn lo lf nm) sv sl ik bf co go fo)) (As := [.int (nI p)]) (rest := []) C (c_X4_distance cy a th sm ln pt sg fi se n o h t (upd s1 j (iI (-30 + (k : Int)))) g kn lo lf nm sv sl ik bf co go fo p (by omega)) gX4_bestSlope_X4_distance rfl rfl rfl (by decide +kernel) (k_room hR (by decide)) ⟨Nat.zero_le _, Nat.zero_le _⟩ (ci := 4) rfl 0 rfl rfl rfl (Nat.le_of_ble_eq_true rfl) ((List.append_nil _).symm) (List.append_nil _) dX4_bestSlope_38 rfl ?_
      refine k_callSI (n := 1) (q := 44) (pre := ([] : va_W)) (post := (wM a cy th sm ln pt sg fi se (mSt n o h t (upd s1 j (iI (-30 + (k : Int)))) g kn lo lf nm) sv sl ik bf co go fo)) (w2 := (wM a cy th sm ln pt sg fi se (mSt n o h t (upd s1 j (iI (-30 + (k : Int)))) g kn lo lf nm) sv sl ik bf co go fo)) (As := [.int (sDist h g p ((upd s1 j (iI (-30 + (k : Int)))) 0) ((upd s1 j (iI (-30 + (k : Int)))) 1))]) (rest := []) C (c_X4_sizeOf (sDist h g p ((upd s1 j (iI (-30 + (k : Int)))) 0) ((upd s1 j (iI (-30 + (k : Int)))) 1))) gX4_bestSlope_X4_sizeOf rfl rfl rfl (by decide +kernel) (k_room hR (by decide)) ⟨Nat.zero_le _, Nat.zero_le _⟩  rfl rfl (Nat.le_of_ble_eq_true rfl) (rfl) (rfl) dX4_bestSlope_41 rfl ?_
      refine k_st (st2 := (.int (sFar g h s j p (-30 + (k : Int))) :: _)) (congrArg (fun z => Value.int z :: _) (show mAbs (sDist h g p ((upd s1 j (iI (-30 + (k : Int)))) 0) ((upd s1 j (iI (-30 + (k : Int)))) 1)) = sFar g h s j p (-30 + (k : Int)) from mFar hj hs)) ?_
      refine k_istore (q := 46) (fr2 := [(7, .int (sFar g h s j p (-30 + (k : Int)))), (0, .ref (a 0)), (1, .int (nI j)), (2, .int (nI p)), (3, .int (s j)), (4, .int ((mB (sFar g h s j p) k).1)), (5, .int ((mB (sFar g h s j p) k).2)), (6, .int (iI (-30 + (k : Int))))]) C dX4_bestSlope_44 (by decide) rfl rfl ?_
      refine k_iload (q := 48) C 6 dX4_bestSlope_46 rfl rfl ?_
      refine k_if_lt (tgt := 58) (q := 51) C dX4_bestSlope_48 (by decide) rfl ?_ ?_
      · intro c_48
        refine k_iconst (q := 59) (v := 1) C dX4_bestSlope_58 (by decide) rfl ?_
        refine k_goto (q := 63) C dX4_bestSlope_59 (by decide) ?_
        refine k_istore (q := 65) (fr2 := [(8, .int 1), (7, .int (sFar g h s j p (-30 + (k : Int)))), (0, .ref (a 0)), (1, .int (nI j)), (2, .int (nI p)), (3, .int (s j)), (4, .int ((mB (sFar g h s j p) k).1)), (5, .int ((mB (sFar g h s j p) k).2)), (6, .int (iI (-30 + (k : Int))))]) C dX4_bestSlope_63 (by decide) rfl rfl ?_
        refine k_iload (q := 67) C 0 dX4_bestSlope_65 rfl rfl ?_
        refine k_if_eq (tgt := 75) (q := 70) C dX4_bestSlope_67 (by decide) rfl ?_ ?_
        · exact fun c_67 => absurd c_67 (by decide)
        · intro c_67
          refine k_iload (q := 72) C 8 dX4_bestSlope_70 rfl rfl ?_
          refine k_goto (q := 77) C dX4_bestSlope_72 (by decide) ?_
          refine k_istore (q := 79) (fr2 := [(4, .int (iI (-30 + (k : Int)))), (8, .int 1), (7, .int (sFar g h s j p (-30 + (k : Int)))), (0, .ref (a 0)), (1, .int (nI j)), (2, .int (nI p)), (3, .int (s j)), (5, .int ((mB (sFar g h s j p) k).2)), (6, .int (iI (-30 + (k : Int))))]) C dX4_bestSlope_77 (by decide) rfl rfl ?_
          refine k_iload (q := 81) C 1 dX4_bestSlope_79 rfl rfl ?_
          refine k_if_eq (tgt := 89) (q := 84) C dX4_bestSlope_81 (by decide) rfl ?_ ?_
          · exact fun c_81 => absurd c_81 (by decide)
          · intro c_81
            refine k_iload (q := 86) C 2 dX4_bestSlope_84 rfl rfl ?_
            refine k_goto (q := 91) C dX4_bestSlope_86 (by decide) ?_
            refine k_istore (q := 93) (fr2 := [(5, .int (sFar g h s j p (-30 + (k : Int)))), (4, .int (iI (-30 + (k : Int)))), (8, .int 1), (7, .int (sFar g h s j p (-30 + (k : Int)))), (0, .ref (a 0)), (1, .int (nI j)), (2, .int (nI p)), (3, .int (s j)), (6, .int (iI (-30 + (k : Int))))]) C dX4_bestSlope_91 (by decide) rfl rfl ?_
            refine k_iinc (q := 96) (v := iI (-30 + ((k + 1 : Nat) : Int))) (fr2 := [(6, .int (iI (-30 + ((k + 1 : Nat) : Int)))), (5, .int (sFar g h s j p (-30 + (k : Int)))), (4, .int (iI (-30 + (k : Int)))), (8, .int 1), (7, .int (sFar g h s j p (-30 + (k : Int)))), (0, .ref (a 0)), (1, .int (nI j)), (2, .int (nI p)), (3, .int (s j))]) C 8 dX4_bestSlope_93 rfl ((show iI (-30 + (k : Int)) + iI 1 = _ from by rw [iI_add]; congr 1; omega)) (by decide) rfl rfl ?_
            refine k_goto (q := 19) C dX4_bestSlope_96 (by decide) ?_
            refine k_fr (fr2 := [(0, .ref (a 0)), (1, .int (nI j)), (2, .int (nI p)), (3, .int (s j)), (4, .int (iI (-30 + (k : Int)))), (5, .int (sFar g h s j p (-30 + (k : Int)))), (6, .int (iI (-30 + ((k + 1 : Nat) : Int))))]) ⟨[5, 6, 7, 8, 2, 1, 0], rfl⟩ ?_
            have K := ih (k + 1) (upd s1 j (iI (-30 + (k : Int)))) (by omega) (by omega) (upd_back hs)
            first | rw [mB_y1 c_48] at K | rw [mB_n c_48 c_55] at K | rw [mB_y2 (Int32.not_le.mp c_55)] at K
            exact K
      · intro c_48
        refine k_iload (q := 53) C 0 dX4_bestSlope_51 rfl rfl ?_
        refine k_iload (q := 55) C 6 dX4_bestSlope_53 rfl rfl ?_
        refine k_icmp_ge (tgt := 62) (q := 58) C dX4_bestSlope_55 (by decide) rfl ?_ ?_
        · intro c_55
          refine k_iconst (q := 63) (v := 0) C dX4_bestSlope_62 (by decide) rfl ?_
          refine k_istore (q := 65) (fr2 := [(8, .int 0), (7, .int (sFar g h s j p (-30 + (k : Int)))), (0, .ref (a 0)), (1, .int (nI j)), (2, .int (nI p)), (3, .int (s j)), (4, .int ((mB (sFar g h s j p) k).1)), (5, .int ((mB (sFar g h s j p) k).2)), (6, .int (iI (-30 + (k : Int))))]) C dX4_bestSlope_63 (by decide) rfl rfl ?_
          refine k_iload (q := 67) C 0 dX4_bestSlope_65 rfl rfl ?_
          refine k_if_eq (tgt := 75) (q := 70) C dX4_bestSlope_67 (by decide) rfl ?_ ?_
          · intro c_67
            refine k_iload (q := 77) C 6 dX4_bestSlope_75 rfl rfl ?_
            refine k_istore (q := 79) (fr2 := [(4, .int ((mB (sFar g h s j p) k).1)), (8, .int 0), (7, .int (sFar g h s j p (-30 + (k : Int)))), (0, .ref (a 0)), (1, .int (nI j)), (2, .int (nI p)), (3, .int (s j)), (5, .int ((mB (sFar g h s j p) k).2)), (6, .int (iI (-30 + (k : Int))))]) C dX4_bestSlope_77 (by decide) rfl rfl ?_
            refine k_iload (q := 81) C 1 dX4_bestSlope_79 rfl rfl ?_
            refine k_if_eq (tgt := 89) (q := 84) C dX4_bestSlope_81 (by decide) rfl ?_ ?_
            · intro c_81
              refine k_iload (q := 91) C 7 dX4_bestSlope_89 rfl rfl ?_
              refine k_istore (q := 93) (fr2 := [(5, .int ((mB (sFar g h s j p) k).2)), (4, .int ((mB (sFar g h s j p) k).1)), (8, .int 0), (7, .int (sFar g h s j p (-30 + (k : Int)))), (0, .ref (a 0)), (1, .int (nI j)), (2, .int (nI p)), (3, .int (s j)), (6, .int (iI (-30 + (k : Int))))]) C dX4_bestSlope_91 (by decide) rfl rfl ?_
              refine k_iinc (q := 96) (v := iI (-30 + ((k + 1 : Nat) : Int))) (fr2 := [(6, .int (iI (-30 + ((k + 1 : Nat) : Int)))), (5, .int ((mB (sFar g h s j p) k).2)), (4, .int ((mB (sFar g h s j p) k).1)), (8, .int 0), (7, .int (sFar g h s j p (-30 + (k : Int)))), (0, .ref (a 0)), (1, .int (nI j)), (2, .int (nI p)), (3, .int (s j))]) C 8 dX4_bestSlope_93 rfl ((show iI (-30 + (k : Int)) + iI 1 = _ from by rw [iI_add]; congr 1; omega)) (by decide) rfl rfl ?_
              refine k_goto (q := 19) C dX4_bestSlope_96 (by decide) ?_
              refine k_fr (fr2 := [(0, .ref (a 0)), (1, .int (nI j)), (2, .int (nI p)), (3, .int (s j)), (4, .int ((mB (sFar g h s j p) k).1)), (5, .int ((mB (sFar g h s j p) k).2)), (6, .int (iI (-30 + ((k + 1 : Nat) : Int))))]) ⟨[5, 6, 7, 8, 2, 1, 0], rfl⟩ ?_
              have K := ih (k + 1) (upd s1 j (iI (-30 + (k : Int)))) (by omega) (by omega) (upd_back hs)
              first | rw [mB_y1 c_48] at K | rw [mB_n c_48 c_55] at K | rw [mB_y2 (Int32.not_le.mp c_55)] at K
              exact K
            · exact fun c_81 => absurd c_81 (by decide)
          · exact fun c_67 => absurd c_67 (by decide)
        · intro c_55
          refine k_iconst (q := 59) (v := 1) C dX4_bestSlope_58 (by decide) rfl ?_
          refine k_goto (q := 63) C dX4_bestSlope_59 (by decide) ?_
          refine k_istore (q := 65) (fr2 := [(8, .int 1), (7, .int (sFar g h s j p (-30 + (k : Int)))), (0, .ref (a 0)), (1, .int (nI j)), (2, .int (nI p)), (3, .int (s j)), (4, .int ((mB (sFar g h s j p) k).1)), (5, .int ((mB (sFar g h s j p) k).2)), (6, .int (iI (-30 + (k : Int))))]) C dX4_bestSlope_63 (by decide) rfl rfl ?_
          refine k_iload (q := 67) C 0 dX4_bestSlope_65 rfl rfl ?_
          refine k_if_eq (tgt := 75) (q := 70) C dX4_bestSlope_67 (by decide) rfl ?_ ?_
          · exact fun c_67 => absurd c_67 (by decide)
          · intro c_67
            refine k_iload (q := 72) C 8 dX4_bestSlope_70 rfl rfl ?_
            refine k_goto (q := 77) C dX4_bestSlope_72 (by decide) ?_
            refine k_istore (q := 79) (fr2 := [(4, .int (iI (-30 + (k : Int)))), (8, .int 1), (7, .int (sFar g h s j p (-30 + (k : Int)))), (0, .ref (a 0)), (1, .int (nI j)), (2, .int (nI p)), (3, .int (s j)), (5, .int ((mB (sFar g h s j p) k).2)), (6, .int (iI (-30 + (k : Int))))]) C dX4_bestSlope_77 (by decide) rfl rfl ?_
            refine k_iload (q := 81) C 1 dX4_bestSlope_79 rfl rfl ?_
            refine k_if_eq (tgt := 89) (q := 84) C dX4_bestSlope_81 (by decide) rfl ?_ ?_
            · exact fun c_81 => absurd c_81 (by decide)
            · intro c_81
              refine k_iload (q := 86) C 2 dX4_bestSlope_84 rfl rfl ?_
              refine k_goto (q := 91) C dX4_bestSlope_86 (by decide) ?_
              refine k_istore (q := 93) (fr2 := [(5, .int (sFar g h s j p (-30 + (k : Int)))), (4, .int (iI (-30 + (k : Int)))), (8, .int 1), (7, .int (sFar g h s j p (-30 + (k : Int)))), (0, .ref (a 0)), (1, .int (nI j)), (2, .int (nI p)), (3, .int (s j)), (6, .int (iI (-30 + (k : Int))))]) C dX4_bestSlope_91 (by decide) rfl rfl ?_
              refine k_iinc (q := 96) (v := iI (-30 + ((k + 1 : Nat) : Int))) (fr2 := [(6, .int (iI (-30 + ((k + 1 : Nat) : Int)))), (5, .int (sFar g h s j p (-30 + (k : Int)))), (4, .int (iI (-30 + (k : Int)))), (8, .int 1), (7, .int (sFar g h s j p (-30 + (k : Int)))), (0, .ref (a 0)), (1, .int (nI j)), (2, .int (nI p)), (3, .int (s j))]) C 8 dX4_bestSlope_93 rfl ((show iI (-30 + (k : Int)) + iI 1 = _ from by rw [iI_add]; congr 1; omega)) (by decide) rfl rfl ?_
              refine k_goto (q := 19) C dX4_bestSlope_96 (by decide) ?_
              refine k_fr (fr2 := [(0, .ref (a 0)), (1, .int (nI j)), (2, .int (nI p)), (3, .int (s j)), (4, .int (iI (-30 + (k : Int)))), (5, .int (sFar g h s j p (-30 + (k : Int)))), (6, .int (iI (-30 + ((k + 1 : Nat) : Int))))]) ⟨[5, 6, 7, 8, 2, 1, 0], rfl⟩ ?_
              have K := ih (k + 1) (upd s1 j (iI (-30 + (k : Int)))) (by omega) (by omega) (upd_back hs)
              first | rw [mB_y1 c_48] at K | rw [mB_n c_48 c_55] at K | rw [mB_y2 (Int32.not_le.mp c_55)] at K
              exact K
set_option maxHeartbeats 4000000 in
set_option maxRecDepth 100000 in
theorem c_X4_bestSlope (cy : Nat → ClassId) (a : Nat → Nat) (th : Int32) (sm : Nat) (ln : Nat) (pt : Nat) (sg : Nat) (fi : Int32) (se : Int32) (n : Nat) (o : Nat → Int32) (h : Nat → Int32) (t : Nat → Int32) (s : Nat → Int32) (g : Nat → Int32) (kn : Nat) (lo : Int32) (lf : Int32) (nm : Nat → Int32) (sv : Nat → Int32) (sl : Nat → Int32) (ik : Nat → Int32) (bf : Nat → Nat) (co : Nat → Int32) (go : Nat → Int32) (fo : Nat → Int32) (j : Nat) (p : Nat)  (hj : j < 2) (hp : p < 6) : kI yX4_bestSlope wsX4_bestSlope rm_X4_bestSlope cy [.ref (a 0), .int (nI j), .int (nI p)] (wM a cy th sm ln pt sg fi se (mSt n o h t s g kn lo lf nm) sv sl ik bf co go fo) ((mB (sFar g h s j p) 61).1) (wM a cy th sm ln pt sg fi se (mSt n o h t s g kn lo lf nm) sv sl ik bf co go fo) := by
  refine kI_of (cc := cX4_bestSlope) (maxL := 9) (rt := .int) (by decide) rfl (rfl) (Nat.le_of_ble_eq_true rfl) ?_
  intro X hR C E
  have C : kC X 9 RX4 cX4_bestSlope wsX4_bestSlope cy := C
  refine k_fr (fr2 := [(0, .ref (a 0)), (1, .int (nI j)), (2, .int (nI p))]) ⟨[0, 1, 2], rfl⟩ ?_
  refine k_aload_n (q := 1) C 0 dX4_bestSlope_0 rfl rfl ?_
  refine k_get (q := 4) (ci := 4) (v := .ref (a 1)) C 0 1 in4_X4_bestSlope rfl (List.mem_of_getElem? (i := 1) rfl) rfl rfl (by decide) rfl dX4_bestSlope_1 rfl ?_
  refine k_iconst (q := 5) (v := 4) C dX4_bestSlope_4 (by decide) rfl ?_
  refine k_iload_n (q := 6) C 1 dX4_bestSlope_5 rfl rfl ?_
  refine k_iadd (q := 7) C dX4_bestSlope_6 rfl ?_
  refine k_st (st2 := (.int (nI (4 + j)) :: _)) (congrArg (fun z => Value.int z :: _) (show 4 + (nI j) = nI (4 + j) from nI_add 4 j)) ?_
  refine k_iald (q := 8) C 1 rfl (vp_in_nI (n := 4 + j) (by omega) (by decide)) dX4_bestSlope_7 rfl ?_
  refine k_st (st2 := (.int ((mSt n o h t s g kn lo lf nm) (4 + j)) :: _)) (congrArg (fun z => Value.int z :: _) (show (mSt n o h t s g kn lo lf nm) (nI (4 + j)).toNatClampNeg = (mSt n o h t s g kn lo lf nm) (4 + j) from congrArg (mSt n o h t s g kn lo lf nm) (nI_clamp (n := 4 + j) (by omega)))) ?_
  refine k_st (st2 := (.int (s j) :: _)) (congrArg (fun z => Value.int z :: _) (show (mSt n o h t s g kn lo lf nm) (4 + j) = s j from mSt_s (k := j) (by omega))) ?_
  refine k_istore_n (q := 9) (fr2 := [(3, .int (s j)), (0, .ref (a 0)), (1, .int (nI j)), (2, .int (nI p))]) C dX4_bestSlope_8 (by decide) rfl rfl ?_
  refine k_iconst (q := 10) (v := 0) C dX4_bestSlope_9 (by decide) rfl ?_
  refine k_istore (q := 12) (fr2 := [(4, .int 0), (3, .int (s j)), (0, .ref (a 0)), (1, .int (nI j)), (2, .int (nI p))]) C dX4_bestSlope_10 (by decide) rfl rfl ?_
  refine k_iconst (q := 13) (v := -1) C dX4_bestSlope_12 (by decide) rfl ?_
  refine k_istore (q := 15) (fr2 := [(5, .int (-1)), (4, .int 0), (3, .int (s j)), (0, .ref (a 0)), (1, .int (nI j)), (2, .int (nI p))]) C dX4_bestSlope_13 (by decide) rfl rfl ?_
  refine k_bipush (q := 17) (v := -30) C dX4_bestSlope_15 (by decide +kernel) rfl ?_
  refine k_istore (q := 19) (fr2 := [(6, .int (-30)), (5, .int (-1)), (4, .int 0), (3, .int (s j)), (0, .ref (a 0)), (1, .int (nI j)), (2, .int (nI p))]) C dX4_bestSlope_17 (by decide) rfl rfl ?_
  refine k_fr (fr2 := [(0, .ref (a 0)), (1, .int (nI j)), (2, .int (nI p)), (3, .int (s j)), (4, .int 0), (5, .int (-1)), (6, .int (-30))]) ⟨[4, 5, 6, 3, 2, 1, 0], rfl⟩ ?_
  exact lp_X4_bestSlope_19 cy a th sm ln pt sg fi se n o h t s g kn lo lf nm sv sl ik bf co go fo j p hj hp X hR C E _ 0 s (Nat.lt_succ_self _) (by omega) (upd_self s j)
