set_option maxHeartbeats 4000000 in
set_option maxRecDepth 100000 in
theorem c_X4_doesOrder_g (cy : Nat → ClassId) (a : Nat → Nat) (th : Int32) (sm : Nat) (ln : Nat) (pt : Nat) (sg : Nat) (fi : Int32) (se : Int32) (n : Nat) (o : Nat → Int32) (h : Nat → Int32) (t : Nat → Int32) (s : Nat → Int32) (g : Nat → Int32) (kn : Nat) (lo : Int32) (lf : Int32) (nm : Nat → Int32) (sv : Nat → Int32) (sl : Nat → Int32) (ik : Nat → Int32) (bf : Nat → Nat) (co : Nat → Int32) (go : Nat → Int32) (fo : Nat → Int32)  (hK : kInv (n, o, h, t, s, g, kn, lo, lf, nm)) (ho : oOk sg fi se) : kIx yX4_doesOrder wsX4_doesOrder rm_X4_doesOrder cy [.ref (a 0)] (wM a cy th sm ln pt sg fi se (mSt n o h t s g kn lo lf nm) sv sl ik bf co go fo) (bI ((kStep ((n, o, h, t, s, g, kn, lo, lf, nm) : SK) sg fi se).1 = true)) (fun (u : (Nat → Int32) × (Nat → Int32) × (Nat → Int32)) => (wM a cy th sm ln pt sg fi se (mSt (kN (kStep ((n, o, h, t, s, g, kn, lo, lf, nm) : SK) sg fi se).2) (kO (kStep ((n, o, h, t, s, g, kn, lo, lf, nm) : SK) sg fi se).2) (kH (kStep ((n, o, h, t, s, g, kn, lo, lf, nm) : SK) sg fi se).2) (kT2 (kStep ((n, o, h, t, s, g, kn, lo, lf, nm) : SK) sg fi se).2) (kS (kStep ((n, o, h, t, s, g, kn, lo, lf, nm) : SK) sg fi se).2) (kGs (kStep ((n, o, h, t, s, g, kn, lo, lf, nm) : SK) sg fi se).2) (kK (kStep ((n, o, h, t, s, g, kn, lo, lf, nm) : SK) sg fi se).2) (kLo (kStep ((n, o, h, t, s, g, kn, lo, lf, nm) : SK) sg fi se).2) (kLf (kStep ((n, o, h, t, s, g, kn, lo, lf, nm) : SK) sg fi se).2) (kNm (kStep ((n, o, h, t, s, g, kn, lo, lf, nm) : SK) sg fi se).2)) sv sl ik bf u.1 u.2.1 u.2.2)) (fun (u : (Nat → Int32) × (Nat → Int32) × (Nat → Int32)) => True) := by
  obtain ⟨k1, k2, k3, k4, k5, k6, k7, k8⟩ := hK
  have k1 : n ≤ 6 := k1
  rcases ho with ⟨e, ho⟩ | ⟨e, ho⟩ | e | ⟨e, ho⟩
  · subst e
    by_cases w : mWhy n h fi se = 0
    · have q : kStep (n, o, h, t, s, g, kn, lo, lf, nm) 99 fi se = (true, kAdd (n, o, h, t, s, g, kn, lo, lf, nm) fi se) := (if_pos rfl).trans (if_pos w)
      rw [q]; exact c_X4_doesOrder_c1 cy a th sm ln pt fi se n o h t s g kn lo lf nm sv sl ik bf co go fo (mWhy_6 k1 w).1 w
    · have q : kStep (n, o, h, t, s, g, kn, lo, lf, nm) 99 fi se = (false, (n, o, h, t, s, g, kn, lo, lf, nm)) := (if_pos rfl).trans (if_neg w)
      rw [q]; exact c_X4_doesOrder_c0 cy a th sm ln pt fi se n o h t s g kn lo lf nm sv sl ik bf co go fo k1 w
  · subst e
    by_cases w : 0 ≤ fi ∧ fi < nI n
    · have q : kStep (n, o, h, t, s, g, kn, lo, lf, nm) 120 fi se = (true, kDrop (n, o, h, t, s, g, kn, lo, lf, nm) fi.toNatClampNeg) := (if_neg (by decide)).trans ((if_pos rfl).trans (if_pos w))
      rw [q]
      obtain ⟨p, hp, rfl⟩ := mLay k1 w
      rw [nI_clamp (n := p) (by omega)]
      exact c_X4_doesOrder_x1 cy a th sm ln pt se n o h t s g kn lo lf nm sv sl ik bf co go fo p k1 hp (h_pos (k6 p hp))
    · have q : kStep (n, o, h, t, s, g, kn, lo, lf, nm) 120 fi se = (false, (n, o, h, t, s, g, kn, lo, lf, nm)) := (if_neg (by decide)).trans ((if_pos rfl).trans (if_neg w))
      rw [q]; exact c_X4_doesOrder_x0 cy a th sm ln pt fi se n o h t s g kn lo lf nm sv sl ik bf co go fo k1 w
  · subst e
    exact c_X4_doesOrder_n cy a th sm ln pt fi se n o h t s g kn lo lf nm sv sl ik bf co go fo k1 k2 k3 k4 k5
  · rcases e with e | e
    · subst e; exact c_X4_doesOrder_a0 cy a th sm ln pt fi se n o h t s g kn lo lf nm sv sl ik bf co go fo k3
    · subst e; exact c_X4_doesOrder_a1 cy a th sm ln pt fi se n o h t s g kn lo lf nm sv sl ik bf co go fo k4
abbrev rm_X4_execute : Room := { frames := 8, cells := 0, slots := 0, locals := 174 }
theorem in4_X4_execute : ∀ w ∈ wsX40, w ∈ wsX4_execute := fun _ h => (List.mem_cons_of_mem _ (List.mem_append_right _ h))
set_option maxHeartbeats 4000000 in
set_option maxRecDepth 100000 in
theorem c_X4_execute_e (cy : Nat → ClassId) (a : Nat → Nat) (th : Int32) (sm : Nat) (ln : Nat) (pt : Nat) (sg : Nat) (fi : Int32) (se : Int32) (n : Nat) (o : Nat → Int32) (h : Nat → Int32) (t : Nat → Int32) (s : Nat → Int32) (g : Nat → Int32) (kn : Nat) (lo : Int32) (lf : Int32) (nm : Nat → Int32) (sv : Nat → Int32) (sl : Nat → Int32) (ik : Nat → Int32) (bf : Nat → Nat) (co : Nat → Int32) (go : Nat → Int32) (fo : Nat → Int32)  (hb : ∀ i, bf i ≤ 126) (hln : ln ≤ 60) (he : ¬ (mFE bf ln (ln + 1) 0) = none) : kIx yX4_execute wsX4_execute rm_X4_execute cy [.ref (a 0)] (wM a cy th sm ln pt sg fi se (mSt n o h t s g kn lo lf nm) sv sl ik bf co go fo) 0 (fun (u : Nat × Nat × Int32 × Int32) => (wM a cy 1 sm ln u.1 u.2.1 u.2.2.1 u.2.2.2 (mSt n o h t s g kn lo lf nm) sv sl ik bf co go fo)) (fun (u : Nat × Nat × Int32 × Int32) => True) := by
  refine kIx_of (cc := cX4_execute) (maxL := 3) (rt := .int) (by decide) rfl (rfl) (Nat.le_of_ble_eq_true rfl) ?_
  intro X hR C E
  have C : kC X 3 RX4 cX4_execute wsX4_execute cy := C
  refine k_fr (fr2 := [(0, .ref (a 0))]) ⟨[0], rfl⟩ ?_
  have hfe : ∀ q, mFE bf ln (ln + 1) 0 = some q → q < 1000 := fun q e => by have := mFE_le _ _ _ (Nat.zero_le _) e; omega
  refine k_aload_n (q := 1) C 0 dX4_execute_0 rfl rfl ?_
  refine k_iconst (q := 2) (v := 0) C dX4_execute_1 (by decide) rfl ?_
  refine k_put (q := 5) (ci := 4) (v := .int 0) (w2 := (wM a cy 0 sm ln pt sg fi se (mSt n o h t s g kn lo lf nm) sv sl ik bf co go fo)) C 0 0 in4_X4_execute rfl (List.mem_of_getElem? (i := 1) rfl) rfl tyX4 tyX4_ok nmX4 rfl (rfl) (rfl) rfl (by decide) (Nat.le_of_ble_eq_true rfl) (rfl) dX4_execute_2 rfl ?_
  refine k_aload_n (q := 6) C 0 dX4_execute_5 rfl rfl ?_
  refine k_callVIx (n := 0) (q := 9) (pre := ([] : va_W)) (post := ([] : va_W)) (w2 := (fun u => (wM a cy 0 sm ln (u.1) (u.2.1) (u.2.2.1) (u.2.2.2) (mSt n o h t s g kn lo lf nm) sv sl ik bf co go fo))) (As := []) (rest := []) C (c_X4_findError cy a 0 sm ln pt sg fi se n o h t s g kn lo lf nm sv sl ik bf co go fo hb hln) gX4_execute_X4_findError rfl rfl rfl (by decide +kernel) (k_room hR (by decide)) ⟨Nat.zero_le _, Nat.zero_le _⟩ (ci := 4) rfl 0 rfl rfl rfl (Nat.le_of_ble_eq_true rfl) ((List.append_nil _).symm) (fun u => List.append_nil _) dX4_execute_6 rfl ?_
  rintro ⟨pt_6, sg_6, fi_6, se_6⟩ h_6
  try dsimp only at h_6
  refine k_iconst (q := 10) (v := -1) C dX4_execute_9 (by decide) rfl ?_
  refine k_icmp_eq (tgt := 19) (q := 13) C dX4_execute_10 (by decide) rfl ?_ ?_
  · exact fun c_10 => absurd ((mFEv_none hfe).mp c_10) he
  · intro c_10
    refine k_aload_n (q := 14) C 0 dX4_execute_13 rfl rfl ?_
    refine k_iconst (q := 15) (v := 1) C dX4_execute_14 (by decide) rfl ?_
    refine k_callVI (n := 1) (q := 18) (pre := ([] : va_W)) (post := ([] : va_W)) (w2 := (wM a cy 1 sm ln pt_6 sg_6 fi_6 se_6 (mSt n o h t s g kn lo lf nm) sv sl ik bf co go fo)) (As := [.int 1]) (rest := []) C (c_X4_fails cy a 0 sm ln pt_6 sg_6 fi_6 se_6 n o h t s g kn lo lf nm sv sl ik bf co go fo 1) gX4_execute_X4_fails rfl rfl rfl (by decide +kernel) (k_room hR (by decide)) ⟨Nat.zero_le _, Nat.zero_le _⟩ (ci := 4) rfl 0 rfl rfl rfl (Nat.le_of_ble_eq_true rfl) ((List.append_nil _).symm) (List.append_nil _) dX4_execute_15 rfl ?_
    exact k_finx E (pt_6, sg_6, fi_6, se_6) dX4_execute_18 (rfl) (rfl) (trivial)
set_option maxHeartbeats 4000000 in
set_option maxRecDepth 100000 in
theorem lp_X4_execute_32 (cy : Nat → ClassId) (a : Nat → Nat) (th : Int32) (sm : Nat) (ln : Nat) (pt : Nat) (sg : Nat) (fi : Int32) (se : Int32) (n : Nat) (o : Nat → Int32) (h : Nat → Int32) (t : Nat → Int32) (s : Nat → Int32) (g : Nat → Int32) (kn : Nat) (lo : Int32) (lf : Int32) (nm : Nat → Int32) (sv : Nat → Int32) (sl : Nat → Int32) (ik : Nat → Int32) (bf : Nat → Nat) (co : Nat → Int32) (go : Nat → Int32) (fo : Nat → Int32)  (hb : ∀ i, bf i ≤ 126) (hln : ln ≤ 60) (he : (mFE bf ln (ln + 1) 0) = none) (hK : kInv (n, o, h, t, s, g, kn, lo, lf, nm)) (hs : sm ≤ 6) (X : kX) (hR : xR X = rm_X4_execute) (C : kC X 3 RX4 cX4_execute wsX4_execute cy) (E : kEndx X 3 cX4_execute (nI (kExec bf ln (ln + 1) 0 0 ((n, o, h, t, s, g, kn, lo, lf, nm) : SK)).1) (fun (u : Nat × Nat × Int32 × Int32 × (Nat → Int32) × (Nat → Int32) × (Nat → Int32)) => (wM a cy 0 (min (sm + 1) 6) 0 u.1 u.2.1 u.2.2.1 u.2.2.2.1 (mSt (kN (kExec bf ln (ln + 1) 0 0 ((n, o, h, t, s, g, kn, lo, lf, nm) : SK)).2) (kO (kExec bf ln (ln + 1) 0 0 ((n, o, h, t, s, g, kn, lo, lf, nm) : SK)).2) (kH (kExec bf ln (ln + 1) 0 0 ((n, o, h, t, s, g, kn, lo, lf, nm) : SK)).2) (kT2 (kExec bf ln (ln + 1) 0 0 ((n, o, h, t, s, g, kn, lo, lf, nm) : SK)).2) (kS (kExec bf ln (ln + 1) 0 0 ((n, o, h, t, s, g, kn, lo, lf, nm) : SK)).2) (kGs (kExec bf ln (ln + 1) 0 0 ((n, o, h, t, s, g, kn, lo, lf, nm) : SK)).2) (kK (kExec bf ln (ln + 1) 0 0 ((n, o, h, t, s, g, kn, lo, lf, nm) : SK)).2) (kLo (kExec bf ln (ln + 1) 0 0 ((n, o, h, t, s, g, kn, lo, lf, nm) : SK)).2) (kLf (kExec bf ln (ln + 1) 0 0 ((n, o, h, t, s, g, kn, lo, lf, nm) : SK)).2) (kNm (kExec bf ln (ln + 1) 0 0 ((n, o, h, t, s, g, kn, lo, lf, nm) : SK)).2)) (mSave sv (mSt n o h t s g kn lo lf nm) sm) sl ik bf u.2.2.2.2.1 u.2.2.2.2.2.1 u.2.2.2.2.2.2)) (fun (u : Nat × Nat × Int32 × Int32 × (Nat → Int32) × (Nat → Int32) × (Nat → Int32)) => True)) : ∀ (fu : Nat) (q : Nat) (d : Nat) (b : Bool) (p1 : Nat) (f1 : Int32) (e1 : Int32) (n1 : Nat) (o1 : Nat → Int32) (h1 : Nat → Int32) (t1 : Nat → Int32) (s1 : Nat → Int32) (g1 : Nat → Int32) (kn1 : Nat) (lo1 : Int32) (lf1 : Int32) (nm1 : Nat → Int32) (co1 : Nat → Int32) (go1 : Nat → Int32) (fo1 : Nat → Int32), ln + 3 - q < fu → (q ≤ ln + 2) → (b = true → q ≤ ln + 1) → (kInv ((n1, o1, h1, t1, s1, g1, kn1, lo1, lf1, nm1) : SK)) → (b = true → ∀ f, ln + 1 - q ≤ f → kExec bf ln f q d ((n1, o1, h1, t1, s1, g1, kn1, lo1, lf1, nm1) : SK) = (kExec bf ln (ln + 1) 0 0 ((n, o, h, t, s, g, kn, lo, lf, nm) : SK))) → (¬ b = true → (d, ((n1, o1, h1, t1, s1, g1, kn1, lo1, lf1, nm1) : SK)) = (kExec bf ln (ln + 1) 0 0 ((n, o, h, t, s, g, kn, lo, lf, nm) : SK))) → kG X 3 0 0 (wM a cy 0 (min (sm + 1) 6) ln q p1 f1 e1 (mSt n1 o1 h1 t1 s1 g1 kn1 lo1 lf1 nm1) (mSave sv (mSt n o h t s g kn lo lf nm) sm) sl ik bf co1 go1 fo1) 32 [(0, .ref (a 0)), (1, .int (nI d)), (2, .int (bI (b = true)))] [] := by
  intro fu
  induction fu with
  | zero => intro q d b p1 f1 e1 n1 o1 h1 t1 s1 g1 kn1 lo1 lf1 nm1 co1 go1 fo1 hfu; exact absurd hfu (Nat.not_lt_zero _)
  | succ fu ih =>
    intro q d b p1 f1 e1 n1 o1 h1 t1 s1 g1 kn1 lo1 lf1 nm1 co1 go1 fo1 hfu hq hqb hI hR1 hR0
    have h00 := mRO_0 (bf := bf) (ln := ln) (q := q) f1 e1
    refine k_iload_n (q := 33) C 2 dX4_execute_32 rfl rfl ?_
    refine k_ifB_eq (tgt := 92) (q := 36) C dX4_execute_33 (by decide) rfl ?_ ?_
    · intro c_33
      refine k_aload_n (q := 93) C 0 dX4_execute_92 rfl rfl ?_
      refine k_iconst (q := 94) (v := 0) C dX4_execute_93 (by decide) rfl ?_
      refine k_put (q := 97) (ci := 4) (v := .int 0) (w2 := (wM a cy 0 (min (sm + 1) 6) 0 q p1 f1 e1 (mSt n1 o1 h1 t1 s1 g1 kn1 lo1 lf1 nm1) (mSave sv (mSt n o h t s g kn lo lf nm) sm) sl ik bf co1 go1 fo1)) C 0 7 in4_X4_execute rfl (List.mem_of_getElem? (i := 3) rfl) rfl tyX4 tyX4_ok nmX4 rfl (rfl) (rfl) rfl (by decide) (Nat.le_of_ble_eq_true rfl) (rfl) dX4_execute_94 rfl ?_
      refine k_iload_n (q := 98) C 1 dX4_execute_97 rfl rfl ?_
      exact k_finx E (q, p1, f1, e1, co1, go1, fo1) dX4_execute_98 (congrArg (fun z => nI z.1) ((hR0 c_33))) (by rw [← (hR0 c_33)]; first | done | rfl) (trivial)
    · intro c_33
      have hR2 := hR1 c_33
      have hq2 := hqb c_33
      refine k_aload_n (q := 37) C 0 dX4_execute_36 rfl rfl ?_
      refine k_get (q := 40) (ci := 4) (v := .int (nI q)) C 0 8 in4_X4_execute rfl (List.mem_of_getElem? (i := 2) rfl) rfl rfl (by decide) rfl dX4_execute_37 rfl ?_
      refine k_aload_n (q := 41) C 0 dX4_execute_40 rfl rfl ?_
      refine k_get (q := 44) (ci := 4) (v := .int (nI ln)) C 0 7 in4_X4_execute rfl (List.mem_of_getElem? (i := 3) rfl) rfl rfl (by decide) rfl dX4_execute_41 rfl ?_
      refine k_nicmp_ge (a := q) (b := ln)  (tgt := 92) (q := 47) C dX4_execute_44 (by decide) rfl (by omega) (by omega) ?_ ?_
      · intro c_44
        refine k_aload_n (q := 93) C 0 dX4_execute_92 rfl rfl ?_
        refine k_iconst (q := 94) (v := 0) C dX4_execute_93 (by decide) rfl ?_
        refine k_put (q := 97) (ci := 4) (v := .int 0) (w2 := (wM a cy 0 (min (sm + 1) 6) 0 q p1 f1 e1 (mSt n1 o1 h1 t1 s1 g1 kn1 lo1 lf1 nm1) (mSave sv (mSt n o h t s g kn lo lf nm) sm) sl ik bf co1 go1 fo1)) C 0 7 in4_X4_execute rfl (List.mem_of_getElem? (i := 3) rfl) rfl tyX4 tyX4_ok nmX4 rfl (rfl) (rfl) rfl (by decide) (Nat.le_of_ble_eq_true rfl) (rfl) dX4_execute_94 rfl ?_
        refine k_iload_n (q := 98) C 1 dX4_execute_97 rfl rfl ?_
        exact k_finx E (q, p1, f1, e1, co1, go1, fo1) dX4_execute_98 (congrArg (fun z => nI z.1) (((kExec_n1 (f := ln + 1) (Nat.not_lt.mpr (by omega))).symm.trans (hR2 (ln + 2) (by omega))))) (by rw [← ((kExec_n1 (f := ln + 1) (Nat.not_lt.mpr (by omega))).symm.trans (hR2 (ln + 2) (by omega)))]; first | done | rfl) (trivial)
      · intro c_44
        refine k_aload_n (q := 48) C 0 dX4_execute_47 rfl rfl ?_
        refine k_callVI (n := 0) (q := 51) (pre := ([] : va_W)) (post := ([] : va_W)) (w2 := (wM a cy 0 (min (sm + 1) 6) ln ((mRO bf ln q f1 e1).2.1) ((mRO bf ln q f1 e1).2.2.1) ((mRO bf ln q f1 e1).2.2.2.1) ((mRO bf ln q f1 e1).2.2.2.2) (mSt n1 o1 h1 t1 s1 g1 kn1 lo1 lf1 nm1) (mSave sv (mSt n o h t s g kn lo lf nm) sm) sl ik bf co1 go1 fo1)) (As := []) (rest := []) C (c_X4_readsOrder cy a 0 (min (sm + 1) 6) ln q p1 f1 e1 n1 o1 h1 t1 s1 g1 kn1 lo1 lf1 nm1 (mSave sv (mSt n o h t s g kn lo lf nm) sm) sl ik bf co1 go1 fo1 hb (by omega) hln) gX4_execute_X4_readsOrder rfl rfl rfl (by decide +kernel) (k_room hR (by decide)) ⟨Nat.zero_le _, Nat.zero_le _⟩ (ci := 4) rfl 0 rfl rfl rfl (Nat.le_of_ble_eq_true rfl) ((List.append_nil _).symm) (List.append_nil _) dX4_execute_48 rfl ?_
        refine k_ifB_eq (tgt := 65) (q := 54) C dX4_execute_51 (by decide) rfl ?_ ?_
        · intro c_51
          have hr2 := mRO_ge (bf := bf) (ln := ln) (q := q) (fi := f1) (se := e1)
          have hr3 : q ≤ ln → (mRO bf ln q f1 e1).2.1 ≤ ln := fun z => mRO_q z
          refine k_iconst (q := 66) (v := 0) C dX4_execute_65 (by decide) rfl ?_
          refine k_istore_n (q := 67) (fr2 := [(2, .int 0), (0, .ref (a 0)), (1, .int (nI d))]) C dX4_execute_66 (by decide) rfl rfl ?_
          refine k_iload_n (q := 68) C 2 dX4_execute_67 rfl rfl ?_
          refine k_iload_n (q := 69) C 0 dX4_execute_68 rfl rfl ?_
          refine k_if_eq (tgt := 76) (q := 72) C dX4_execute_69 (by decide) rfl ?_ ?_
          · intro c_69
            refine k_iconst (q := 77) (v := 0) C dX4_execute_76 (by decide) rfl ?_
            refine k_iadd (q := 78) C dX4_execute_77 rfl ?_
            refine k_st (st2 := (.int (nI (d + 0)) :: _)) (congrArg (fun z => Value.int z :: _) (show (nI d) + 0 = nI (d + 0) from nI_add d 0)) ?_
            refine k_istore_n (q := 79) (fr2 := [(1, .int (nI (d + 0))), (2, .int 0), (0, .ref (a 0))]) C dX4_execute_78 (by decide) rfl rfl ?_
            refine k_aload_n (q := 80) C 2 dX4_execute_79 rfl rfl ?_
            refine k_dup (q := 81) C dX4_execute_80 rfl rfl ?_
            refine k_get (q := 84) (ci := 4) (v := .int (nI ((mRO bf ln q f1 e1).2.1))) C 0 8 in4_X4_execute rfl (List.mem_of_getElem? (i := 2) rfl) rfl rfl (by decide) rfl dX4_execute_81 rfl ?_
            refine k_iconst (q := 85) (v := 1) C dX4_execute_84 (by decide) rfl ?_
            refine k_iadd (q := 86) C dX4_execute_85 rfl ?_
            refine k_st (st2 := (.int (nI ((mRO bf ln q f1 e1).2.1 + 1)) :: _)) (congrArg (fun z => Value.int z :: _) (show (nI ((mRO bf ln q f1 e1).2.1)) + 1 = nI ((mRO bf ln q f1 e1).2.1 + 1) from nI_add ((mRO bf ln q f1 e1).2.1) 1)) ?_
            refine k_put (q := 89) (ci := 4) (v := .int (nI ((mRO bf ln q f1 e1).2.1 + 1))) (w2 := (wM a cy 0 (min (sm + 1) 6) ln ((mRO bf ln q f1 e1).2.1 + 1) ((mRO bf ln q f1 e1).2.2.1) ((mRO bf ln q f1 e1).2.2.2.1) ((mRO bf ln q f1 e1).2.2.2.2) (mSt n1 o1 h1 t1 s1 g1 kn1 lo1 lf1 nm1) (mSave sv (mSt n o h t s g kn lo lf nm) sm) sl ik bf co1 go1 fo1)) C 0 8 in4_X4_execute rfl (List.mem_of_getElem? (i := 2) rfl) rfl tyX4 tyX4_ok nmX4 rfl (rfl) (rfl) rfl (by decide) (Nat.le_of_ble_eq_true rfl) (rfl) dX4_execute_86 rfl ?_
            refine k_goto (q := 32) C dX4_execute_89 (by decide) ?_
            refine k_fr (fr2 := [(0, .ref (a 0)), (1, .int (nI (d + 0))), (2, .int 0)]) ⟨[2, 0, 1], rfl⟩ ?_
            exact ih ((mRO bf ln q f1 e1).2.1 + 1) (d + 0) false ((mRO bf ln q f1 e1).2.2.1) ((mRO bf ln q f1 e1).2.2.2.1) ((mRO bf ln q f1 e1).2.2.2.2) n1 o1 h1 t1 s1 g1 kn1 lo1 lf1 nm1 co1 go1 fo1 (by omega) (by omega) (fun z => nomatch z) hI (fun z => nomatch z) (fun _ => (kExec_n2 c_44 c_51).symm.trans (hR2 (ln + 2) (by omega)))
          · exact fun c_69 => absurd c_69 (by decide)
        · intro c_51
          refine k_aload_n (q := 55) C 0 dX4_execute_54 rfl rfl ?_
          have hr1 := mRO_q (bf := bf) (ln := ln) (q := q) (fi := f1) (se := e1) (by omega)
          have hr2 := mRO_ge (bf := bf) (ln := ln) (q := q) (fi := f1) (se := e1)
          refine k_callVIx (n := 0) (q := 58) (pre := ([] : va_W)) (post := ([] : va_W)) (w2 := (fun u => (wM a cy 0 (min (sm + 1) 6) ln ((mRO bf ln q f1 e1).2.1) ((mRO bf ln q f1 e1).2.2.1) ((mRO bf ln q f1 e1).2.2.2.1) ((mRO bf ln q f1 e1).2.2.2.2) (mSt (kN (kStep ((n1, o1, h1, t1, s1, g1, kn1, lo1, lf1, nm1) : SK) ((mRO bf ln q f1 e1).2.2.1) ((mRO bf ln q f1 e1).2.2.2.1) ((mRO bf ln q f1 e1).2.2.2.2)).2) (kO (kStep ((n1, o1, h1, t1, s1, g1, kn1, lo1, lf1, nm1) : SK) ((mRO bf ln q f1 e1).2.2.1) ((mRO bf ln q f1 e1).2.2.2.1) ((mRO bf ln q f1 e1).2.2.2.2)).2) (kH (kStep ((n1, o1, h1, t1, s1, g1, kn1, lo1, lf1, nm1) : SK) ((mRO bf ln q f1 e1).2.2.1) ((mRO bf ln q f1 e1).2.2.2.1) ((mRO bf ln q f1 e1).2.2.2.2)).2) (kT2 (kStep ((n1, o1, h1, t1, s1, g1, kn1, lo1, lf1, nm1) : SK) ((mRO bf ln q f1 e1).2.2.1) ((mRO bf ln q f1 e1).2.2.2.1) ((mRO bf ln q f1 e1).2.2.2.2)).2) (kS (kStep ((n1, o1, h1, t1, s1, g1, kn1, lo1, lf1, nm1) : SK) ((mRO bf ln q f1 e1).2.2.1) ((mRO bf ln q f1 e1).2.2.2.1) ((mRO bf ln q f1 e1).2.2.2.2)).2) (kGs (kStep ((n1, o1, h1, t1, s1, g1, kn1, lo1, lf1, nm1) : SK) ((mRO bf ln q f1 e1).2.2.1) ((mRO bf ln q f1 e1).2.2.2.1) ((mRO bf ln q f1 e1).2.2.2.2)).2) (kK (kStep ((n1, o1, h1, t1, s1, g1, kn1, lo1, lf1, nm1) : SK) ((mRO bf ln q f1 e1).2.2.1) ((mRO bf ln q f1 e1).2.2.2.1) ((mRO bf ln q f1 e1).2.2.2.2)).2) (kLo (kStep ((n1, o1, h1, t1, s1, g1, kn1, lo1, lf1, nm1) : SK) ((mRO bf ln q f1 e1).2.2.1) ((mRO bf ln q f1 e1).2.2.2.1) ((mRO bf ln q f1 e1).2.2.2.2)).2) (kLf (kStep ((n1, o1, h1, t1, s1, g1, kn1, lo1, lf1, nm1) : SK) ((mRO bf ln q f1 e1).2.2.1) ((mRO bf ln q f1 e1).2.2.2.1) ((mRO bf ln q f1 e1).2.2.2.2)).2) (kNm (kStep ((n1, o1, h1, t1, s1, g1, kn1, lo1, lf1, nm1) : SK) ((mRO bf ln q f1 e1).2.2.1) ((mRO bf ln q f1 e1).2.2.2.1) ((mRO bf ln q f1 e1).2.2.2.2)).2)) (mSave sv (mSt n o h t s g kn lo lf nm) sm) sl ik bf (u.1) (u.2.1) (u.2.2)))) (As := []) (rest := []) C (c_X4_doesOrder_g cy a 0 (min (sm + 1) 6) ln ((mRO bf ln q f1 e1).2.1) ((mRO bf ln q f1 e1).2.2.1) ((mRO bf ln q f1 e1).2.2.2.1) ((mRO bf ln q f1 e1).2.2.2.2) n1 o1 h1 t1 s1 g1 kn1 lo1 lf1 nm1 (mSave sv (mSt n o h t s g kn lo lf nm) sm) sl ik bf co1 go1 fo1 hI (mRO_ok c_51).1) gX4_execute_X4_doesOrder rfl rfl rfl (by decide +kernel) (k_room hR (by decide)) ⟨Nat.zero_le _, Nat.zero_le _⟩ (ci := 4) rfl 0 rfl rfl rfl (Nat.le_of_ble_eq_true rfl) ((List.append_nil _).symm) (fun u => List.append_nil _) dX4_execute_55 rfl ?_
          rintro ⟨co_55, go_55, fo_55⟩ h_55
          try dsimp only at h_55
          refine k_ifB_eq (tgt := 65) (q := 61) C dX4_execute_58 (by decide) rfl ?_ ?_
          · intro c_58
            have hr2 := mRO_ge (bf := bf) (ln := ln) (q := q) (fi := f1) (se := e1)
            have hr3 : q ≤ ln → (mRO bf ln q f1 e1).2.1 ≤ ln := fun z => mRO_q z
            refine k_iconst (q := 66) (v := 0) C dX4_execute_65 (by decide) rfl ?_
            refine k_istore_n (q := 67) (fr2 := [(2, .int 0), (0, .ref (a 0)), (1, .int (nI d))]) C dX4_execute_66 (by decide) rfl rfl ?_
            refine k_iload_n (q := 68) C 2 dX4_execute_67 rfl rfl ?_
            refine k_iload_n (q := 69) C 0 dX4_execute_68 rfl rfl ?_
            refine k_if_eq (tgt := 76) (q := 72) C dX4_execute_69 (by decide) rfl ?_ ?_
            · intro c_69
              refine k_iconst (q := 77) (v := 0) C dX4_execute_76 (by decide) rfl ?_
              refine k_iadd (q := 78) C dX4_execute_77 rfl ?_
              refine k_st (st2 := (.int (nI (d + 0)) :: _)) (congrArg (fun z => Value.int z :: _) (show (nI d) + 0 = nI (d + 0) from nI_add d 0)) ?_
              refine k_istore_n (q := 79) (fr2 := [(1, .int (nI (d + 0))), (2, .int 0), (0, .ref (a 0))]) C dX4_execute_78 (by decide) rfl rfl ?_
              refine k_aload_n (q := 80) C 2 dX4_execute_79 rfl rfl ?_
              refine k_dup (q := 81) C dX4_execute_80 rfl rfl ?_
              refine k_get (q := 84) (ci := 4) (v := .int (nI ((mRO bf ln q f1 e1).2.1))) C 0 8 in4_X4_execute rfl (List.mem_of_getElem? (i := 2) rfl) rfl rfl (by decide) rfl dX4_execute_81 rfl ?_
              refine k_iconst (q := 85) (v := 1) C dX4_execute_84 (by decide) rfl ?_
              refine k_iadd (q := 86) C dX4_execute_85 rfl ?_
              refine k_st (st2 := (.int (nI ((mRO bf ln q f1 e1).2.1 + 1)) :: _)) (congrArg (fun z => Value.int z :: _) (show (nI ((mRO bf ln q f1 e1).2.1)) + 1 = nI ((mRO bf ln q f1 e1).2.1 + 1) from nI_add ((mRO bf ln q f1 e1).2.1) 1)) ?_
              refine k_put (q := 89) (ci := 4) (v := .int (nI ((mRO bf ln q f1 e1).2.1 + 1))) (w2 := (wM a cy 0 (min (sm + 1) 6) ln ((mRO bf ln q f1 e1).2.1 + 1) ((mRO bf ln q f1 e1).2.2.1) ((mRO bf ln q f1 e1).2.2.2.1) ((mRO bf ln q f1 e1).2.2.2.2) (mSt (kN (kStep ((n1, o1, h1, t1, s1, g1, kn1, lo1, lf1, nm1) : SK) ((mRO bf ln q f1 e1).2.2.1) ((mRO bf ln q f1 e1).2.2.2.1) ((mRO bf ln q f1 e1).2.2.2.2)).2) (kO (kStep ((n1, o1, h1, t1, s1, g1, kn1, lo1, lf1, nm1) : SK) ((mRO bf ln q f1 e1).2.2.1) ((mRO bf ln q f1 e1).2.2.2.1) ((mRO bf ln q f1 e1).2.2.2.2)).2) (kH (kStep ((n1, o1, h1, t1, s1, g1, kn1, lo1, lf1, nm1) : SK) ((mRO bf ln q f1 e1).2.2.1) ((mRO bf ln q f1 e1).2.2.2.1) ((mRO bf ln q f1 e1).2.2.2.2)).2) (kT2 (kStep ((n1, o1, h1, t1, s1, g1, kn1, lo1, lf1, nm1) : SK) ((mRO bf ln q f1 e1).2.2.1) ((mRO bf ln q f1 e1).2.2.2.1) ((mRO bf ln q f1 e1).2.2.2.2)).2) (kS (kStep ((n1, o1, h1, t1, s1, g1, kn1, lo1, lf1, nm1) : SK) ((mRO bf ln q f1 e1).2.2.1) ((mRO bf ln q f1 e1).2.2.2.1) ((mRO bf ln q f1 e1).2.2.2.2)).2) (kGs (kStep ((n1, o1, h1, t1, s1, g1, kn1, lo1, lf1, nm1) : SK) ((mRO bf ln q f1 e1).2.2.1) ((mRO bf ln q f1 e1).2.2.2.1) ((mRO bf ln q f1 e1).2.2.2.2)).2) (kK (kStep ((n1, o1, h1, t1, s1, g1, kn1, lo1, lf1, nm1) : SK) ((mRO bf ln q f1 e1).2.2.1) ((mRO bf ln q f1 e1).2.2.2.1) ((mRO bf ln q f1 e1).2.2.2.2)).2) (kLo (kStep ((n1, o1, h1, t1, s1, g1, kn1, lo1, lf1, nm1) : SK) ((mRO bf ln q f1 e1).2.2.1) ((mRO bf ln q f1 e1).2.2.2.1) ((mRO bf ln q f1 e1).2.2.2.2)).2) (kLf (kStep ((n1, o1, h1, t1, s1, g1, kn1, lo1, lf1, nm1) : SK) ((mRO bf ln q f1 e1).2.2.1) ((mRO bf ln q f1 e1).2.2.2.1) ((mRO bf ln q f1 e1).2.2.2.2)).2) (kNm (kStep ((n1, o1, h1, t1, s1, g1, kn1, lo1, lf1, nm1) : SK) ((mRO bf ln q f1 e1).2.2.1) ((mRO bf ln q f1 e1).2.2.2.1) ((mRO bf ln q f1 e1).2.2.2.2)).2)) (mSave sv (mSt n o h t s g kn lo lf nm) sm) sl ik bf co_55 go_55 fo_55)) C 0 8 in4_X4_execute rfl (List.mem_of_getElem? (i := 2) rfl) rfl tyX4 tyX4_ok nmX4 rfl (rfl) (rfl) rfl (by decide) (Nat.le_of_ble_eq_true rfl) (rfl) dX4_execute_86 rfl ?_
              refine k_goto (q := 32) C dX4_execute_89 (by decide) ?_
              refine k_fr (fr2 := [(0, .ref (a 0)), (1, .int (nI (d + 0))), (2, .int 0)]) ⟨[2, 0, 1], rfl⟩ ?_
              exact ih ((mRO bf ln q f1 e1).2.1 + 1) (d + 0) false ((mRO bf ln q f1 e1).2.2.1) ((mRO bf ln q f1 e1).2.2.2.1) ((mRO bf ln q f1 e1).2.2.2.2) (kN (kStep ((n1, o1, h1, t1, s1, g1, kn1, lo1, lf1, nm1) : SK) ((mRO bf ln q f1 e1).2.2.1) ((mRO bf ln q f1 e1).2.2.2.1) ((mRO bf ln q f1 e1).2.2.2.2)).2) (kO (kStep ((n1, o1, h1, t1, s1, g1, kn1, lo1, lf1, nm1) : SK) ((mRO bf ln q f1 e1).2.2.1) ((mRO bf ln q f1 e1).2.2.2.1) ((mRO bf ln q f1 e1).2.2.2.2)).2) (kH (kStep ((n1, o1, h1, t1, s1, g1, kn1, lo1, lf1, nm1) : SK) ((mRO bf ln q f1 e1).2.2.1) ((mRO bf ln q f1 e1).2.2.2.1) ((mRO bf ln q f1 e1).2.2.2.2)).2) (kT2 (kStep ((n1, o1, h1, t1, s1, g1, kn1, lo1, lf1, nm1) : SK) ((mRO bf ln q f1 e1).2.2.1) ((mRO bf ln q f1 e1).2.2.2.1) ((mRO bf ln q f1 e1).2.2.2.2)).2) (kS (kStep ((n1, o1, h1, t1, s1, g1, kn1, lo1, lf1, nm1) : SK) ((mRO bf ln q f1 e1).2.2.1) ((mRO bf ln q f1 e1).2.2.2.1) ((mRO bf ln q f1 e1).2.2.2.2)).2) (kGs (kStep ((n1, o1, h1, t1, s1, g1, kn1, lo1, lf1, nm1) : SK) ((mRO bf ln q f1 e1).2.2.1) ((mRO bf ln q f1 e1).2.2.2.1) ((mRO bf ln q f1 e1).2.2.2.2)).2) (kK (kStep ((n1, o1, h1, t1, s1, g1, kn1, lo1, lf1, nm1) : SK) ((mRO bf ln q f1 e1).2.2.1) ((mRO bf ln q f1 e1).2.2.2.1) ((mRO bf ln q f1 e1).2.2.2.2)).2) (kLo (kStep ((n1, o1, h1, t1, s1, g1, kn1, lo1, lf1, nm1) : SK) ((mRO bf ln q f1 e1).2.2.1) ((mRO bf ln q f1 e1).2.2.2.1) ((mRO bf ln q f1 e1).2.2.2.2)).2) (kLf (kStep ((n1, o1, h1, t1, s1, g1, kn1, lo1, lf1, nm1) : SK) ((mRO bf ln q f1 e1).2.2.1) ((mRO bf ln q f1 e1).2.2.2.1) ((mRO bf ln q f1 e1).2.2.2.2)).2) (kNm (kStep ((n1, o1, h1, t1, s1, g1, kn1, lo1, lf1, nm1) : SK) ((mRO bf ln q f1 e1).2.2.1) ((mRO bf ln q f1 e1).2.2.2.1) ((mRO bf ln q f1 e1).2.2.2.2)).2) co_55 go_55 fo_55 (by omega) (by omega) (fun z => nomatch z) (kStep_inv hI (mRO_ok c_51).1) (fun z => nomatch z) (fun _ => (kExec_n3 c_44 c_51 c_58).symm.trans (hR2 (ln + 2) (by omega)))
            · exact fun c_69 => absurd c_69 (by decide)
          · intro c_58
            refine k_iconst (q := 62) (v := 1) C dX4_execute_61 (by decide) rfl ?_
            refine k_goto (q := 66) C dX4_execute_62 (by decide) ?_
            refine k_istore_n (q := 67) (fr2 := [(2, .int 1), (0, .ref (a 0)), (1, .int (nI d))]) C dX4_execute_66 (by decide) rfl rfl ?_
            refine k_iload_n (q := 68) C 2 dX4_execute_67 rfl rfl ?_
            refine k_iload_n (q := 69) C 0 dX4_execute_68 rfl rfl ?_
            refine k_if_eq (tgt := 76) (q := 72) C dX4_execute_69 (by decide) rfl ?_ ?_
            · exact fun c_69 => absurd c_69 (by decide)
            · intro c_69
              refine k_iconst (q := 73) (v := 1) C dX4_execute_72 (by decide) rfl ?_
              refine k_goto (q := 77) C dX4_execute_73 (by decide) ?_
              refine k_iadd (q := 78) C dX4_execute_77 rfl ?_
              refine k_st (st2 := (.int (nI (d + 1)) :: _)) (congrArg (fun z => Value.int z :: _) (show (nI d) + 1 = nI (d + 1) from nI_add d 1)) ?_
              refine k_istore_n (q := 79) (fr2 := [(1, .int (nI (d + 1))), (2, .int 1), (0, .ref (a 0))]) C dX4_execute_78 (by decide) rfl rfl ?_
              refine k_aload_n (q := 80) C 2 dX4_execute_79 rfl rfl ?_
              refine k_dup (q := 81) C dX4_execute_80 rfl rfl ?_
              refine k_get (q := 84) (ci := 4) (v := .int (nI ((mRO bf ln q f1 e1).2.1))) C 0 8 in4_X4_execute rfl (List.mem_of_getElem? (i := 2) rfl) rfl rfl (by decide) rfl dX4_execute_81 rfl ?_
              refine k_iconst (q := 85) (v := 1) C dX4_execute_84 (by decide) rfl ?_
              refine k_iadd (q := 86) C dX4_execute_85 rfl ?_
              refine k_st (st2 := (.int (nI ((mRO bf ln q f1 e1).2.1 + 1)) :: _)) (congrArg (fun z => Value.int z :: _) (show (nI ((mRO bf ln q f1 e1).2.1)) + 1 = nI ((mRO bf ln q f1 e1).2.1 + 1) from nI_add ((mRO bf ln q f1 e1).2.1) 1)) ?_
              refine k_put (q := 89) (ci := 4) (v := .int (nI ((mRO bf ln q f1 e1).2.1 + 1))) (w2 := (wM a cy 0 (min (sm + 1) 6) ln ((mRO bf ln q f1 e1).2.1 + 1) ((mRO bf ln q f1 e1).2.2.1) ((mRO bf ln q f1 e1).2.2.2.1) ((mRO bf ln q f1 e1).2.2.2.2) (mSt (kN (kStep ((n1, o1, h1, t1, s1, g1, kn1, lo1, lf1, nm1) : SK) ((mRO bf ln q f1 e1).2.2.1) ((mRO bf ln q f1 e1).2.2.2.1) ((mRO bf ln q f1 e1).2.2.2.2)).2) (kO (kStep ((n1, o1, h1, t1, s1, g1, kn1, lo1, lf1, nm1) : SK) ((mRO bf ln q f1 e1).2.2.1) ((mRO bf ln q f1 e1).2.2.2.1) ((mRO bf ln q f1 e1).2.2.2.2)).2) (kH (kStep ((n1, o1, h1, t1, s1, g1, kn1, lo1, lf1, nm1) : SK) ((mRO bf ln q f1 e1).2.2.1) ((mRO bf ln q f1 e1).2.2.2.1) ((mRO bf ln q f1 e1).2.2.2.2)).2) (kT2 (kStep ((n1, o1, h1, t1, s1, g1, kn1, lo1, lf1, nm1) : SK) ((mRO bf ln q f1 e1).2.2.1) ((mRO bf ln q f1 e1).2.2.2.1) ((mRO bf ln q f1 e1).2.2.2.2)).2) (kS (kStep ((n1, o1, h1, t1, s1, g1, kn1, lo1, lf1, nm1) : SK) ((mRO bf ln q f1 e1).2.2.1) ((mRO bf ln q f1 e1).2.2.2.1) ((mRO bf ln q f1 e1).2.2.2.2)).2) (kGs (kStep ((n1, o1, h1, t1, s1, g1, kn1, lo1, lf1, nm1) : SK) ((mRO bf ln q f1 e1).2.2.1) ((mRO bf ln q f1 e1).2.2.2.1) ((mRO bf ln q f1 e1).2.2.2.2)).2) (kK (kStep ((n1, o1, h1, t1, s1, g1, kn1, lo1, lf1, nm1) : SK) ((mRO bf ln q f1 e1).2.2.1) ((mRO bf ln q f1 e1).2.2.2.1) ((mRO bf ln q f1 e1).2.2.2.2)).2) (kLo (kStep ((n1, o1, h1, t1, s1, g1, kn1, lo1, lf1, nm1) : SK) ((mRO bf ln q f1 e1).2.2.1) ((mRO bf ln q f1 e1).2.2.2.1) ((mRO bf ln q f1 e1).2.2.2.2)).2) (kLf (kStep ((n1, o1, h1, t1, s1, g1, kn1, lo1, lf1, nm1) : SK) ((mRO bf ln q f1 e1).2.2.1) ((mRO bf ln q f1 e1).2.2.2.1) ((mRO bf ln q f1 e1).2.2.2.2)).2) (kNm (kStep ((n1, o1, h1, t1, s1, g1, kn1, lo1, lf1, nm1) : SK) ((mRO bf ln q f1 e1).2.2.1) ((mRO bf ln q f1 e1).2.2.2.1) ((mRO bf ln q f1 e1).2.2.2.2)).2)) (mSave sv (mSt n o h t s g kn lo lf nm) sm) sl ik bf co_55 go_55 fo_55)) C 0 8 in4_X4_execute rfl (List.mem_of_getElem? (i := 2) rfl) rfl tyX4 tyX4_ok nmX4 rfl (rfl) (rfl) rfl (by decide) (Nat.le_of_ble_eq_true rfl) (rfl) dX4_execute_86 rfl ?_
              refine k_goto (q := 32) C dX4_execute_89 (by decide) ?_
              refine k_fr (fr2 := [(0, .ref (a 0)), (1, .int (nI (d + 1))), (2, .int 1)]) ⟨[2, 0, 1], rfl⟩ ?_
              exact ih ((mRO bf ln q f1 e1).2.1 + 1) (d + 1) true ((mRO bf ln q f1 e1).2.2.1) ((mRO bf ln q f1 e1).2.2.2.1) ((mRO bf ln q f1 e1).2.2.2.2) (kN (kStep ((n1, o1, h1, t1, s1, g1, kn1, lo1, lf1, nm1) : SK) ((mRO bf ln q f1 e1).2.2.1) ((mRO bf ln q f1 e1).2.2.2.1) ((mRO bf ln q f1 e1).2.2.2.2)).2) (kO (kStep ((n1, o1, h1, t1, s1, g1, kn1, lo1, lf1, nm1) : SK) ((mRO bf ln q f1 e1).2.2.1) ((mRO bf ln q f1 e1).2.2.2.1) ((mRO bf ln q f1 e1).2.2.2.2)).2) (kH (kStep ((n1, o1, h1, t1, s1, g1, kn1, lo1, lf1, nm1) : SK) ((mRO bf ln q f1 e1).2.2.1) ((mRO bf ln q f1 e1).2.2.2.1) ((mRO bf ln q f1 e1).2.2.2.2)).2) (kT2 (kStep ((n1, o1, h1, t1, s1, g1, kn1, lo1, lf1, nm1) : SK) ((mRO bf ln q f1 e1).2.2.1) ((mRO bf ln q f1 e1).2.2.2.1) ((mRO bf ln q f1 e1).2.2.2.2)).2) (kS (kStep ((n1, o1, h1, t1, s1, g1, kn1, lo1, lf1, nm1) : SK) ((mRO bf ln q f1 e1).2.2.1) ((mRO bf ln q f1 e1).2.2.2.1) ((mRO bf ln q f1 e1).2.2.2.2)).2) (kGs (kStep ((n1, o1, h1, t1, s1, g1, kn1, lo1, lf1, nm1) : SK) ((mRO bf ln q f1 e1).2.2.1) ((mRO bf ln q f1 e1).2.2.2.1) ((mRO bf ln q f1 e1).2.2.2.2)).2) (kK (kStep ((n1, o1, h1, t1, s1, g1, kn1, lo1, lf1, nm1) : SK) ((mRO bf ln q f1 e1).2.2.1) ((mRO bf ln q f1 e1).2.2.2.1) ((mRO bf ln q f1 e1).2.2.2.2)).2) (kLo (kStep ((n1, o1, h1, t1, s1, g1, kn1, lo1, lf1, nm1) : SK) ((mRO bf ln q f1 e1).2.2.1) ((mRO bf ln q f1 e1).2.2.2.1) ((mRO bf ln q f1 e1).2.2.2.2)).2) (kLf (kStep ((n1, o1, h1, t1, s1, g1, kn1, lo1, lf1, nm1) : SK) ((mRO bf ln q f1 e1).2.2.1) ((mRO bf ln q f1 e1).2.2.2.1) ((mRO bf ln q f1 e1).2.2.2.2)).2) (kNm (kStep ((n1, o1, h1, t1, s1, g1, kn1, lo1, lf1, nm1) : SK) ((mRO bf ln q f1 e1).2.2.1) ((mRO bf ln q f1 e1).2.2.2.1) ((mRO bf ln q f1 e1).2.2.2.2)).2) co_55 go_55 fo_55 (by omega) (by omega) (fun _ => by omega) (kStep_inv hI (mRO_ok c_51).1) (fun _ f hf => ((kExec_fuel f (ln + 1) _ _ _ hf (by omega)).trans (kExec_s c_44 c_51 c_58).symm).trans (hR2 (ln + 2) (by omega))) (fun z => absurd rfl z)
set_option maxHeartbeats 4000000 in
set_option maxRecDepth 100000 in
theorem c_X4_execute (cy : Nat → ClassId) (a : Nat → Nat) (th : Int32) (sm : Nat) (ln : Nat) (pt : Nat) (sg : Nat) (fi : Int32) (se : Int32) (n : Nat) (o : Nat → Int32) (h : Nat → Int32) (t : Nat → Int32) (s : Nat → Int32) (g : Nat → Int32) (kn : Nat) (lo : Int32) (lf : Int32) (nm : Nat → Int32) (sv : Nat → Int32) (sl : Nat → Int32) (ik : Nat → Int32) (bf : Nat → Nat) (co : Nat → Int32) (go : Nat → Int32) (fo : Nat → Int32)  (hb : ∀ i, bf i ≤ 126) (hln : ln ≤ 60) (he : (mFE bf ln (ln + 1) 0) = none) (hK : kInv (n, o, h, t, s, g, kn, lo, lf, nm)) (hs : sm ≤ 6) : kIx yX4_execute wsX4_execute rm_X4_execute cy [.ref (a 0)] (wM a cy th sm ln pt sg fi se (mSt n o h t s g kn lo lf nm) sv sl ik bf co go fo) (nI (kExec bf ln (ln + 1) 0 0 ((n, o, h, t, s, g, kn, lo, lf, nm) : SK)).1) (fun (u : Nat × Nat × Int32 × Int32 × (Nat → Int32) × (Nat → Int32) × (Nat → Int32)) => (wM a cy 0 (min (sm + 1) 6) 0 u.1 u.2.1 u.2.2.1 u.2.2.2.1 (mSt (kN (kExec bf ln (ln + 1) 0 0 ((n, o, h, t, s, g, kn, lo, lf, nm) : SK)).2) (kO (kExec bf ln (ln + 1) 0 0 ((n, o, h, t, s, g, kn, lo, lf, nm) : SK)).2) (kH (kExec bf ln (ln + 1) 0 0 ((n, o, h, t, s, g, kn, lo, lf, nm) : SK)).2) (kT2 (kExec bf ln (ln + 1) 0 0 ((n, o, h, t, s, g, kn, lo, lf, nm) : SK)).2) (kS (kExec bf ln (ln + 1) 0 0 ((n, o, h, t, s, g, kn, lo, lf, nm) : SK)).2) (kGs (kExec bf ln (ln + 1) 0 0 ((n, o, h, t, s, g, kn, lo, lf, nm) : SK)).2) (kK (kExec bf ln (ln + 1) 0 0 ((n, o, h, t, s, g, kn, lo, lf, nm) : SK)).2) (kLo (kExec bf ln (ln + 1) 0 0 ((n, o, h, t, s, g, kn, lo, lf, nm) : SK)).2) (kLf (kExec bf ln (ln + 1) 0 0 ((n, o, h, t, s, g, kn, lo, lf, nm) : SK)).2) (kNm (kExec bf ln (ln + 1) 0 0 ((n, o, h, t, s, g, kn, lo, lf, nm) : SK)).2)) (mSave sv (mSt n o h t s g kn lo lf nm) sm) sl ik bf u.2.2.2.2.1 u.2.2.2.2.2.1 u.2.2.2.2.2.2)) (fun (u : Nat × Nat × Int32 × Int32 × (Nat → Int32) × (Nat → Int32) × (Nat → Int32)) => True) := by
  refine kIx_of (cc := cX4_execute) (maxL := 3) (rt := .int) (by decide) rfl (rfl) (Nat.le_of_ble_eq_true rfl) ?_
  intro X hR C E
  have C : kC X 3 RX4 cX4_execute wsX4_execute cy := C
  refine k_fr (fr2 := [(0, .ref (a 0))]) ⟨[0], rfl⟩ ?_
  have hfe : ∀ q, mFE bf ln (ln + 1) 0 = some q → q < 1000 := fun q e => by have := mFE_le _ _ _ (Nat.zero_le _) e; omega
  refine k_aload_n (q := 1) C 0 dX4_execute_0 rfl rfl ?_
  refine k_iconst (q := 2) (v := 0) C dX4_execute_1 (by decide) rfl ?_
  refine k_put (q := 5) (ci := 4) (v := .int 0) (w2 := (wM a cy 0 sm ln pt sg fi se (mSt n o h t s g kn lo lf nm) sv sl ik bf co go fo)) C 0 0 in4_X4_execute rfl (List.mem_of_getElem? (i := 1) rfl) rfl tyX4 tyX4_ok nmX4 rfl (rfl) (rfl) rfl (by decide) (Nat.le_of_ble_eq_true rfl) (rfl) dX4_execute_2 rfl ?_
  refine k_aload_n (q := 6) C 0 dX4_execute_5 rfl rfl ?_
  refine k_callVIx (n := 0) (q := 9) (pre := ([] : va_W)) (post := ([] : va_W)) (w2 := (fun u => (wM a cy 0 sm ln (u.1) (u.2.1) (u.2.2.1) (u.2.2.2) (mSt n o h t s g kn lo lf nm) sv sl ik bf co go fo))) (As := []) (rest := []) C (c_X4_findError cy a 0 sm ln pt sg fi se n o h t s g kn lo lf nm sv sl ik bf co go fo hb hln) gX4_execute_X4_findError rfl rfl rfl (by decide +kernel) (k_room hR (by decide)) ⟨Nat.zero_le _, Nat.zero_le _⟩ (ci := 4) rfl 0 rfl rfl rfl (Nat.le_of_ble_eq_true rfl) ((List.append_nil _).symm) (fun u => List.append_nil _) dX4_execute_6 rfl ?_
  rintro ⟨pt_6, sg_6, fi_6, se_6⟩ h_6
  try dsimp only at h_6
  refine k_iconst (q := 10) (v := -1) C dX4_execute_9 (by decide) rfl ?_
  refine k_icmp_eq (tgt := 19) (q := 13) C dX4_execute_10 (by decide) rfl ?_ ?_
  · intro c_10
    refine k_aload_n (q := 20) C 0 dX4_execute_19 rfl rfl ?_
    refine k_callVV (n := 0) (q := 23) (pre := ([] : va_W)) (post := ([] : va_W)) (w2 := (wM a cy 0 (min (sm + 1) 6) ln pt_6 sg_6 fi_6 se_6 (mSt n o h t s g kn lo lf nm) (mSave sv (mSt n o h t s g kn lo lf nm) sm) sl ik bf co go fo)) (As := []) (rest := []) C (c_X4_save cy a 0 sm ln pt_6 sg_6 fi_6 se_6 (mSt n o h t s g kn lo lf nm) sv sl ik bf co go fo (by omega)) gX4_execute_X4_save rfl rfl rfl (by decide +kernel) (k_room hR (by decide)) ⟨Nat.zero_le _, Nat.zero_le _⟩ (ci := 4) rfl 0 rfl rfl rfl (Nat.le_of_ble_eq_true rfl) ((List.append_nil _).symm) (List.append_nil _) dX4_execute_20 rfl ?_
    refine k_aload_n (q := 24) C 0 dX4_execute_23 rfl rfl ?_
    refine k_iconst (q := 25) (v := 0) C dX4_execute_24 (by decide) rfl ?_
    refine k_put (q := 28) (ci := 4) (v := .int 0) (w2 := (wM a cy 0 (min (sm + 1) 6) ln 0 sg_6 fi_6 se_6 (mSt n o h t s g kn lo lf nm) (mSave sv (mSt n o h t s g kn lo lf nm) sm) sl ik bf co go fo)) C 0 8 in4_X4_execute rfl (List.mem_of_getElem? (i := 2) rfl) rfl tyX4 tyX4_ok nmX4 rfl (rfl) (rfl) rfl (by decide) (Nat.le_of_ble_eq_true rfl) (rfl) dX4_execute_25 rfl ?_
    refine k_iconst (q := 29) (v := 0) C dX4_execute_28 (by decide) rfl ?_
    refine k_istore_n (q := 30) (fr2 := [(1, .int 0), (0, .ref (a 0))]) C dX4_execute_29 (by decide) rfl rfl ?_
    refine k_iconst (q := 31) (v := 1) C dX4_execute_30 (by decide) rfl ?_
    refine k_istore_n (q := 32) (fr2 := [(2, .int 1), (1, .int 0), (0, .ref (a 0))]) C dX4_execute_31 (by decide) rfl rfl ?_
    refine k_fr (fr2 := [(0, .ref (a 0)), (1, .int 0), (2, .int 1)]) ⟨[2, 1, 0], rfl⟩ ?_
    exact lp_X4_execute_32 cy a th sm ln pt sg fi se n o h t s g kn lo lf nm sv sl ik bf co go fo hb hln he hK hs X hR C E _ 0 0 true sg_6 fi_6 se_6 n o h t s g kn lo lf nm co go fo (Nat.lt_succ_self _) (by omega) (fun _ => by omega) hK (fun _ f hf => kExec_fuel f (ln + 1) 0 0 _ hf (by omega)) (fun z => absurd rfl z)
  · exact fun c_10 => absurd ((mFEv_none hfe).mpr he) c_10
