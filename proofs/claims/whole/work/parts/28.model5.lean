abbrev rm_X4_findError : Room := { frames := 4, cells := 0, slots := 0, locals := 87 }
theorem in4_X4_findError : ∀ w ∈ wsX40, w ∈ wsX4_findError := fun _ h => (List.mem_cons_of_mem _ (List.mem_append_right _ h))
set_option maxHeartbeats 4000000 in
set_option maxRecDepth 100000 in
theorem lp_X4_findError_5 (cy : Nat → ClassId) (a : Nat → Nat) (th : Int32) (sm : Nat) (ln : Nat) (pt : Nat) (sg : Nat) (fi : Int32) (se : Int32) (n : Nat) (o : Nat → Int32) (h : Nat → Int32) (t : Nat → Int32) (s : Nat → Int32) (g : Nat → Int32) (kn : Nat) (lo : Int32) (lf : Int32) (nm : Nat → Int32) (sv : Nat → Int32) (sl : Nat → Int32) (ik : Nat → Int32) (bf : Nat → Nat) (co : Nat → Int32) (go : Nat → Int32) (fo : Nat → Int32)  (hb : ∀ i, bf i ≤ 126) (hln : ln ≤ 60) (X : kX) (hR : xR X = rm_X4_findError) (C : kC X 1 RX4 cX4_findError wsX4_findError cy) (E : kEndx X 1 cX4_findError (mFEv (mFE bf ln (ln + 1) 0)) (fun (u : Nat × Nat × Int32 × Int32) => (wM a cy th sm ln u.1 u.2.1 u.2.2.1 u.2.2.2 (mSt n o h t s g kn lo lf nm) sv sl ik bf co go fo)) (fun (u : Nat × Nat × Int32 × Int32) => True)) : ∀ (fu : Nat) (q : Nat) (g1 : Nat) (f1 : Int32) (e1 : Int32), ln + 1 - q < fu → (q ≤ ln) → (∀ f, ln + 1 - q ≤ f → mFE bf ln f q = (mFE bf ln (ln + 1) 0)) → kG X 1 0 0 (wM a cy th sm ln q g1 f1 e1 (mSt n o h t s g kn lo lf nm) sv sl ik bf co go fo) 5 [(0, .ref (a 0))] [] := by
  intro fu
  induction fu with
  | zero => intro q g1 f1 e1 hfu; exact absurd hfu (Nat.not_lt_zero _)
  | succ fu ih =>
    intro q g1 f1 e1 hfu hq hr
    have hr1 := hr (ln - q + 1) (by omega)
    have h00 := mRO_0 (bf := bf) (ln := ln) (q := q) f1 e1
    have hq2 := mRO_q (bf := bf) (ln := ln) (q := q) (fi := f1) (se := e1) hq
    have hge := mRO_ge (bf := bf) (ln := ln) (q := q) (fi := f1) (se := e1)
    refine k_aload_n (q := 6) C 0 dX4_findError_5 rfl rfl ?_
    refine k_callVI (n := 0) (q := 9) (pre := ([] : va_W)) (post := ([] : va_W)) (w2 := (wM a cy th sm ln ((mRO bf ln q f1 e1).2.1) ((mRO bf ln q f1 e1).2.2.1) ((mRO bf ln q f1 e1).2.2.2.1) ((mRO bf ln q f1 e1).2.2.2.2) (mSt n o h t s g kn lo lf nm) sv sl ik bf co go fo)) (As := []) (rest := []) C (c_X4_readsOrder cy a th sm ln q g1 f1 e1 n o h t s g kn lo lf nm sv sl ik bf co go fo hb hq hln) gX4_findError_X4_readsOrder rfl rfl rfl (by decide +kernel) (k_room hR (by decide)) ⟨Nat.zero_le _, Nat.zero_le _⟩ (ci := 4) rfl 0 rfl rfl rfl (Nat.le_of_ble_eq_true rfl) ((List.append_nil _).symm) (List.append_nil _) dX4_findError_6 rfl ?_
    refine k_ifB_eq (tgt := 39) (q := 12) C dX4_findError_9 (by decide) rfl ?_ ?_
    · intro c_9
      refine k_aload_n (q := 40) C 0 dX4_findError_39 rfl rfl ?_
      refine k_get (q := 43) (ci := 4) (v := .int (nI ((mRO bf ln q f1 e1).2.1))) C 0 8 in4_X4_findError rfl (List.mem_of_getElem? (i := 1) rfl) rfl rfl (by decide) rfl dX4_findError_40 rfl ?_
      exact k_finx E ((mRO bf ln q f1 e1).2.1, (mRO bf ln q f1 e1).2.2.1, (mRO bf ln q f1 e1).2.2.2.1, (mRO bf ln q f1 e1).2.2.2.2) dX4_findError_43 (by rw [← hr1, mFE, ← h00.1, ← h00.2, if_neg c_9]; rfl) (rfl) (trivial)
    · intro c_9
      refine k_aload_n (q := 13) C 0 dX4_findError_12 rfl rfl ?_
      refine k_get (q := 16) (ci := 4) (v := .int (nI ((mRO bf ln q f1 e1).2.1))) C 0 8 in4_X4_findError rfl (List.mem_of_getElem? (i := 1) rfl) rfl rfl (by decide) rfl dX4_findError_13 rfl ?_
      refine k_aload_n (q := 17) C 0 dX4_findError_16 rfl rfl ?_
      refine k_get (q := 20) (ci := 4) (v := .int (nI ln)) C 0 7 in4_X4_findError rfl (List.mem_of_getElem? (i := 2) rfl) rfl rfl (by decide) rfl dX4_findError_17 rfl ?_
      refine k_nicmp_ne (a := (mRO bf ln q f1 e1).2.1) (b := ln)  (tgt := 25) (q := 23) C dX4_findError_20 (by decide) rfl (by omega) (by omega) ?_ ?_
      · intro c_20
        refine k_aload_n (q := 26) C 0 dX4_findError_25 rfl rfl ?_
        refine k_bipush (q := 28) (v := 59) C dX4_findError_26 (by decide +kernel) rfl ?_
        refine k_callVI (n := 1) (q := 31) (pre := ([] : va_W)) (post := ([] : va_W)) (w2 := (wM a cy th sm ln (mTk bf ln 59 ((mRO bf ln q f1 e1).2.1)) ((mRO bf ln q f1 e1).2.2.1) ((mRO bf ln q f1 e1).2.2.2.1) ((mRO bf ln q f1 e1).2.2.2.2) (mSt n o h t s g kn lo lf nm) sv sl ik bf co go fo)) (As := [.int 59]) (rest := []) C (c_X4_takes cy a th sm ln ((mRO bf ln q f1 e1).2.1) ((mRO bf ln q f1 e1).2.2.1) ((mRO bf ln q f1 e1).2.2.2.1) ((mRO bf ln q f1 e1).2.2.2.2) n o h t s g kn lo lf nm sv sl ik bf co go fo 59 hb hq2 hln (by decide)) gX4_findError_X4_takes rfl rfl rfl (by decide +kernel) (k_room hR (by decide)) ⟨Nat.zero_le _, Nat.zero_le _⟩ (ci := 4) rfl 0 rfl rfl rfl (Nat.le_of_ble_eq_true rfl) ((List.append_nil _).symm) (List.append_nil _) dX4_findError_28 rfl ?_
        refine k_ifB_ne (tgt := 5) (q := 34) C dX4_findError_31 (by decide) rfl ?_ ?_
        · intro c_31
          have hql : (mRO bf ln q f1 e1).2.1 < ln := mNx_q (bf := bf) (by omega)
          have emt : mTk bf ln 59 (mRO bf ln q f1 e1).2.1 = (mRO bf ln q f1 e1).2.1 + 1 := by rw [mTk, if_pos c_31]
          rw [emt]
          exact ih ((mRO bf ln q f1 e1).2.1 + 1) ((mRO bf ln q f1 e1).2.2.1) ((mRO bf ln q f1 e1).2.2.2.1) ((mRO bf ln q f1 e1).2.2.2.2) (by omega) (by omega) (fun f hf => by rw [← hr (ln + 2) (by omega), mFE, ← h00.1, ← h00.2, if_pos c_9, if_neg c_20, if_pos c_31]; exact mFE_fuel f (ln + 1) _ (by omega) hf (by omega))
        · intro c_31
          refine k_aload_n (q := 35) C 0 dX4_findError_34 rfl rfl ?_
          refine k_get (q := 38) (ci := 4) (v := .int (nI (mTk bf ln 59 ((mRO bf ln q f1 e1).2.1)))) C 0 8 in4_X4_findError rfl (List.mem_of_getElem? (i := 1) rfl) rfl rfl (by decide) rfl dX4_findError_35 rfl ?_
          exact k_finx E (mTk bf ln 59 ((mRO bf ln q f1 e1).2.1), (mRO bf ln q f1 e1).2.2.1, (mRO bf ln q f1 e1).2.2.2.1, (mRO bf ln q f1 e1).2.2.2.2) dX4_findError_38 (by rw [← hr1, mFE, ← h00.1, ← h00.2, if_pos c_9, if_neg c_20, if_neg c_31, mTk, if_neg c_31]; rfl) (rfl) (trivial)
      · intro c_20
        refine k_iconst (q := 24) (v := -1) C dX4_findError_23 (by decide) rfl ?_
        exact k_finx E ((mRO bf ln q f1 e1).2.1, (mRO bf ln q f1 e1).2.2.1, (mRO bf ln q f1 e1).2.2.2.1, (mRO bf ln q f1 e1).2.2.2.2) dX4_findError_24 (by rw [← hr1, mFE, ← h00.1, ← h00.2, if_pos c_9, if_pos c_20]; rfl) (rfl) (trivial)
set_option maxHeartbeats 4000000 in
set_option maxRecDepth 100000 in
theorem c_X4_findError (cy : Nat → ClassId) (a : Nat → Nat) (th : Int32) (sm : Nat) (ln : Nat) (pt : Nat) (sg : Nat) (fi : Int32) (se : Int32) (n : Nat) (o : Nat → Int32) (h : Nat → Int32) (t : Nat → Int32) (s : Nat → Int32) (g : Nat → Int32) (kn : Nat) (lo : Int32) (lf : Int32) (nm : Nat → Int32) (sv : Nat → Int32) (sl : Nat → Int32) (ik : Nat → Int32) (bf : Nat → Nat) (co : Nat → Int32) (go : Nat → Int32) (fo : Nat → Int32)  (hb : ∀ i, bf i ≤ 126) (hln : ln ≤ 60) : kIx yX4_findError wsX4_findError rm_X4_findError cy [.ref (a 0)] (wM a cy th sm ln pt sg fi se (mSt n o h t s g kn lo lf nm) sv sl ik bf co go fo) (mFEv (mFE bf ln (ln + 1) 0)) (fun (u : Nat × Nat × Int32 × Int32) => (wM a cy th sm ln u.1 u.2.1 u.2.2.1 u.2.2.2 (mSt n o h t s g kn lo lf nm) sv sl ik bf co go fo)) (fun (u : Nat × Nat × Int32 × Int32) => True) := by
  refine kIx_of (cc := cX4_findError) (maxL := 1) (rt := .int) (by decide) rfl (rfl) (Nat.le_of_ble_eq_true rfl) ?_
  intro X hR C E
  have C : kC X 1 RX4 cX4_findError wsX4_findError cy := C
  refine k_fr (fr2 := [(0, .ref (a 0))]) ⟨[0], rfl⟩ ?_
  refine k_aload_n (q := 1) C 0 dX4_findError_0 rfl rfl ?_
  refine k_iconst (q := 2) (v := 0) C dX4_findError_1 (by decide) rfl ?_
  refine k_put (q := 5) (ci := 4) (v := .int 0) (w2 := (wM a cy th sm ln 0 sg fi se (mSt n o h t s g kn lo lf nm) sv sl ik bf co go fo)) C 0 8 in4_X4_findError rfl (List.mem_of_getElem? (i := 1) rfl) rfl tyX4 tyX4_ok nmX4 rfl (rfl) (rfl) rfl (by decide) (Nat.le_of_ble_eq_true rfl) (rfl) dX4_findError_2 rfl ?_
  exact lp_X4_findError_5 cy a th sm ln pt sg fi se n o h t s g kn lo lf nm sv sl ik bf co go fo hb hln X hR C E _ 0 sg fi se (Nat.lt_succ_self _) (Nat.zero_le _) (fun f hf => mFE_fuel f (ln + 1) 0 (Nat.zero_le _) hf (Nat.le_refl _))
abbrev rm_X4_firstError : Room := { frames := 5, cells := 0, slots := 0, locals := 107 }
theorem in4_X4_firstError : ∀ w ∈ wsX40, w ∈ wsX4_firstError := fun _ h => (List.mem_cons_of_mem _ (List.mem_append_right _ h))
set_option maxHeartbeats 4000000 in
set_option maxRecDepth 100000 in
theorem c_X4_firstError (cy : Nat → ClassId) (a : Nat → Nat) (th : Int32) (sm : Nat) (ln : Nat) (pt : Nat) (sg : Nat) (fi : Int32) (se : Int32) (n : Nat) (o : Nat → Int32) (h : Nat → Int32) (t : Nat → Int32) (s : Nat → Int32) (g : Nat → Int32) (kn : Nat) (lo : Int32) (lf : Int32) (nm : Nat → Int32) (sv : Nat → Int32) (sl : Nat → Int32) (ik : Nat → Int32) (bf : Nat → Nat) (co : Nat → Int32) (go : Nat → Int32) (fo : Nat → Int32)  (hb : ∀ i, bf i ≤ 126) (hln : ln ≤ 60) : kIx yX4_firstError wsX4_firstError rm_X4_firstError cy [.ref (a 0)] (wM a cy th sm ln pt sg fi se (mSt n o h t s g kn lo lf nm) sv sl ik bf co go fo) (nI (mFI (mFE bf ln (ln + 1) 0) ln)) (fun (u : Nat × Nat × Int32 × Int32) => (wM a cy 0 sm ln u.1 u.2.1 u.2.2.1 u.2.2.2 (mSt n o h t s g kn lo lf nm) sv sl ik bf co go fo)) (fun (u : Nat × Nat × Int32 × Int32) => True) := by
  refine kIx_of (cc := cX4_firstError) (maxL := 2) (rt := .int) (by decide) rfl (rfl) (Nat.le_of_ble_eq_true rfl) ?_
  intro X hR C E
  have C : kC X 2 RX4 cX4_firstError wsX4_firstError cy := C
  refine k_fr (fr2 := [(0, .ref (a 0))]) ⟨[0], rfl⟩ ?_
  have hfe : ∀ q, mFE bf ln (ln + 1) 0 = some q → q < 1000 := fun q e => by have := mFE_le _ _ _ (Nat.zero_le _) e; omega
  refine k_aload_n (q := 1) C 0 dX4_firstError_0 rfl rfl ?_
  refine k_iconst (q := 2) (v := 0) C dX4_firstError_1 (by decide) rfl ?_
  refine k_put (q := 5) (ci := 4) (v := .int 0) (w2 := (wM a cy 0 sm ln pt sg fi se (mSt n o h t s g kn lo lf nm) sv sl ik bf co go fo)) C 0 0 in4_X4_firstError rfl (List.mem_of_getElem? (i := 1) rfl) rfl tyX4 tyX4_ok nmX4 rfl (rfl) (rfl) rfl (by decide) (Nat.le_of_ble_eq_true rfl) (rfl) dX4_firstError_2 rfl ?_
  refine k_aload_n (q := 6) C 0 dX4_firstError_5 rfl rfl ?_
  refine k_callVIx (n := 0) (q := 9) (pre := ([] : va_W)) (post := ([] : va_W)) (w2 := (fun u => (wM a cy 0 sm ln (u.1) (u.2.1) (u.2.2.1) (u.2.2.2) (mSt n o h t s g kn lo lf nm) sv sl ik bf co go fo))) (As := []) (rest := []) C (c_X4_findError cy a 0 sm ln pt sg fi se n o h t s g kn lo lf nm sv sl ik bf co go fo hb hln) gX4_firstError_X4_findError rfl rfl rfl (by decide +kernel) (k_room hR (by decide)) ⟨Nat.zero_le _, Nat.zero_le _⟩ (ci := 4) rfl 0 rfl rfl rfl (Nat.le_of_ble_eq_true rfl) ((List.append_nil _).symm) (fun u => List.append_nil _) dX4_firstError_6 rfl ?_
  rintro ⟨pt_6, sg_6, fi_6, se_6⟩ h_6
  try dsimp only at h_6
  refine k_istore_n (q := 10) (fr2 := [(1, .int (mFEv (mFE bf ln (ln + 1) 0))), (0, .ref (a 0))]) C dX4_firstError_9 (by decide) rfl rfl ?_
  refine k_iload_n (q := 11) C 0 dX4_firstError_10 rfl rfl ?_
  refine k_iconst (q := 12) (v := -1) C dX4_firstError_11 (by decide) rfl ?_
  refine k_icmp_ne (tgt := 22) (q := 15) C dX4_firstError_12 (by decide) rfl ?_ ?_
  · intro c_12
    refine k_iload_n (q := 23) C 0 dX4_firstError_22 rfl rfl ?_
    exact k_finx E (pt_6, sg_6, fi_6, se_6) dX4_firstError_23 (by first | (rw [(mFEv_none hfe).mp c_12]; rfl) | exact mFI_s (fun e => c_12 ((mFEv_none hfe).mpr e))) (rfl) (trivial)
  · intro c_12
    refine k_aload_n (q := 16) C 1 dX4_firstError_15 rfl rfl ?_
    refine k_get (q := 19) (ci := 4) (v := .int (nI ln)) C 0 7 in4_X4_firstError rfl (List.mem_of_getElem? (i := 2) rfl) rfl rfl (by decide) rfl dX4_firstError_16 rfl ?_
    refine k_goto (q := 23) C dX4_firstError_19 (by decide) ?_
    exact k_finx E (pt_6, sg_6, fi_6, se_6) dX4_firstError_23 (by first | (rw [(mFEv_none hfe).mp c_12]; rfl) | exact mFI_s (fun e => c_12 ((mFEv_none hfe).mpr e))) (rfl) (trivial)
abbrev rm_X4_doesOrder : Room := { frames := 7, cells := 0, slots := 0, locals := 154 }
theorem in4_X4_doesOrder : ∀ w ∈ wsX40, w ∈ wsX4_doesOrder := fun _ h => (List.mem_cons_of_mem _ (List.mem_append_right _ h))
set_option maxHeartbeats 4000000 in
set_option maxRecDepth 100000 in
theorem c_X4_doesOrder_c1 (cy : Nat → ClassId) (a : Nat → Nat) (th : Int32) (sm : Nat) (ln : Nat) (pt : Nat) (fi : Int32) (se : Int32) (n : Nat) (o : Nat → Int32) (h : Nat → Int32) (t : Nat → Int32) (s : Nat → Int32) (g : Nat → Int32) (kn : Nat) (lo : Int32) (lf : Int32) (nm : Nat → Int32) (sv : Nat → Int32) (sl : Nat → Int32) (ik : Nat → Int32) (bf : Nat → Nat) (co : Nat → Int32) (go : Nat → Int32) (fo : Nat → Int32)  (hn : n < 6) (hw : mWhy n h fi se = 0) : kIx yX4_doesOrder wsX4_doesOrder rm_X4_doesOrder cy [.ref (a 0)] (wM a cy th sm ln pt 99 fi se (mSt n o h t s g kn lo lf nm) sv sl ik bf co go fo) (bI (true = true)) (fun (u : (Nat → Int32) × (Nat → Int32) × (Nat → Int32)) => (wM a cy th sm ln pt 99 fi se (mSt (n + 1) o (sIns h n (sPos h fi n) fi) (sIns t n (sPos h fi n) se) s g kn lo lf nm) sv sl ik bf u.1 u.2.1 u.2.2)) (fun (u : (Nat → Int32) × (Nat → Int32) × (Nat → Int32)) => True) := by
  refine kIx_of (cc := cX4_doesOrder) (maxL := 1) (rt := .boolean) (by decide) rfl (kb_nar _) (Nat.le_of_ble_eq_true rfl) ?_
  intro X hR C E
  have C : kC X 1 RX4 cX4_doesOrder wsX4_doesOrder cy := C
  refine k_fr (fr2 := [(0, .ref (a 0))]) ⟨[0], rfl⟩ ?_
  refine k_aload_n (q := 1) C 0 dX4_doesOrder_0 rfl rfl ?_
  refine k_get (q := 4) (ci := 4) (v := .int (nI 99)) C 0 9 in4_X4_doesOrder rfl (List.mem_of_getElem? (i := 1) rfl) rfl rfl (by decide) rfl dX4_doesOrder_1 rfl ?_
  refine k_lookup (q := 40) (off := 36) C dX4_doesOrder_4 (by decide +kernel) (by decide +kernel) (by decide) ?_
  refine k_aload_n (q := 41) C 0 dX4_doesOrder_40 rfl rfl ?_
  refine k_aload_n (q := 42) C 0 dX4_doesOrder_41 rfl rfl ?_
  refine k_get (q := 45) (ci := 4) (v := .int fi) C 0 10 in4_X4_doesOrder rfl (List.mem_of_getElem? (i := 2) rfl) rfl rfl (by decide) rfl dX4_doesOrder_42 rfl ?_
  refine k_aload_n (q := 46) C 0 dX4_doesOrder_45 rfl rfl ?_
  refine k_get (q := 49) (ci := 4) (v := .int se) C 0 11 in4_X4_doesOrder rfl (List.mem_of_getElem? (i := 3) rfl) rfl rfl (by decide) rfl dX4_doesOrder_46 rfl ?_
  refine k_callVI (n := 2) (q := 52) (pre := ([] : va_W)) (post := ([] : va_W)) (w2 := (wM a cy th sm ln pt 99 fi se (mSt n o h t s g kn lo lf nm) sv sl ik bf co go fo)) (As := [.int fi, .int se]) (rest := []) C (c_X4_whyNotLayer cy a th sm ln pt 99 fi se n o h t s g kn lo lf nm sv sl ik bf co go fo fi se (by omega)) gX4_doesOrder_X4_whyNotLayer rfl rfl rfl (by decide +kernel) (k_room hR (by decide)) ⟨Nat.zero_le _, Nat.zero_le _⟩ (ci := 4) rfl 0 rfl rfl rfl (Nat.le_of_ble_eq_true rfl) ((List.append_nil _).symm) (List.append_nil _) dX4_doesOrder_49 rfl ?_
  refine k_if_ne (tgt := 74) (q := 55) C dX4_doesOrder_52 (by decide) rfl ?_ ?_
  · exact fun c_52 => absurd hw c_52
  · intro c_52
    refine k_aload_n (q := 56) C 0 dX4_doesOrder_55 rfl rfl ?_
    refine k_aload_n (q := 57) C 0 dX4_doesOrder_56 rfl rfl ?_
    refine k_get (q := 60) (ci := 4) (v := .int fi) C 0 10 in4_X4_doesOrder rfl (List.mem_of_getElem? (i := 2) rfl) rfl rfl (by decide) rfl dX4_doesOrder_57 rfl ?_
    refine k_aload_n (q := 61) C 0 dX4_doesOrder_60 rfl rfl ?_
    refine k_get (q := 64) (ci := 4) (v := .int se) C 0 11 in4_X4_doesOrder rfl (List.mem_of_getElem? (i := 3) rfl) rfl rfl (by decide) rfl dX4_doesOrder_61 rfl ?_
    refine k_callVI (n := 2) (q := 67) (pre := ([] : va_W)) (post := ([] : va_W)) (w2 := (wM a cy th sm ln pt 99 fi se (mSt (n + 1) o (sIns h n (sPos h fi n) fi) (sIns t n (sPos h fi n) se) s g kn lo lf nm) sv sl ik bf co go fo)) (As := [.int fi, .int se]) (rest := []) C (c_X4_addLayer cy a th sm ln pt 99 fi se n o h t s g kn lo lf nm sv sl ik bf co go fo fi se (by omega)) gX4_doesOrder_X4_addLayer rfl rfl rfl (by decide +kernel) (k_room hR (by decide)) ⟨Nat.zero_le _, Nat.zero_le _⟩ (ci := 4) rfl 0 rfl rfl rfl (Nat.le_of_ble_eq_true rfl) ((List.append_nil _).symm) (List.append_nil _) dX4_doesOrder_64 rfl ?_
    refine k_if_lt (tgt := 74) (q := 70) C dX4_doesOrder_67 (by decide) rfl ?_ ?_
    · exact fun c_67 => absurd c_67 (nI_pos (by have := sPos_le h fi n; omega))
    · intro c_67
      refine k_iconst (q := 71) (v := 1) C dX4_doesOrder_70 (by decide) rfl ?_
      refine k_goto (q := 75) C dX4_doesOrder_71 (by decide) ?_
      exact k_finx E (co, go, fo) dX4_doesOrder_75 (rfl) (rfl) (trivial)
set_option maxHeartbeats 4000000 in
set_option maxRecDepth 100000 in
theorem c_X4_doesOrder_c0 (cy : Nat → ClassId) (a : Nat → Nat) (th : Int32) (sm : Nat) (ln : Nat) (pt : Nat) (fi : Int32) (se : Int32) (n : Nat) (o : Nat → Int32) (h : Nat → Int32) (t : Nat → Int32) (s : Nat → Int32) (g : Nat → Int32) (kn : Nat) (lo : Int32) (lf : Int32) (nm : Nat → Int32) (sv : Nat → Int32) (sl : Nat → Int32) (ik : Nat → Int32) (bf : Nat → Nat) (co : Nat → Int32) (go : Nat → Int32) (fo : Nat → Int32)  (hn : n ≤ 6) (hw : ¬ mWhy n h fi se = 0) : kIx yX4_doesOrder wsX4_doesOrder rm_X4_doesOrder cy [.ref (a 0)] (wM a cy th sm ln pt 99 fi se (mSt n o h t s g kn lo lf nm) sv sl ik bf co go fo) (bI (false = true)) (fun (u : (Nat → Int32) × (Nat → Int32) × (Nat → Int32)) => (wM a cy th sm ln pt 99 fi se (mSt n o h t s g kn lo lf nm) sv sl ik bf u.1 u.2.1 u.2.2)) (fun (u : (Nat → Int32) × (Nat → Int32) × (Nat → Int32)) => True) := by
  refine kIx_of (cc := cX4_doesOrder) (maxL := 1) (rt := .boolean) (by decide) rfl (kb_nar _) (Nat.le_of_ble_eq_true rfl) ?_
  intro X hR C E
  have C : kC X 1 RX4 cX4_doesOrder wsX4_doesOrder cy := C
  refine k_fr (fr2 := [(0, .ref (a 0))]) ⟨[0], rfl⟩ ?_
  refine k_aload_n (q := 1) C 0 dX4_doesOrder_0 rfl rfl ?_
  refine k_get (q := 4) (ci := 4) (v := .int (nI 99)) C 0 9 in4_X4_doesOrder rfl (List.mem_of_getElem? (i := 1) rfl) rfl rfl (by decide) rfl dX4_doesOrder_1 rfl ?_
  refine k_lookup (q := 40) (off := 36) C dX4_doesOrder_4 (by decide +kernel) (by decide +kernel) (by decide) ?_
  refine k_aload_n (q := 41) C 0 dX4_doesOrder_40 rfl rfl ?_
  refine k_aload_n (q := 42) C 0 dX4_doesOrder_41 rfl rfl ?_
  refine k_get (q := 45) (ci := 4) (v := .int fi) C 0 10 in4_X4_doesOrder rfl (List.mem_of_getElem? (i := 2) rfl) rfl rfl (by decide) rfl dX4_doesOrder_42 rfl ?_
  refine k_aload_n (q := 46) C 0 dX4_doesOrder_45 rfl rfl ?_
  refine k_get (q := 49) (ci := 4) (v := .int se) C 0 11 in4_X4_doesOrder rfl (List.mem_of_getElem? (i := 3) rfl) rfl rfl (by decide) rfl dX4_doesOrder_46 rfl ?_
  refine k_callVI (n := 2) (q := 52) (pre := ([] : va_W)) (post := ([] : va_W)) (w2 := (wM a cy th sm ln pt 99 fi se (mSt n o h t s g kn lo lf nm) sv sl ik bf co go fo)) (As := [.int fi, .int se]) (rest := []) C (c_X4_whyNotLayer cy a th sm ln pt 99 fi se n o h t s g kn lo lf nm sv sl ik bf co go fo fi se (by omega)) gX4_doesOrder_X4_whyNotLayer rfl rfl rfl (by decide +kernel) (k_room hR (by decide)) ⟨Nat.zero_le _, Nat.zero_le _⟩ (ci := 4) rfl 0 rfl rfl rfl (Nat.le_of_ble_eq_true rfl) ((List.append_nil _).symm) (List.append_nil _) dX4_doesOrder_49 rfl ?_
  refine k_if_ne (tgt := 74) (q := 55) C dX4_doesOrder_52 (by decide) rfl ?_ ?_
  · intro c_52
    refine k_iconst (q := 75) (v := 0) C dX4_doesOrder_74 (by decide) rfl ?_
    exact k_finx E (co, go, fo) dX4_doesOrder_75 (rfl) (rfl) (trivial)
  · exact fun c_52 => absurd c_52 hw
set_option maxHeartbeats 4000000 in
set_option maxRecDepth 100000 in
theorem c_X4_doesOrder_x1 (cy : Nat → ClassId) (a : Nat → Nat) (th : Int32) (sm : Nat) (ln : Nat) (pt : Nat) (se : Int32) (n : Nat) (o : Nat → Int32) (h : Nat → Int32) (t : Nat → Int32) (s : Nat → Int32) (g : Nat → Int32) (kn : Nat) (lo : Int32) (lf : Int32) (nm : Nat → Int32) (sv : Nat → Int32) (sl : Nat → Int32) (ik : Nat → Int32) (bf : Nat → Nat) (co : Nat → Int32) (go : Nat → Int32) (fo : Nat → Int32) (p : Nat)  (hn : n ≤ 6) (hp : p < n) (hh : 0 < h p) : kIx yX4_doesOrder wsX4_doesOrder rm_X4_doesOrder cy [.ref (a 0)] (wM a cy th sm ln pt 120 (nI p) se (mSt n o h t s g kn lo lf nm) sv sl ik bf co go fo) (bI (true = true)) (fun (u : (Nat → Int32) × (Nat → Int32) × (Nat → Int32)) => (wM a cy th sm ln pt 120 (nI p) se (mSt (n - 1) o (sDn h p n) (sDn t p n) s g kn lo lf nm) sv sl ik bf u.1 u.2.1 u.2.2)) (fun (u : (Nat → Int32) × (Nat → Int32) × (Nat → Int32)) => True) := by
  refine kIx_of (cc := cX4_doesOrder) (maxL := 1) (rt := .boolean) (by decide) rfl (kb_nar _) (Nat.le_of_ble_eq_true rfl) ?_
  intro X hR C E
  have C : kC X 1 RX4 cX4_doesOrder wsX4_doesOrder cy := C
  refine k_fr (fr2 := [(0, .ref (a 0))]) ⟨[0], rfl⟩ ?_
  refine k_aload_n (q := 1) C 0 dX4_doesOrder_0 rfl rfl ?_
  refine k_get (q := 4) (ci := 4) (v := .int (nI 120)) C 0 9 in4_X4_doesOrder rfl (List.mem_of_getElem? (i := 1) rfl) rfl rfl (by decide) rfl dX4_doesOrder_1 rfl ?_
  refine k_lookup (q := 76) (off := 72) C dX4_doesOrder_4 (by decide +kernel) (by decide +kernel) (by decide) ?_
  refine k_aload_n (q := 77) C 0 dX4_doesOrder_76 rfl rfl ?_
  refine k_aload_n (q := 78) C 0 dX4_doesOrder_77 rfl rfl ?_
  refine k_get (q := 81) (ci := 4) (v := .int (nI p)) C 0 10 in4_X4_doesOrder rfl (List.mem_of_getElem? (i := 2) rfl) rfl rfl (by decide) rfl dX4_doesOrder_78 rfl ?_
  refine k_callVI (n := 1) (q := 84) (pre := ([] : va_W)) (post := ([] : va_W)) (w2 := (wM a cy th sm ln pt 120 (nI p) se (mSt n o h t s g kn lo lf nm) sv sl ik bf co go fo)) (As := [.int (nI p)]) (rest := []) C (c_X4_isLayer cy a th sm ln pt 120 (nI p) se n o h t s g kn lo lf nm sv sl ik bf co go fo (nI p) (by omega)) gX4_doesOrder_X4_isLayer rfl rfl rfl (by decide +kernel) (k_room hR (by decide)) ⟨Nat.zero_le _, Nat.zero_le _⟩ (ci := 4) rfl 0 rfl rfl rfl (Nat.le_of_ble_eq_true rfl) ((List.append_nil _).symm) (List.append_nil _) dX4_doesOrder_81 rfl ?_
  refine k_ifB_eq (tgt := 102) (q := 87) C dX4_doesOrder_84 (by decide) rfl ?_ ?_
  · exact fun c_84 => absurd ⟨nI_pos' (by omega), nI_lt (by omega) (by omega)⟩ c_84
  · intro c_84
    refine k_aload_n (q := 88) C 0 dX4_doesOrder_87 rfl rfl ?_
    refine k_aload_n (q := 89) C 0 dX4_doesOrder_88 rfl rfl ?_
    refine k_get (q := 92) (ci := 4) (v := .int (nI p)) C 0 10 in4_X4_doesOrder rfl (List.mem_of_getElem? (i := 2) rfl) rfl rfl (by decide) rfl dX4_doesOrder_89 rfl ?_
    refine k_callVI (n := 1) (q := 95) (pre := ([] : va_W)) (post := ([] : va_W)) (w2 := (wM a cy th sm ln pt 120 (nI p) se (mSt (n - 1) o (sDn h p n) (sDn t p n) s g kn lo lf nm) sv sl ik bf co go fo)) (As := [.int (nI p)]) (rest := []) C (c_X4_dropLayer cy a th sm ln pt 120 (nI p) se n o h t s g kn lo lf nm sv sl ik bf co go fo p (by omega) (by omega)) gX4_doesOrder_X4_dropLayer rfl rfl rfl (by decide +kernel) (k_room hR (by decide)) ⟨Nat.zero_le _, Nat.zero_le _⟩ (ci := 4) rfl 0 rfl rfl rfl (Nat.le_of_ble_eq_true rfl) ((List.append_nil _).symm) (List.append_nil _) dX4_doesOrder_92 rfl ?_
    refine k_if_le (tgt := 102) (q := 98) C dX4_doesOrder_95 (by decide) rfl ?_ ?_
    · exact fun c_95 => absurd hh (Int32.not_lt.mpr c_95)
    · intro c_95
      refine k_iconst (q := 99) (v := 1) C dX4_doesOrder_98 (by decide) rfl ?_
      refine k_goto (q := 103) C dX4_doesOrder_99 (by decide) ?_
      exact k_finx E (co, go, fo) dX4_doesOrder_103 (rfl) (rfl) (trivial)
set_option maxHeartbeats 4000000 in
set_option maxRecDepth 100000 in
theorem c_X4_doesOrder_x0 (cy : Nat → ClassId) (a : Nat → Nat) (th : Int32) (sm : Nat) (ln : Nat) (pt : Nat) (fi : Int32) (se : Int32) (n : Nat) (o : Nat → Int32) (h : Nat → Int32) (t : Nat → Int32) (s : Nat → Int32) (g : Nat → Int32) (kn : Nat) (lo : Int32) (lf : Int32) (nm : Nat → Int32) (sv : Nat → Int32) (sl : Nat → Int32) (ik : Nat → Int32) (bf : Nat → Nat) (co : Nat → Int32) (go : Nat → Int32) (fo : Nat → Int32)  (hn : n ≤ 6) (hx : ¬ (0 ≤ fi ∧ fi < nI n)) : kIx yX4_doesOrder wsX4_doesOrder rm_X4_doesOrder cy [.ref (a 0)] (wM a cy th sm ln pt 120 fi se (mSt n o h t s g kn lo lf nm) sv sl ik bf co go fo) (bI (false = true)) (fun (u : (Nat → Int32) × (Nat → Int32) × (Nat → Int32)) => (wM a cy th sm ln pt 120 fi se (mSt n o h t s g kn lo lf nm) sv sl ik bf u.1 u.2.1 u.2.2)) (fun (u : (Nat → Int32) × (Nat → Int32) × (Nat → Int32)) => True) := by
  refine kIx_of (cc := cX4_doesOrder) (maxL := 1) (rt := .boolean) (by decide) rfl (kb_nar _) (Nat.le_of_ble_eq_true rfl) ?_
  intro X hR C E
  have C : kC X 1 RX4 cX4_doesOrder wsX4_doesOrder cy := C
  refine k_fr (fr2 := [(0, .ref (a 0))]) ⟨[0], rfl⟩ ?_
  refine k_aload_n (q := 1) C 0 dX4_doesOrder_0 rfl rfl ?_
  refine k_get (q := 4) (ci := 4) (v := .int (nI 120)) C 0 9 in4_X4_doesOrder rfl (List.mem_of_getElem? (i := 1) rfl) rfl rfl (by decide) rfl dX4_doesOrder_1 rfl ?_
  refine k_lookup (q := 76) (off := 72) C dX4_doesOrder_4 (by decide +kernel) (by decide +kernel) (by decide) ?_
  refine k_aload_n (q := 77) C 0 dX4_doesOrder_76 rfl rfl ?_
  refine k_aload_n (q := 78) C 0 dX4_doesOrder_77 rfl rfl ?_
  refine k_get (q := 81) (ci := 4) (v := .int fi) C 0 10 in4_X4_doesOrder rfl (List.mem_of_getElem? (i := 2) rfl) rfl rfl (by decide) rfl dX4_doesOrder_78 rfl ?_
  refine k_callVI (n := 1) (q := 84) (pre := ([] : va_W)) (post := ([] : va_W)) (w2 := (wM a cy th sm ln pt 120 fi se (mSt n o h t s g kn lo lf nm) sv sl ik bf co go fo)) (As := [.int fi]) (rest := []) C (c_X4_isLayer cy a th sm ln pt 120 fi se n o h t s g kn lo lf nm sv sl ik bf co go fo fi (by omega)) gX4_doesOrder_X4_isLayer rfl rfl rfl (by decide +kernel) (k_room hR (by decide)) ⟨Nat.zero_le _, Nat.zero_le _⟩ (ci := 4) rfl 0 rfl rfl rfl (Nat.le_of_ble_eq_true rfl) ((List.append_nil _).symm) (List.append_nil _) dX4_doesOrder_81 rfl ?_
  refine k_ifB_eq (tgt := 102) (q := 87) C dX4_doesOrder_84 (by decide) rfl ?_ ?_
  · intro c_84
    refine k_iconst (q := 103) (v := 0) C dX4_doesOrder_102 (by decide) rfl ?_
    exact k_finx E (co, go, fo) dX4_doesOrder_103 (rfl) (rfl) (trivial)
  · exact fun c_84 => absurd c_84 hx
set_option maxHeartbeats 4000000 in
set_option maxRecDepth 100000 in
theorem c_X4_doesOrder_n (cy : Nat → ClassId) (a : Nat → Nat) (th : Int32) (sm : Nat) (ln : Nat) (pt : Nat) (fi : Int32) (se : Int32) (n : Nat) (o : Nat → Int32) (h : Nat → Int32) (t : Nat → Int32) (s : Nat → Int32) (g : Nat → Int32) (kn : Nat) (lo : Int32) (lf : Int32) (nm : Nat → Int32) (sv : Nat → Int32) (sl : Nat → Int32) (ik : Nat → Int32) (bf : Nat → Nat) (co : Nat → Int32) (go : Nat → Int32) (fo : Nat → Int32)  (hn : n ≤ 6) (ho : mBin o) (h0 : sOk (s 0)) (h1 : sOk (s 1)) (hkn : kn ≤ 8) : kIx yX4_doesOrder wsX4_doesOrder rm_X4_doesOrder cy [.ref (a 0)] (wM a cy th sm ln pt 110 fi se (mSt n o h t s g kn lo lf nm) sv sl ik bf co go fo) (bI (true = true)) (fun (u : (Nat → Int32) × (Nat → Int32) × (Nat → Int32)) => (wM a cy th sm ln pt 110 fi se (mSt n o h t s g (min (kn + 1) 8) (lo + 1) (lf + bI ((mLg h n (sMeet g (s 0) (s 1)) (mC (sClose (mLit o) h t s g) (mD h s g) n)).2.2.2 = true)) (sWrL nm (mLg h n (sMeet g (s 0) (s 1)) (mC (sClose (mLit o) h t s g) (mD h s g) n)))) sv sl ik bf u.1 u.2.1 u.2.2)) (fun (u : (Nat → Int32) × (Nat → Int32) × (Nat → Int32)) => True) := by
  refine kIx_of (cc := cX4_doesOrder) (maxL := 1) (rt := .boolean) (by decide) rfl (kb_nar _) (Nat.le_of_ble_eq_true rfl) ?_
  intro X hR C E
  have C : kC X 1 RX4 cX4_doesOrder wsX4_doesOrder cy := C
  refine k_fr (fr2 := [(0, .ref (a 0))]) ⟨[0], rfl⟩ ?_
  refine k_aload_n (q := 1) C 0 dX4_doesOrder_0 rfl rfl ?_
  refine k_get (q := 4) (ci := 4) (v := .int (nI 110)) C 0 9 in4_X4_doesOrder rfl (List.mem_of_getElem? (i := 1) rfl) rfl rfl (by decide) rfl dX4_doesOrder_1 rfl ?_
  refine k_lookup (q := 104) (off := 100) C dX4_doesOrder_4 (by decide +kernel) (by decide +kernel) (by decide) ?_
  refine k_aload_n (q := 105) C 0 dX4_doesOrder_104 rfl rfl ?_
  refine k_callVIx (n := 0) (q := 108) (pre := ([] : va_W)) (post := ([] : va_W)) (w2 := (fun u => (wM a cy th sm ln pt 110 fi se (mSt n o h t s g (min (kn + 1) 8) (lo + 1) (lf + bI ((mLg h n (sMeet g (s 0) (s 1)) (mC (sClose (mLit o) h t s g) (mD h s g) n)).2.2.2 = true)) (sWrL nm (mLg h n (sMeet g (s 0) (s 1)) (mC (sClose (mLit o) h t s g) (mD h s g) n)))) sv sl ik bf (u.1) (u.2.1) (u.2.2)))) (As := []) (rest := []) C (c_X4_logNow cy a th sm ln pt 110 fi se n o h t s g kn lo lf nm sv sl ik bf co go fo hn ho h0 h1 hkn) gX4_doesOrder_X4_logNow rfl rfl rfl (by decide +kernel) (k_room hR (by decide)) ⟨Nat.zero_le _, Nat.zero_le _⟩ (ci := 4) rfl 0 rfl rfl rfl (Nat.le_of_ble_eq_true rfl) ((List.append_nil _).symm) (fun u => List.append_nil _) dX4_doesOrder_105 rfl ?_
  rintro ⟨co_105, go_105, fo_105⟩ h_105
  try dsimp only at h_105
  refine k_nif_le (a := min (kn + 1) 8)  (tgt := 115) (q := 111) C dX4_doesOrder_108 (by decide) rfl (by omega) ?_ ?_
  · exact fun c_108 => absurd c_108 (by omega)
  · intro c_108
    refine k_iconst (q := 112) (v := 1) C dX4_doesOrder_111 (by decide) rfl ?_
    refine k_goto (q := 116) C dX4_doesOrder_112 (by decide) ?_
    exact k_finx E (co_105, go_105, fo_105) dX4_doesOrder_116 (rfl) (rfl) (trivial)
set_option maxHeartbeats 4000000 in
set_option maxRecDepth 100000 in
theorem c_X4_doesOrder_a0 (cy : Nat → ClassId) (a : Nat → Nat) (th : Int32) (sm : Nat) (ln : Nat) (pt : Nat) (fi : Int32) (se : Int32) (n : Nat) (o : Nat → Int32) (h : Nat → Int32) (t : Nat → Int32) (s : Nat → Int32) (g : Nat → Int32) (kn : Nat) (lo : Int32) (lf : Int32) (nm : Nat → Int32) (sv : Nat → Int32) (sl : Nat → Int32) (ik : Nat → Int32) (bf : Nat → Nat) (co : Nat → Int32) (go : Nat → Int32) (fo : Nat → Int32)  (hs : sOk (s 0)) : kIx yX4_doesOrder wsX4_doesOrder rm_X4_doesOrder cy [.ref (a 0)] (wM a cy th sm ln pt 97 fi se (mSt n o h t s g kn lo lf nm) sv sl ik bf co go fo) (bI (true = true)) (fun (u : (Nat → Int32) × (Nat → Int32) × (Nat → Int32)) => (wM a cy th sm ln pt 97 fi se (mSt n o h t (upd s 0 fi) g kn lo lf nm) sv sl ik bf u.1 u.2.1 u.2.2)) (fun (u : (Nat → Int32) × (Nat → Int32) × (Nat → Int32)) => True) := by
  refine kIx_of (cc := cX4_doesOrder) (maxL := 1) (rt := .boolean) (by decide) rfl (kb_nar _) (Nat.le_of_ble_eq_true rfl) ?_
  intro X hR C E
  have C : kC X 1 RX4 cX4_doesOrder wsX4_doesOrder cy := C
  refine k_fr (fr2 := [(0, .ref (a 0))]) ⟨[0], rfl⟩ ?_
  refine k_aload_n (q := 1) C 0 dX4_doesOrder_0 rfl rfl ?_
  refine k_get (q := 4) (ci := 4) (v := .int (nI 97)) C 0 9 in4_X4_doesOrder rfl (List.mem_of_getElem? (i := 1) rfl) rfl rfl (by decide) rfl dX4_doesOrder_1 rfl ?_
  refine k_lookup (q := 117) (off := 113) C dX4_doesOrder_4 (by decide +kernel) (by decide +kernel) (by decide) ?_
  refine k_aload_n (q := 118) C 0 dX4_doesOrder_117 rfl rfl ?_
  refine k_aload_n (q := 119) C 0 dX4_doesOrder_118 rfl rfl ?_
  refine k_get (q := 122) (ci := 4) (v := .int (nI 97)) C 0 9 in4_X4_doesOrder rfl (List.mem_of_getElem? (i := 1) rfl) rfl rfl (by decide) rfl dX4_doesOrder_119 rfl ?_
  refine k_bipush (q := 124) (v := 97) C dX4_doesOrder_122 (by decide +kernel) rfl ?_
  refine k_isub (q := 125) C dX4_doesOrder_124 rfl ?_
  refine k_st (st2 := (.int 0 :: _)) (congrArg (fun z => Value.int z :: _) (show (nI 97) - 97 = 0 from by decide)) ?_
  refine k_aload_n (q := 126) C 0 dX4_doesOrder_125 rfl rfl ?_
  refine k_get (q := 129) (ci := 4) (v := .int fi) C 0 10 in4_X4_doesOrder rfl (List.mem_of_getElem? (i := 2) rfl) rfl rfl (by decide) rfl dX4_doesOrder_126 rfl ?_
  refine k_callVI (n := 2) (q := 132) (pre := ([] : va_W)) (post := ([] : va_W)) (w2 := (wM a cy th sm ln pt 97 fi se (mSt n o h t (upd s 0 fi) g kn lo lf nm) sv sl ik bf co go fo)) (As := [.int 0, .int fi]) (rest := []) C (c_X4_turnTo cy a th sm ln pt 97 fi se n o h t s g kn lo lf nm sv sl ik bf co go fo 0 fi (by omega)) gX4_doesOrder_X4_turnTo rfl rfl rfl (by decide +kernel) (k_room hR (by decide)) ⟨Nat.zero_le _, Nat.zero_le _⟩ (ci := 4) rfl 0 rfl rfl rfl (Nat.le_of_ble_eq_true rfl) ((List.append_nil _).symm) (List.append_nil _) dX4_doesOrder_129 rfl ?_
  refine k_bipush (q := 134) (v := -30) C dX4_doesOrder_132 (by decide +kernel) rfl ?_
  refine k_icmp_lt (tgt := 141) (q := 137) C dX4_doesOrder_134 (by decide) rfl ?_ ?_
  · exact fun c_134 => absurd c_134 (sOk_lt hs)
  · intro c_134
    refine k_iconst (q := 138) (v := 1) C dX4_doesOrder_137 (by decide) rfl ?_
    refine k_goto (q := 142) C dX4_doesOrder_138 (by decide) ?_
    exact k_finx E (co, go, fo) dX4_doesOrder_142 (rfl) (rfl) (trivial)
set_option maxHeartbeats 4000000 in
set_option maxRecDepth 100000 in
theorem c_X4_doesOrder_a1 (cy : Nat → ClassId) (a : Nat → Nat) (th : Int32) (sm : Nat) (ln : Nat) (pt : Nat) (fi : Int32) (se : Int32) (n : Nat) (o : Nat → Int32) (h : Nat → Int32) (t : Nat → Int32) (s : Nat → Int32) (g : Nat → Int32) (kn : Nat) (lo : Int32) (lf : Int32) (nm : Nat → Int32) (sv : Nat → Int32) (sl : Nat → Int32) (ik : Nat → Int32) (bf : Nat → Nat) (co : Nat → Int32) (go : Nat → Int32) (fo : Nat → Int32)  (hs : sOk (s 1)) : kIx yX4_doesOrder wsX4_doesOrder rm_X4_doesOrder cy [.ref (a 0)] (wM a cy th sm ln pt 98 fi se (mSt n o h t s g kn lo lf nm) sv sl ik bf co go fo) (bI (true = true)) (fun (u : (Nat → Int32) × (Nat → Int32) × (Nat → Int32)) => (wM a cy th sm ln pt 98 fi se (mSt n o h t (upd s 1 fi) g kn lo lf nm) sv sl ik bf u.1 u.2.1 u.2.2)) (fun (u : (Nat → Int32) × (Nat → Int32) × (Nat → Int32)) => True) := by
  refine kIx_of (cc := cX4_doesOrder) (maxL := 1) (rt := .boolean) (by decide) rfl (kb_nar _) (Nat.le_of_ble_eq_true rfl) ?_
  intro X hR C E
  have C : kC X 1 RX4 cX4_doesOrder wsX4_doesOrder cy := C
  refine k_fr (fr2 := [(0, .ref (a 0))]) ⟨[0], rfl⟩ ?_
  refine k_aload_n (q := 1) C 0 dX4_doesOrder_0 rfl rfl ?_
  refine k_get (q := 4) (ci := 4) (v := .int (nI 98)) C 0 9 in4_X4_doesOrder rfl (List.mem_of_getElem? (i := 1) rfl) rfl rfl (by decide) rfl dX4_doesOrder_1 rfl ?_
  refine k_lookup (q := 117) (off := 113) C dX4_doesOrder_4 (by decide +kernel) (by decide +kernel) (by decide) ?_
  refine k_aload_n (q := 118) C 0 dX4_doesOrder_117 rfl rfl ?_
  refine k_aload_n (q := 119) C 0 dX4_doesOrder_118 rfl rfl ?_
  refine k_get (q := 122) (ci := 4) (v := .int (nI 98)) C 0 9 in4_X4_doesOrder rfl (List.mem_of_getElem? (i := 1) rfl) rfl rfl (by decide) rfl dX4_doesOrder_119 rfl ?_
  refine k_bipush (q := 124) (v := 97) C dX4_doesOrder_122 (by decide +kernel) rfl ?_
  refine k_isub (q := 125) C dX4_doesOrder_124 rfl ?_
  refine k_st (st2 := (.int 1 :: _)) (congrArg (fun z => Value.int z :: _) (show (nI 98) - 97 = 1 from by decide)) ?_
  refine k_aload_n (q := 126) C 0 dX4_doesOrder_125 rfl rfl ?_
  refine k_get (q := 129) (ci := 4) (v := .int fi) C 0 10 in4_X4_doesOrder rfl (List.mem_of_getElem? (i := 2) rfl) rfl rfl (by decide) rfl dX4_doesOrder_126 rfl ?_
  refine k_callVI (n := 2) (q := 132) (pre := ([] : va_W)) (post := ([] : va_W)) (w2 := (wM a cy th sm ln pt 98 fi se (mSt n o h t (upd s 1 fi) g kn lo lf nm) sv sl ik bf co go fo)) (As := [.int 1, .int fi]) (rest := []) C (c_X4_turnTo cy a th sm ln pt 98 fi se n o h t s g kn lo lf nm sv sl ik bf co go fo 1 fi (by omega)) gX4_doesOrder_X4_turnTo rfl rfl rfl (by decide +kernel) (k_room hR (by decide)) ⟨Nat.zero_le _, Nat.zero_le _⟩ (ci := 4) rfl 0 rfl rfl rfl (Nat.le_of_ble_eq_true rfl) ((List.append_nil _).symm) (List.append_nil _) dX4_doesOrder_129 rfl ?_
  refine k_bipush (q := 134) (v := -30) C dX4_doesOrder_132 (by decide +kernel) rfl ?_
  refine k_icmp_lt (tgt := 141) (q := 137) C dX4_doesOrder_134 (by decide) rfl ?_ ?_
  · exact fun c_134 => absurd c_134 (sOk_lt hs)
  · intro c_134
    refine k_iconst (q := 138) (v := 1) C dX4_doesOrder_137 (by decide) rfl ?_
    refine k_goto (q := 142) C dX4_doesOrder_138 (by decide) ?_
    exact k_finx E (co, go, fo) dX4_doesOrder_142 (rfl) (rfl) (trivial)
