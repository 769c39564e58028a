abbrev rm_X4_within : Room := { frames := 0, cells := 0, slots := 0, locals := 0 }
set_option maxHeartbeats 4000000 in
set_option maxRecDepth 100000 in
theorem c_X4_within {cy : Nat → ClassId} (x : Int32) (y : Int32) (z : Int32)   : kI yX4_within wsX4_within rm_X4_within cy [.int x, .int y, .int z] ([] : va_W) (bI (y ≤ x ∧ x ≤ z)) ([] : va_W) := by
  refine kI_of (cc := cX4_within) (maxL := 3) (rt := .boolean) (by decide) rfl (kb_nar _) (Nat.le_of_ble_eq_true rfl) ?_
  intro X hR C E
  have C : kC X 3 RX4 cX4_within wsX4_within cy := C
  refine k_fr (fr2 := [(0, .int x), (1, .int y), (2, .int z)]) ⟨[0, 1, 2], rfl⟩ ?_
  refine k_iload_n (q := 1) C 0 dX4_within_0 rfl rfl ?_
  refine k_iload_n (q := 2) C 1 dX4_within_1 rfl rfl ?_
  refine k_icmp_lt (tgt := 14) (q := 5) C dX4_within_2 (by decide) rfl ?_ ?_
  · intro c_2
    refine k_iconst (q := 15) (v := 0) C dX4_within_14 (by decide) rfl ?_
    exact k_fin E dX4_within_15 (by first | exact bI_t ⟨Int32.not_lt.mp c_2, Int32.not_lt.mp c_7⟩ | exact bI_f (fun q => Int32.not_le.mpr c_2 q.1) | exact bI_f (fun q => Int32.not_le.mpr c_7 q.2)) (rfl)
  · intro c_2
    refine k_iload_n (q := 6) C 0 dX4_within_5 rfl rfl ?_
    refine k_iload_n (q := 7) C 2 dX4_within_6 rfl rfl ?_
    refine k_icmp_gt (tgt := 14) (q := 10) C dX4_within_7 (by decide) rfl ?_ ?_
    · intro c_7
      refine k_iconst (q := 15) (v := 0) C dX4_within_14 (by decide) rfl ?_
      exact k_fin E dX4_within_15 (by first | exact bI_t ⟨Int32.not_lt.mp c_2, Int32.not_lt.mp c_7⟩ | exact bI_f (fun q => Int32.not_le.mpr c_2 q.1) | exact bI_f (fun q => Int32.not_le.mpr c_7 q.2)) (rfl)
    · intro c_7
      refine k_iconst (q := 11) (v := 1) C dX4_within_10 (by decide) rfl ?_
      refine k_goto (q := 15) C dX4_within_11 (by decide) ?_
      exact k_fin E dX4_within_15 (by first | exact bI_t ⟨Int32.not_lt.mp c_2, Int32.not_lt.mp c_7⟩ | exact bI_f (fun q => Int32.not_le.mpr c_2 q.1) | exact bI_f (fun q => Int32.not_le.mpr c_7 q.2)) (rfl)
abbrev rm_X4_sizeOf : Room := { frames := 0, cells := 0, slots := 0, locals := 0 }
set_option maxHeartbeats 4000000 in
set_option maxRecDepth 100000 in
theorem c_X4_sizeOf {cy : Nat → ClassId} (x : Int32)   : kI yX4_sizeOf wsX4_sizeOf rm_X4_sizeOf cy [.int x] ([] : va_W) (mAbs x) ([] : va_W) := by
  refine kI_of (cc := cX4_sizeOf) (maxL := 1) (rt := .int) (by decide) rfl (rfl) (Nat.le_of_ble_eq_true rfl) ?_
  intro X hR C E
  have C : kC X 1 RX4 cX4_sizeOf wsX4_sizeOf cy := C
  refine k_fr (fr2 := [(0, .int x)]) ⟨[0], rfl⟩ ?_
  refine k_iload_n (q := 1) C 0 dX4_sizeOf_0 rfl rfl ?_
  refine k_if_ge (tgt := 9) (q := 4) C dX4_sizeOf_1 (by decide) rfl ?_ ?_
  · intro c_1
    refine k_iload_n (q := 10) C 0 dX4_sizeOf_9 rfl rfl ?_
    exact k_fin E dX4_sizeOf_10 (by first | exact (mAbs_sz x).1 (Int32.not_le.mp c_1) | exact (mAbs_sz x).2 (Int32.not_lt.mpr c_1)) (rfl)
  · intro c_1
    refine k_iload_n (q := 5) C 0 dX4_sizeOf_4 rfl rfl ?_
    refine k_ineg (q := 6) C dX4_sizeOf_5 rfl ?_
    refine k_goto (q := 10) C dX4_sizeOf_6 (by decide) ?_
    exact k_fin E dX4_sizeOf_10 (by first | exact (mAbs_sz x).1 (Int32.not_le.mp c_1) | exact (mAbs_sz x).2 (Int32.not_lt.mpr c_1)) (rfl)
abbrev rm_X4_isLight : Room := { frames := 1, cells := 0, slots := 0, locals := 22 }
set_option maxHeartbeats 4000000 in
set_option maxRecDepth 100000 in
theorem c_X4_isLight {cy : Nat → ClassId} (x : Int32)   : kI yX4_isLight wsX4_isLight rm_X4_isLight cy [.int x] ([] : va_W) (bI (0 ≤ x ∧ x ≤ 1)) ([] : va_W) := by
  refine kI_of (cc := cX4_isLight) (maxL := 1) (rt := .boolean) (by decide) rfl (kb_nar _) (Nat.le_of_ble_eq_true rfl) ?_
  intro X hR C E
  have C : kC X 1 RX4 cX4_isLight wsX4_isLight cy := C
  refine k_fr (fr2 := [(0, .int x)]) ⟨[0], rfl⟩ ?_
  refine k_iload_n (q := 1) C 0 dX4_isLight_0 rfl rfl ?_
  refine k_iconst (q := 2) (v := 0) C dX4_isLight_1 (by decide) rfl ?_
  refine k_iconst (q := 3) (v := 1) C dX4_isLight_2 (by decide) rfl ?_
  refine k_callSI (n := 3) (q := 6) (pre := ([] : va_W)) (post := ([] : va_W)) (w2 := ([] : va_W)) (As := [.int x, .int 0, .int 1]) (rest := []) C (c_X4_within x 0 1) gX4_isLight_X4_within rfl rfl rfl (by decide +kernel) (k_room hR (by decide)) ⟨Nat.zero_le _, Nat.zero_le _⟩  rfl rfl (Nat.le_of_ble_eq_true rfl) (rfl) (rfl) dX4_isLight_3 rfl ?_
  exact k_fin E dX4_isLight_6 (rfl) (rfl)
abbrev rm_X4_thrown : Room := { frames := 0, cells := 0, slots := 0, locals := 0 }
theorem in4_X4_thrown : ∀ w ∈ wsX40, w ∈ wsX4_thrown := fun _ h => (List.mem_cons_of_mem _ (List.mem_append_right _ h))
set_option maxHeartbeats 4000000 in
set_option maxRecDepth 100000 in
theorem c_X4_thrown (cy : Nat → ClassId) (a : Nat → Nat) (th : Int32) (sm : Nat) (ln : Nat) (pt : Nat) (sg : Nat) (fi : Int32) (se : Int32) (n : Nat) (o : Nat → Int32) (h : Nat → Int32) (t : Nat → Int32) (s : Nat → Int32) (g : Nat → Int32) (kn : Nat) (lo : Int32) (lf : Int32) (nm : Nat → Int32) (sv : Nat → Int32) (sl : Nat → Int32) (ik : Nat → Int32) (bf : Nat → Nat) (co : Nat → Int32) (go : Nat → Int32) (fo : Nat → Int32)   : kI yX4_thrown wsX4_thrown rm_X4_thrown cy [.ref (a 0)] (wM a cy th sm ln pt sg fi se (mSt n o h t s g kn lo lf nm) sv sl ik bf co go fo) th (wM a cy th sm ln pt sg fi se (mSt n o h t s g kn lo lf nm) sv sl ik bf co go fo) := by
  refine kI_of (cc := cX4_thrown) (maxL := 1) (rt := .int) (by decide) rfl (rfl) (Nat.le_of_ble_eq_true rfl) ?_
  intro X hR C E
  have C : kC X 1 RX4 cX4_thrown wsX4_thrown cy := C
  refine k_fr (fr2 := [(0, .ref (a 0))]) ⟨[0], rfl⟩ ?_
  refine k_aload_n (q := 1) C 0 dX4_thrown_0 rfl rfl ?_
  refine k_get (q := 4) (ci := 4) (v := .int th) C 0 0 in4_X4_thrown rfl (List.mem_of_getElem? (i := 1) rfl) rfl rfl (by decide) rfl dX4_thrown_1 rfl ?_
  exact k_fin E dX4_thrown_4 (rfl) (rfl)
set_option maxHeartbeats 4000000 in
set_option maxRecDepth 100000 in
theorem c_X4_thrown_r (cy : Nat → ClassId) (a : Nat → Nat) (th : Int32) (sm : Nat) (ln : Nat) (pt : Nat) (sg : Nat) (fi : Int32) (se : Int32) (st : Nat → Int32) (sv : Nat → Int32) (sl : Nat → Int32) (ik : Nat → Int32) (bf : Nat → Nat) (co : Nat → Int32) (go : Nat → Int32) (fo : Nat → Int32)   : kI yX4_thrown wsX4_thrown rm_X4_thrown cy [.ref (a 0)] (wM a cy th sm ln pt sg fi se st sv sl ik bf co go fo) th (wM a cy th sm ln pt sg fi se st sv sl ik bf co go fo) := by
  refine kI_of (cc := cX4_thrown) (maxL := 1) (rt := .int) (by decide) rfl (rfl) (Nat.le_of_ble_eq_true rfl) ?_
  intro X hR C E
  have C : kC X 1 RX4 cX4_thrown wsX4_thrown cy := C
  refine k_fr (fr2 := [(0, .ref (a 0))]) ⟨[0], rfl⟩ ?_
  refine k_aload_n (q := 1) C 0 dX4_thrown_0 rfl rfl ?_
  refine k_get (q := 4) (ci := 4) (v := .int th) C 0 0 in4_X4_thrown rfl (List.mem_of_getElem? (i := 1) rfl) rfl rfl (by decide) rfl dX4_thrown_1 rfl ?_
  exact k_fin E dX4_thrown_4 (rfl) (rfl)
abbrev rm_X4_fails : Room := { frames := 0, cells := 0, slots := 0, locals := 0 }
theorem in4_X4_fails : ∀ w ∈ wsX40, w ∈ wsX4_fails := fun _ h => (List.mem_cons_of_mem _ (List.mem_append_right _ h))
set_option maxHeartbeats 4000000 in
set_option maxRecDepth 100000 in
theorem c_X4_fails (cy : Nat → ClassId) (a : Nat → Nat) (th : Int32) (sm : Nat) (ln : Nat) (pt : Nat) (sg : Nat) (fi : Int32) (se : Int32) (n : Nat) (o : Nat → Int32) (h : Nat → Int32) (t : Nat → Int32) (s : Nat → Int32) (g : Nat → Int32) (kn : Nat) (lo : Int32) (lf : Int32) (nm : Nat → Int32) (sv : Nat → Int32) (sl : Nat → Int32) (ik : Nat → Int32) (bf : Nat → Nat) (co : Nat → Int32) (go : Nat → Int32) (fo : Nat → Int32) (x : Int32)   : kI yX4_fails wsX4_fails rm_X4_fails cy [.ref (a 0), .int x] (wM a cy th sm ln pt sg fi se (mSt n o h t s g kn lo lf nm) sv sl ik bf co go fo) 0 (wM a cy x sm ln pt sg fi se (mSt n o h t s g kn lo lf nm) sv sl ik bf co go fo) := by
  refine kI_of (cc := cX4_fails) (maxL := 2) (rt := .int) (by decide) rfl (rfl) (Nat.le_of_ble_eq_true rfl) ?_
  intro X hR C E
  have C : kC X 2 RX4 cX4_fails wsX4_fails cy := C
  refine k_fr (fr2 := [(0, .ref (a 0)), (1, .int x)]) ⟨[0, 1], rfl⟩ ?_
  refine k_aload_n (q := 1) C 0 dX4_fails_0 rfl rfl ?_
  refine k_iload_n (q := 2) C 1 dX4_fails_1 rfl rfl ?_
  refine k_put (q := 5) (ci := 4) (v := .int x) (w2 := (wM a cy x sm ln pt sg fi se (mSt n o h t s g kn lo lf nm) sv sl ik bf co go fo)) C 0 0 in4_X4_fails rfl (List.mem_of_getElem? (i := 1) rfl) rfl tyX4 tyX4_ok nmX4 rfl (rfl) (rfl) rfl (by decide) (Nat.le_of_ble_eq_true rfl) (rfl) dX4_fails_2 rfl ?_
  refine k_iconst (q := 6) (v := 0) C dX4_fails_5 (by decide) rfl ?_
  exact k_fin E dX4_fails_6 (rfl) (rfl)
set_option maxHeartbeats 4000000 in
set_option maxRecDepth 100000 in
theorem c_X4_fails_r (cy : Nat → ClassId) (a : Nat → Nat) (th : Int32) (sm : Nat) (ln : Nat) (pt : Nat) (sg : Nat) (fi : Int32) (se : Int32) (st : Nat → Int32) (sv : Nat → Int32) (sl : Nat → Int32) (ik : Nat → Int32) (bf : Nat → Nat) (co : Nat → Int32) (go : Nat → Int32) (fo : Nat → Int32) (x : Int32)   : kI yX4_fails wsX4_fails rm_X4_fails cy [.ref (a 0), .int x] (wM a cy th sm ln pt sg fi se st sv sl ik bf co go fo) 0 (wM a cy x sm ln pt sg fi se st sv sl ik bf co go fo) := by
  refine kI_of (cc := cX4_fails) (maxL := 2) (rt := .int) (by decide) rfl (rfl) (Nat.le_of_ble_eq_true rfl) ?_
  intro X hR C E
  have C : kC X 2 RX4 cX4_fails wsX4_fails cy := C
  refine k_fr (fr2 := [(0, .ref (a 0)), (1, .int x)]) ⟨[0, 1], rfl⟩ ?_
  refine k_aload_n (q := 1) C 0 dX4_fails_0 rfl rfl ?_
  refine k_iload_n (q := 2) C 1 dX4_fails_1 rfl rfl ?_
  refine k_put (q := 5) (ci := 4) (v := .int x) (w2 := (wM a cy x sm ln pt sg fi se st sv sl ik bf co go fo)) C 0 0 in4_X4_fails rfl (List.mem_of_getElem? (i := 1) rfl) rfl tyX4 tyX4_ok nmX4 rfl (rfl) (rfl) rfl (by decide) (Nat.le_of_ble_eq_true rfl) (rfl) dX4_fails_2 rfl ?_
  refine k_iconst (q := 6) (v := 0) C dX4_fails_5 (by decide) rfl ?_
  exact k_fin E dX4_fails_6 (rfl) (rfl)
abbrev rm_X4_isLayer : Room := { frames := 1, cells := 0, slots := 0, locals := 22 }
theorem in4_X4_isLayer : ∀ w ∈ wsX40, w ∈ wsX4_isLayer := fun _ h => (List.mem_cons_of_mem _ (List.mem_append_right _ h))
set_option maxHeartbeats 4000000 in
set_option maxRecDepth 100000 in
theorem c_X4_isLayer (cy : Nat → ClassId) (a : Nat → Nat) (th : Int32) (sm : Nat) (ln : Nat) (pt : Nat) (sg : Nat) (fi : Int32) (se : Int32) (n : Nat) (o : Nat → Int32) (h : Nat → Int32) (t : Nat → Int32) (s : Nat → Int32) (g : Nat → Int32) (kn : Nat) (lo : Int32) (lf : Int32) (nm : Nat → Int32) (sv : Nat → Int32) (sl : Nat → Int32) (ik : Nat → Int32) (bf : Nat → Nat) (co : Nat → Int32) (go : Nat → Int32) (fo : Nat → Int32) (x : Int32)  (hn : n ≤ 6) : kI yX4_isLayer wsX4_isLayer rm_X4_isLayer cy [.ref (a 0), .int x] (wM a cy th sm ln pt sg fi se (mSt n o h t s g kn lo lf nm) sv sl ik bf co go fo) (bI (0 ≤ x ∧ x < nI n)) (wM a cy th sm ln pt sg fi se (mSt n o h t s g kn lo lf nm) sv sl ik bf co go fo) := by
  refine kI_of (cc := cX4_isLayer) (maxL := 2) (rt := .boolean) (by decide) rfl (kb_nar _) (Nat.le_of_ble_eq_true rfl) ?_
  intro X hR C E
  have C : kC X 2 RX4 cX4_isLayer wsX4_isLayer cy := C
  refine k_fr (fr2 := [(0, .ref (a 0)), (1, .int x)]) ⟨[0, 1], rfl⟩ ?_
  refine k_iload_n (q := 1) C 1 dX4_isLayer_0 rfl rfl ?_
  refine k_iconst (q := 2) (v := 0) C dX4_isLayer_1 (by decide) rfl ?_
  refine k_aload_n (q := 3) C 0 dX4_isLayer_2 rfl rfl ?_
  refine k_get (q := 6) (ci := 4) (v := .ref (a 1)) C 0 1 in4_X4_isLayer rfl (List.mem_of_getElem? (i := 1) rfl) rfl rfl (by decide) rfl dX4_isLayer_3 rfl ?_
  refine k_bipush (q := 8) (v := 8) C dX4_isLayer_6 (by decide +kernel) rfl ?_
  refine k_iald (q := 9) C 1 rfl (vp_in_nI (n := 8) (by decide) (by decide)) dX4_isLayer_8 rfl ?_
  refine k_st (st2 := (.int ((mSt n o h t s g kn lo lf nm) 8) :: _)) (congrArg (fun z => Value.int z :: _) (show (mSt n o h t s g kn lo lf nm) (8 : Int32).toNatClampNeg = (mSt n o h t s g kn lo lf nm) 8 from congrArg (mSt n o h t s g kn lo lf nm) (nI_clamp (n := 8) (by decide)))) ?_
  refine k_st (st2 := (.int (nI n) :: _)) (congrArg (fun z => Value.int z :: _) (show (mSt n o h t s g kn lo lf nm) 8 = nI n from rfl)) ?_
  refine k_iconst (q := 10) (v := 1) C dX4_isLayer_9 (by decide) rfl ?_
  refine k_isub (q := 11) C dX4_isLayer_10 rfl ?_
  refine k_callSI (n := 3) (q := 14) (pre := ([] : va_W)) (post := (wM a cy th sm ln pt sg fi se (mSt n o h t s g kn lo lf nm) sv sl ik bf co go fo)) (w2 := (wM a cy th sm ln pt sg fi se (mSt n o h t s g kn lo lf nm) sv sl ik bf co go fo)) (As := [.int x, .int 0, .int ((nI n) - 1)]) (rest := []) C (c_X4_within x 0 ((nI n) - 1)) gX4_isLayer_X4_within rfl rfl rfl (by decide +kernel) (k_room hR (by decide)) ⟨Nat.zero_le _, Nat.zero_le _⟩  rfl rfl (Nat.le_of_ble_eq_true rfl) (rfl) (rfl) dX4_isLayer_11 rfl ?_
  exact k_fin E dX4_isLayer_14 (bI_cong (mWithin hn)) (rfl)
abbrev rm_X4_save : Room := { frames := 0, cells := 0, slots := 0, locals := 0 }
theorem in4_X4_save : ∀ w ∈ wsX40, w ∈ wsX4_save := fun _ h => (List.mem_cons_of_mem _ (List.mem_append_right _ h))
set_option maxHeartbeats 4000000 in
set_option maxRecDepth 100000 in
theorem lp_X4_save_51 (cy : Nat → ClassId) (a : Nat → Nat) (th : Int32) (sm : Nat) (ln : Nat) (pt : Nat) (sg : Nat) (fi : Int32) (se : Int32) (st : Nat → Int32) (sv : Nat → Int32) (sl : Nat → Int32) (ik : Nat → Int32) (bf : Nat → Nat) (co : Nat → Int32) (go : Nat → Int32) (fo : Nat → Int32)  (hs : sm ≤ 6) (X : kX) (hR : xR X = rm_X4_save) (C : kC X 2 RX4 cX4_save wsX4_save cy) (E : kEndV X 2 cX4_save (wM a cy th (min (sm + 1) 6) ln pt sg fi se st (mSave sv st sm) sl ik bf co go fo)) : ∀ (fu : Nat) (k : Nat) (q : Nat) (b : Nat → Int32), 56 - k < fu → (k ≤ 56) → (q = min sm 5) → (b = (if sm = 6 then mSh sv 280 else sv)) → kG X 2 0 0 (wM a cy th q ln pt sg fi se st (mPut b st q k) sl ik bf co go fo) 51 [(0, .ref (a 0)), (1, .int (nI k))] [] := by
  intro fu
  induction fu with
  | zero => intro k q b hfu; exact absurd hfu (Nat.not_lt_zero _)
  | succ fu ih =>
    intro k q b hfu hk hq hb
    refine k_iload_n (q := 52) C 1 dX4_save_51 rfl rfl ?_
    refine k_bipush (q := 54) (v := 56) C dX4_save_52 (by decide +kernel) rfl ?_
    refine k_nicmp_ge (a := k) (b := 56)  (tgt := 83) (q := 57) C dX4_save_54 (by decide) rfl (by omega) (by decide) ?_ ?_
    · intro c_54
      refine k_aload_n (q := 84) C 0 dX4_save_83 rfl rfl ?_
      refine k_dup (q := 85) C dX4_save_84 rfl rfl ?_
      refine k_get (q := 88) (ci := 4) (v := .int (nI q)) C 0 3 in4_X4_save rfl (List.mem_of_getElem? (i := 1) rfl) rfl rfl (by decide) rfl dX4_save_85 rfl ?_
      refine k_iconst (q := 89) (v := 1) C dX4_save_88 (by decide) rfl ?_
      refine k_iadd (q := 90) C dX4_save_89 rfl ?_
      refine k_st (st2 := (.int (nI (q + 1)) :: _)) (congrArg (fun z => Value.int z :: _) (show (nI q) + 1 = nI (q + 1) from nI_add q 1)) ?_
      refine k_put (q := 93) (ci := 4) (v := .int (nI (q + 1))) (w2 := (wM a cy th (q + 1) ln pt sg fi se st (mPut b st q k) sl ik bf co go fo)) C 0 3 in4_X4_save rfl (List.mem_of_getElem? (i := 1) rfl) rfl tyX4 tyX4_ok nmX4 rfl (rfl) (rfl) rfl (by decide) (Nat.le_of_ble_eq_true rfl) (rfl) dX4_save_90 rfl ?_
      exact k_finV E dX4_save_93 (by rw [show q + 1 = min (sm + 1) 6 by omega, show k = 56 by omega, hb, hq]; rfl)
    · intro c_54
      refine k_aload_n (q := 58) C 0 dX4_save_57 rfl rfl ?_
      refine k_get (q := 61) (ci := 4) (v := .ref (a 2)) C 0 2 in4_X4_save rfl (List.mem_of_getElem? (i := 2) rfl) rfl rfl (by decide) rfl dX4_save_58 rfl ?_
      refine k_aload_n (q := 62) C 0 dX4_save_61 rfl rfl ?_
      refine k_get (q := 65) (ci := 4) (v := .int (nI q)) C 0 3 in4_X4_save rfl (List.mem_of_getElem? (i := 1) rfl) rfl rfl (by decide) rfl dX4_save_62 rfl ?_
      refine k_bipush (q := 67) (v := 56) C dX4_save_65 (by decide +kernel) rfl ?_
      refine k_imul (q := 68) C dX4_save_67 rfl ?_
      refine k_st (st2 := (.int (nI (q * 56)) :: _)) (congrArg (fun z => Value.int z :: _) (show (nI q) * 56 = nI (q * 56) from pk_mul q 56)) ?_
      refine k_iload_n (q := 69) C 1 dX4_save_68 rfl rfl ?_
      refine k_iadd (q := 70) C dX4_save_69 rfl ?_
      refine k_st (st2 := (.int (nI (q * 56 + k)) :: _)) (congrArg (fun z => Value.int z :: _) (show (nI (q * 56)) + (nI k) = nI (q * 56 + k) from nI_add (q * 56) k)) ?_
      refine k_aload_n (q := 71) C 0 dX4_save_70 rfl rfl ?_
      refine k_get (q := 74) (ci := 4) (v := .ref (a 1)) C 0 1 in4_X4_save rfl (List.mem_of_getElem? (i := 3) rfl) rfl rfl (by decide) rfl dX4_save_71 rfl ?_
      refine k_iload_n (q := 75) C 1 dX4_save_74 rfl rfl ?_
      refine k_iald (q := 76) C 1 rfl (vp_in_nI (n := k) (by omega) (by decide)) dX4_save_75 rfl ?_
      refine k_st (st2 := (.int (st k) :: _)) (congrArg (fun z => Value.int z :: _) (show st (nI k).toNatClampNeg = st k from congrArg st (nI_clamp (n := k) (by omega)))) ?_
      refine k_iast (q := 77) (w2 := (wM a cy th q ln pt sg fi se st (upd (mPut b st q k) (q * 56 + k) (st k)) sl ik bf co go fo)) C 2 rfl (vp_in_nI (n := q * 56 + k) (by omega) (by decide)) (by rw [nI_clamp (n := q * 56 + k) (by omega)]; rfl) dX4_save_76 rfl ?_
      refine k_w (w2 := (wM a cy th q ln pt sg fi se st (mPut b st q (k + 1)) sl ik bf co go fo)) (by rw [mPut_s]) ?_
      refine k_iinc (q := 80) (v := nI (k + 1)) (fr2 := [(1, .int (nI (k + 1))), (0, .ref (a 0))]) C 1 dX4_save_77 rfl (nI_add k 1) (by decide) rfl rfl ?_
      refine k_goto (q := 51) C dX4_save_80 (by decide) ?_
      refine k_fr (fr2 := [(0, .ref (a 0)), (1, .int (nI (k + 1)))]) ⟨[1, 0], rfl⟩ ?_
      exact ih (k + 1) q b (by omega) (by omega) hq hb
set_option maxHeartbeats 4000000 in
set_option maxRecDepth 100000 in
theorem lp_X4_save_11 (cy : Nat → ClassId) (a : Nat → Nat) (th : Int32) (sm : Nat) (ln : Nat) (pt : Nat) (sg : Nat) (fi : Int32) (se : Int32) (st : Nat → Int32) (sv : Nat → Int32) (sl : Nat → Int32) (ik : Nat → Int32) (bf : Nat → Nat) (co : Nat → Int32) (go : Nat → Int32) (fo : Nat → Int32)  (hs : sm ≤ 6) (X : kX) (hR : xR X = rm_X4_save) (C : kC X 2 RX4 cX4_save wsX4_save cy) (E : kEndV X 2 cX4_save (wM a cy th (min (sm + 1) 6) ln pt sg fi se st (mSave sv st sm) sl ik bf co go fo)) : ∀ (fu : Nat) (k : Nat), 280 - k < fu → (k ≤ 280) → (sm = 6) → kG X 2 0 0 (wM a cy th sm ln pt sg fi se st (mSh sv k) sl ik bf co go fo) 11 [(0, .ref (a 0)), (1, .int (nI k))] [] := by
  intro fu
  induction fu with
  | zero => intro k hfu; exact absurd hfu (Nat.not_lt_zero _)
  | succ fu ih =>
    intro k hfu hk h6
    refine k_iload_n (q := 12) C 1 dX4_save_11 rfl rfl ?_
    refine k_sipush (q := 15) (v := 280) C dX4_save_12 (by decide +kernel) rfl ?_
    refine k_nicmp_ge (a := k) (b := 280)  (tgt := 39) (q := 18) C dX4_save_15 (by decide) rfl (by omega) (by decide) ?_ ?_
    · intro c_15
      refine k_aload_n (q := 40) C 0 dX4_save_39 rfl rfl ?_
      refine k_dup (q := 41) C dX4_save_40 rfl rfl ?_
      refine k_get (q := 44) (ci := 4) (v := .int (nI sm)) C 0 3 in4_X4_save rfl (List.mem_of_getElem? (i := 1) rfl) rfl rfl (by decide) rfl dX4_save_41 rfl ?_
      refine k_iconst (q := 45) (v := 1) C dX4_save_44 (by decide) rfl ?_
      refine k_isub (q := 46) C dX4_save_45 rfl ?_
      refine k_st (st2 := (.int (nI (sm - 1)) :: _)) (congrArg (fun z => Value.int z :: _) (show (nI sm) - 1 = nI (sm - 1) from pk_sub (a := sm) (b := 1) (by omega))) ?_
      refine k_put (q := 49) (ci := 4) (v := .int (nI (sm - 1))) (w2 := (wM a cy th (sm - 1) ln pt sg fi se st (mSh sv k) sl ik bf co go fo)) C 0 3 in4_X4_save rfl (List.mem_of_getElem? (i := 1) rfl) rfl tyX4 tyX4_ok nmX4 rfl (rfl) (rfl) rfl (by decide) (Nat.le_of_ble_eq_true rfl) (rfl) dX4_save_46 rfl ?_
      refine k_iconst (q := 50) (v := 0) C dX4_save_49 (by decide) rfl ?_
      refine k_istore_n (q := 51) (fr2 := [(1, .int 0), (0, .ref (a 0))]) C dX4_save_50 (by decide) rfl rfl ?_
      refine k_fr (fr2 := [(0, .ref (a 0)), (1, .int 0)]) ⟨[1, 0], rfl⟩ ?_
      have K := lp_X4_save_51 cy a th sm ln pt sg fi se st sv sl ik bf co go fo hs X hR C E _ 0 (sm - 1) (mSh sv 280) (Nat.lt_succ_self _) (by omega) (by omega) (by rw [if_pos h6])
      rw [mPut_0] at K; rw [show k = 280 by omega]
      exact K
    · intro c_15
      refine k_aload_n (q := 19) C 0 dX4_save_18 rfl rfl ?_
      refine k_get (q := 22) (ci := 4) (v := .ref (a 2)) C 0 2 in4_X4_save rfl (List.mem_of_getElem? (i := 2) rfl) rfl rfl (by decide) rfl dX4_save_19 rfl ?_
      refine k_iload_n (q := 23) C 1 dX4_save_22 rfl rfl ?_
      refine k_aload_n (q := 24) C 0 dX4_save_23 rfl rfl ?_
      refine k_get (q := 27) (ci := 4) (v := .ref (a 2)) C 0 2 in4_X4_save rfl (List.mem_of_getElem? (i := 2) rfl) rfl rfl (by decide) rfl dX4_save_24 rfl ?_
      refine k_iload_n (q := 28) C 1 dX4_save_27 rfl rfl ?_
      refine k_bipush (q := 30) (v := 56) C dX4_save_28 (by decide +kernel) rfl ?_
      refine k_iadd (q := 31) C dX4_save_30 rfl ?_
      refine k_st (st2 := (.int (nI (k + 56)) :: _)) (congrArg (fun z => Value.int z :: _) (show (nI k) + 56 = nI (k + 56) from nI_add k 56)) ?_
      refine k_iald (q := 32) C 2 rfl (vp_in_nI (n := k + 56) (by omega) (by decide)) dX4_save_31 rfl ?_
      refine k_st (st2 := (.int ((mSh sv k) (k + 56)) :: _)) (congrArg (fun z => Value.int z :: _) (show (mSh sv k) (nI (k + 56)).toNatClampNeg = (mSh sv k) (k + 56) from congrArg (mSh sv k) (nI_clamp (n := k + 56) (by omega)))) ?_
      refine k_st (st2 := (.int (sv (k + 56)) :: _)) (congrArg (fun z => Value.int z :: _) (show (mSh sv k) (k + 56) = sv (k + 56) from mSh_at sv k)) ?_
      refine k_iast (q := 33) (w2 := (wM a cy th sm ln pt sg fi se st (upd (mSh sv k) k (sv (k + 56))) sl ik bf co go fo)) C 2 rfl (vp_in_nI (n := k) (by omega) (by decide)) (by rw [nI_clamp (n := k) (by omega)]; rfl) dX4_save_32 rfl ?_
      refine k_w (w2 := (wM a cy th sm ln pt sg fi se st (mSh sv (k + 1)) sl ik bf co go fo)) (by rw [mSh_s]) ?_
      refine k_iinc (q := 36) (v := nI (k + 1)) (fr2 := [(1, .int (nI (k + 1))), (0, .ref (a 0))]) C 1 dX4_save_33 rfl (nI_add k 1) (by decide) rfl rfl ?_
      refine k_goto (q := 11) C dX4_save_36 (by decide) ?_
      refine k_fr (fr2 := [(0, .ref (a 0)), (1, .int (nI (k + 1)))]) ⟨[1, 0], rfl⟩ ?_
      exact ih (k + 1) (by omega) (by omega) h6
set_option maxHeartbeats 4000000 in
set_option maxRecDepth 100000 in
theorem c_X4_save (cy : Nat → ClassId) (a : Nat → Nat) (th : Int32) (sm : Nat) (ln : Nat) (pt : Nat) (sg : Nat) (fi : Int32) (se : Int32) (st : Nat → Int32) (sv : Nat → Int32) (sl : Nat → Int32) (ik : Nat → Int32) (bf : Nat → Nat) (co : Nat → Int32) (go : Nat → Int32) (fo : Nat → Int32)  (hs : sm ≤ 6) : kV yX4_save wsX4_save rm_X4_save cy [.ref (a 0)] (wM a cy th sm ln pt sg fi se st sv sl ik bf co go fo) (wM a cy th (min (sm + 1) 6) ln pt sg fi se st (mSave sv st sm) sl ik bf co go fo) := by
  refine kV_of (cc := cX4_save) (maxL := 2) (by decide) rfl (Nat.le_of_ble_eq_true rfl) ?_
  intro X hR C E
  have C : kC X 2 RX4 cX4_save wsX4_save cy := C
  refine k_fr (fr2 := [(0, .ref (a 0))]) ⟨[0], rfl⟩ ?_
  refine k_aload_n (q := 1) C 0 dX4_save_0 rfl rfl ?_
  refine k_get (q := 4) (ci := 4) (v := .int (nI sm)) C 0 3 in4_X4_save rfl (List.mem_of_getElem? (i := 1) rfl) rfl rfl (by decide) rfl dX4_save_1 rfl ?_
  refine k_bipush (q := 6) (v := 6) C dX4_save_4 (by decide +kernel) rfl ?_
  refine k_nicmp_ne (a := sm) (b := 6)  (tgt := 49) (q := 9) C dX4_save_6 (by decide) rfl (by omega) (by decide) ?_ ?_
  · intro c_6
    refine k_iconst (q := 50) (v := 0) C dX4_save_49 (by decide) rfl ?_
    refine k_istore_n (q := 51) (fr2 := [(1, .int 0), (0, .ref (a 0))]) C dX4_save_50 (by decide) rfl rfl ?_
    refine k_fr (fr2 := [(0, .ref (a 0)), (1, .int 0)]) ⟨[1, 0], rfl⟩ ?_
    have K := lp_X4_save_51 cy a th sm ln pt sg fi se st sv sl ik bf co go fo hs X hR C E _ 0 sm sv (Nat.lt_succ_self _) (by omega) (by omega) (by rw [if_neg c_6])
    rw [mPut_0] at K
    exact K
  · intro c_6
    refine k_iconst (q := 10) (v := 0) C dX4_save_9 (by decide) rfl ?_
    refine k_istore_n (q := 11) (fr2 := [(1, .int 0), (0, .ref (a 0))]) C dX4_save_10 (by decide) rfl rfl ?_
    refine k_fr (fr2 := [(0, .ref (a 0)), (1, .int 0)]) ⟨[1, 0], rfl⟩ ?_
    have K := lp_X4_save_11 cy a th sm ln pt sg fi se st sv sl ik bf co go fo hs X hR C E _ 0 (Nat.lt_succ_self _) (by omega) c_6
    rw [mSh_0] at K
    exact K
abbrev rm_X4_undo : Room := { frames := 1, cells := 0, slots := 0, locals := 21 }
theorem in4_X4_undo : ∀ w ∈ wsX40, w ∈ wsX4_undo := fun _ h => (List.mem_cons_of_mem _ (List.mem_append_right _ h))
set_option maxHeartbeats 4000000 in
set_option maxRecDepth 100000 in
theorem c_X4_undo_e (cy : Nat → ClassId) (a : Nat → Nat) (th : Int32) (sm : Nat) (ln : Nat) (pt : Nat) (sg : Nat) (fi : Int32) (se : Int32) (st : Nat → Int32) (sv : Nat → Int32) (sl : Nat → Int32) (ik : Nat → Int32) (bf : Nat → Nat) (co : Nat → Int32) (go : Nat → Int32) (fo : Nat → Int32)  (hs : sm = 0) : kI yX4_undo wsX4_undo rm_X4_undo cy [.ref (a 0)] (wM a cy th sm ln pt sg fi se st sv sl ik bf co go fo) 0 (wM a cy 1 sm ln pt sg fi se st sv sl ik bf co go fo) := by
  refine kI_of (cc := cX4_undo) (maxL := 2) (rt := .int) (by decide) rfl (rfl) (Nat.le_of_ble_eq_true rfl) ?_
  intro X hR C E
  have C : kC X 2 RX4 cX4_undo wsX4_undo cy := C
  refine k_fr (fr2 := [(0, .ref (a 0))]) ⟨[0], rfl⟩ ?_
  refine k_aload_n (q := 1) C 0 dX4_undo_0 rfl rfl ?_
  refine k_iconst (q := 2) (v := 0) C dX4_undo_1 (by decide) rfl ?_
  refine k_put (q := 5) (ci := 4) (v := .int 0) (w2 := (wM a cy 0 sm ln pt sg fi se st sv sl ik bf co go fo)) C 0 0 in4_X4_undo rfl (List.mem_of_getElem? (i := 1) rfl) rfl tyX4 tyX4_ok nmX4 rfl (rfl) (rfl) rfl (by decide) (Nat.le_of_ble_eq_true rfl) (rfl) dX4_undo_2 rfl ?_
  refine k_aload_n (q := 6) C 0 dX4_undo_5 rfl rfl ?_
  refine k_get (q := 9) (ci := 4) (v := .int (nI sm)) C 0 3 in4_X4_undo rfl (List.mem_of_getElem? (i := 2) rfl) rfl rfl (by decide) rfl dX4_undo_6 rfl ?_
  refine k_nif_ne (a := sm)  (tgt := 18) (q := 12) C dX4_undo_9 (by decide) rfl (by omega) ?_ ?_
  · exact fun c_9 => absurd hs (by omega)
  · intro c_9
    refine k_aload_n (q := 13) C 0 dX4_undo_12 rfl rfl ?_
    refine k_iconst (q := 14) (v := 1) C dX4_undo_13 (by decide) rfl ?_
    refine k_callVI (n := 1) (q := 17) (pre := ([] : va_W)) (post := ([] : va_W)) (w2 := (wM a cy 1 sm ln pt sg fi se st sv sl ik bf co go fo)) (As := [.int 1]) (rest := []) C (c_X4_fails_r cy a 0 sm ln pt sg fi se st sv sl ik bf co go fo 1) gX4_undo_X4_fails rfl rfl rfl (by decide +kernel) (k_room hR (by decide)) ⟨Nat.zero_le _, Nat.zero_le _⟩ (ci := 4) rfl 0 rfl rfl rfl (Nat.le_of_ble_eq_true rfl) ((List.append_nil _).symm) (List.append_nil _) dX4_undo_14 rfl ?_
    exact k_fin E dX4_undo_17 (rfl) (rfl)
set_option maxHeartbeats 4000000 in
set_option maxRecDepth 100000 in
theorem lp_X4_undo_30 (cy : Nat → ClassId) (a : Nat → Nat) (th : Int32) (sm : Nat) (ln : Nat) (pt : Nat) (sg : Nat) (fi : Int32) (se : Int32) (st : Nat → Int32) (sv : Nat → Int32) (sl : Nat → Int32) (ik : Nat → Int32) (bf : Nat → Nat) (co : Nat → Int32) (go : Nat → Int32) (fo : Nat → Int32)  (hs : 0 < sm) (hs6 : sm ≤ 6) (X : kX) (hR : xR X = rm_X4_undo) (C : kC X 2 RX4 cX4_undo wsX4_undo cy) (E : kEnd X 2 cX4_undo (nI (sm - 1)) (wM a cy 0 (sm - 1) ln pt sg fi se (mGet st sv (sm - 1) 56) sv sl ik bf co go fo)) : ∀ (fu : Nat) (k : Nat) (q : Nat), 56 - k < fu → (k ≤ 56) → (q = sm - 1) → kG X 2 0 0 (wM a cy 0 q ln pt sg fi se (mGet st sv q k) sv sl ik bf co go fo) 30 [(0, .ref (a 0)), (1, .int (nI k))] [] := by
  intro fu
  induction fu with
  | zero => intro k q hfu; exact absurd hfu (Nat.not_lt_zero _)
  | succ fu ih =>
    intro k q hfu hk hq
    refine k_iload_n (q := 31) C 1 dX4_undo_30 rfl rfl ?_
    refine k_bipush (q := 33) (v := 56) C dX4_undo_31 (by decide +kernel) rfl ?_
    refine k_nicmp_ge (a := k) (b := 56)  (tgt := 62) (q := 36) C dX4_undo_33 (by decide) rfl (by omega) (by decide) ?_ ?_
    · intro c_33
      refine k_aload_n (q := 63) C 0 dX4_undo_62 rfl rfl ?_
      refine k_get (q := 66) (ci := 4) (v := .int (nI q)) C 0 3 in4_X4_undo rfl (List.mem_of_getElem? (i := 2) rfl) rfl rfl (by decide) rfl dX4_undo_63 rfl ?_
      exact k_fin E dX4_undo_66 (by rw [hq]) (by rw [show k = 56 by omega, hq])
    · intro c_33
      refine k_aload_n (q := 37) C 0 dX4_undo_36 rfl rfl ?_
      refine k_get (q := 40) (ci := 4) (v := .ref (a 1)) C 0 1 in4_X4_undo rfl (List.mem_of_getElem? (i := 3) rfl) rfl rfl (by decide) rfl dX4_undo_37 rfl ?_
      refine k_iload_n (q := 41) C 1 dX4_undo_40 rfl rfl ?_
      refine k_aload_n (q := 42) C 0 dX4_undo_41 rfl rfl ?_
      refine k_get (q := 45) (ci := 4) (v := .ref (a 2)) C 0 2 in4_X4_undo rfl (List.mem_of_getElem? (i := 4) rfl) rfl rfl (by decide) rfl dX4_undo_42 rfl ?_
      refine k_aload_n (q := 46) C 0 dX4_undo_45 rfl rfl ?_
      refine k_get (q := 49) (ci := 4) (v := .int (nI q)) C 0 3 in4_X4_undo rfl (List.mem_of_getElem? (i := 2) rfl) rfl rfl (by decide) rfl dX4_undo_46 rfl ?_
      refine k_bipush (q := 51) (v := 56) C dX4_undo_49 (by decide +kernel) rfl ?_
      refine k_imul (q := 52) C dX4_undo_51 rfl ?_
      refine k_st (st2 := (.int (nI (q * 56)) :: _)) (congrArg (fun z => Value.int z :: _) (show (nI q) * 56 = nI (q * 56) from pk_mul q 56)) ?_
      refine k_iload_n (q := 53) C 1 dX4_undo_52 rfl rfl ?_
      refine k_iadd (q := 54) C dX4_undo_53 rfl ?_
      refine k_st (st2 := (.int (nI (q * 56 + k)) :: _)) (congrArg (fun z => Value.int z :: _) (show (nI (q * 56)) + (nI k) = nI (q * 56 + k) from nI_add (q * 56) k)) ?_
      refine k_iald (q := 55) C 2 rfl (vp_in_nI (n := q * 56 + k) (by omega) (by decide)) dX4_undo_54 rfl ?_
      refine k_st (st2 := (.int (sv (q * 56 + k)) :: _)) (congrArg (fun z => Value.int z :: _) (show sv (nI (q * 56 + k)).toNatClampNeg = sv (q * 56 + k) from congrArg sv (nI_clamp (n := q * 56 + k) (by omega)))) ?_
      refine k_iast (q := 56) (w2 := (wM a cy 0 q ln pt sg fi se (upd (mGet st sv q k) k (sv (q * 56 + k))) sv sl ik bf co go fo)) C 1 rfl (vp_in_nI (n := k) (by omega) (by decide)) (by rw [nI_clamp (n := k) (by omega)]; rfl) dX4_undo_55 rfl ?_
      refine k_w (w2 := (wM a cy 0 q ln pt sg fi se (mGet st sv q (k + 1)) sv sl ik bf co go fo)) (by rw [mGet_s]) ?_
      refine k_iinc (q := 59) (v := nI (k + 1)) (fr2 := [(1, .int (nI (k + 1))), (0, .ref (a 0))]) C 1 dX4_undo_56 rfl (nI_add k 1) (by decide) rfl rfl ?_
      refine k_goto (q := 30) C dX4_undo_59 (by decide) ?_
      refine k_fr (fr2 := [(0, .ref (a 0)), (1, .int (nI (k + 1)))]) ⟨[1, 0], rfl⟩ ?_
      exact ih (k + 1) q (by omega) (by omega) hq
set_option maxHeartbeats 4000000 in
set_option maxRecDepth 100000 in
theorem c_X4_undo (cy : Nat → ClassId) (a : Nat → Nat) (th : Int32) (sm : Nat) (ln : Nat) (pt : Nat) (sg : Nat) (fi : Int32) (se : Int32) (st : Nat → Int32) (sv : Nat → Int32) (sl : Nat → Int32) (ik : Nat → Int32) (bf : Nat → Nat) (co : Nat → Int32) (go : Nat → Int32) (fo : Nat → Int32)  (hs : 0 < sm) (hs6 : sm ≤ 6) : kI yX4_undo wsX4_undo rm_X4_undo cy [.ref (a 0)] (wM a cy th sm ln pt sg fi se st sv sl ik bf co go fo) (nI (sm - 1)) (wM a cy 0 (sm - 1) ln pt sg fi se (mGet st sv (sm - 1) 56) sv sl ik bf co go fo) := by
  refine kI_of (cc := cX4_undo) (maxL := 2) (rt := .int) (by decide) rfl (rfl) (Nat.le_of_ble_eq_true rfl) ?_
  intro X hR C E
  have C : kC X 2 RX4 cX4_undo wsX4_undo cy := C
  refine k_fr (fr2 := [(0, .ref (a 0))]) ⟨[0], rfl⟩ ?_
  refine k_aload_n (q := 1) C 0 dX4_undo_0 rfl rfl ?_
  refine k_iconst (q := 2) (v := 0) C dX4_undo_1 (by decide) rfl ?_
  refine k_put (q := 5) (ci := 4) (v := .int 0) (w2 := (wM a cy 0 sm ln pt sg fi se st sv sl ik bf co go fo)) C 0 0 in4_X4_undo rfl (List.mem_of_getElem? (i := 1) rfl) rfl tyX4 tyX4_ok nmX4 rfl (rfl) (rfl) rfl (by decide) (Nat.le_of_ble_eq_true rfl) (rfl) dX4_undo_2 rfl ?_
  refine k_aload_n (q := 6) C 0 dX4_undo_5 rfl rfl ?_
  refine k_get (q := 9) (ci := 4) (v := .int (nI sm)) C 0 3 in4_X4_undo rfl (List.mem_of_getElem? (i := 2) rfl) rfl rfl (by decide) rfl dX4_undo_6 rfl ?_
  refine k_nif_ne (a := sm)  (tgt := 18) (q := 12) C dX4_undo_9 (by decide) rfl (by omega) ?_ ?_
  · intro c_9
    refine k_aload_n (q := 19) C 0 dX4_undo_18 rfl rfl ?_
    refine k_dup (q := 20) C dX4_undo_19 rfl rfl ?_
    refine k_get (q := 23) (ci := 4) (v := .int (nI sm)) C 0 3 in4_X4_undo rfl (List.mem_of_getElem? (i := 2) rfl) rfl rfl (by decide) rfl dX4_undo_20 rfl ?_
    refine k_iconst (q := 24) (v := 1) C dX4_undo_23 (by decide) rfl ?_
    refine k_isub (q := 25) C dX4_undo_24 rfl ?_
    refine k_st (st2 := (.int (nI (sm - 1)) :: _)) (congrArg (fun z => Value.int z :: _) (show (nI sm) - 1 = nI (sm - 1) from pk_sub (a := sm) (b := 1) (by omega))) ?_
    refine k_put (q := 28) (ci := 4) (v := .int (nI (sm - 1))) (w2 := (wM a cy 0 (sm - 1) ln pt sg fi se st sv sl ik bf co go fo)) C 0 3 in4_X4_undo rfl (List.mem_of_getElem? (i := 2) rfl) rfl tyX4 tyX4_ok nmX4 rfl (rfl) (rfl) rfl (by decide) (Nat.le_of_ble_eq_true rfl) (rfl) dX4_undo_25 rfl ?_
    refine k_iconst (q := 29) (v := 0) C dX4_undo_28 (by decide) rfl ?_
    refine k_istore_n (q := 30) (fr2 := [(1, .int 0), (0, .ref (a 0))]) C dX4_undo_29 (by decide) rfl rfl ?_
    refine k_fr (fr2 := [(0, .ref (a 0)), (1, .int 0)]) ⟨[1, 0], rfl⟩ ?_
    have K := lp_X4_undo_30 cy a th sm ln pt sg fi se st sv sl ik bf co go fo hs hs6 X hR C E _ 0 (sm - 1) (Nat.lt_succ_self _) (by omega) rfl
    rw [mGet_0] at K
    exact K
  · exact fun c_9 => absurd hs (by omega)
abbrev rm_X4_keep : Room := { frames := 1, cells := 0, slots := 0, locals := 22 }
theorem in4_X4_keep : ∀ w ∈ wsX40, w ∈ wsX4_keep := fun _ h => (List.mem_cons_of_mem _ (List.mem_append_right _ h))
set_option maxHeartbeats 4000000 in
set_option maxRecDepth 100000 in
theorem c_X4_keep_e (cy : Nat → ClassId) (a : Nat → Nat) (th : Int32) (sm : Nat) (ln : Nat) (pt : Nat) (sg : Nat) (fi : Int32) (se : Int32) (st : Nat → Int32) (sv : Nat → Int32) (sl : Nat → Int32) (ik : Nat → Int32) (bf : Nat → Nat) (co : Nat → Int32) (go : Nat → Int32) (fo : Nat → Int32) (x : Int32)  (hx : ¬ (0 ≤ x ∧ x ≤ 1)) : kI yX4_keep wsX4_keep rm_X4_keep cy [.ref (a 0), .int x] (wM a cy th sm ln pt sg fi se st sv sl ik bf co go fo) 0 (wM a cy 1 sm ln pt sg fi se st sv sl ik bf co go fo) := by
  refine kI_of (cc := cX4_keep) (maxL := 3) (rt := .int) (by decide) rfl (rfl) (Nat.le_of_ble_eq_true rfl) ?_
  intro X hR C E
  have C : kC X 3 RX4 cX4_keep wsX4_keep cy := C
  refine k_fr (fr2 := [(0, .ref (a 0)), (1, .int x)]) ⟨[0, 1], rfl⟩ ?_
  refine k_aload_n (q := 1) C 0 dX4_keep_0 rfl rfl ?_
  refine k_iconst (q := 2) (v := 0) C dX4_keep_1 (by decide) rfl ?_
  refine k_put (q := 5) (ci := 4) (v := .int 0) (w2 := (wM a cy 0 sm ln pt sg fi se st sv sl ik bf co go fo)) C 0 0 in4_X4_keep rfl (List.mem_of_getElem? (i := 1) rfl) rfl tyX4 tyX4_ok nmX4 rfl (rfl) (rfl) rfl (by decide) (Nat.le_of_ble_eq_true rfl) (rfl) dX4_keep_2 rfl ?_
  refine k_iload_n (q := 6) C 1 dX4_keep_5 rfl rfl ?_
  refine k_iconst (q := 7) (v := 0) C dX4_keep_6 (by decide) rfl ?_
  refine k_iconst (q := 8) (v := 1) C dX4_keep_7 (by decide) rfl ?_
  refine k_callSI (n := 3) (q := 11) (pre := ([] : va_W)) (post := (wM a cy 0 sm ln pt sg fi se st sv sl ik bf co go fo)) (w2 := (wM a cy 0 sm ln pt sg fi se st sv sl ik bf co go fo)) (As := [.int x, .int 0, .int 1]) (rest := []) C (c_X4_within x 0 1) gX4_keep_X4_within rfl rfl rfl (by decide +kernel) (k_room hR (by decide)) ⟨Nat.zero_le _, Nat.zero_le _⟩  rfl rfl (Nat.le_of_ble_eq_true rfl) (rfl) (rfl) dX4_keep_8 rfl ?_
  refine k_ifB_ne (tgt := 20) (q := 14) C dX4_keep_11 (by decide) rfl ?_ ?_
  · exact fun c_11 => absurd c_11 hx
  · intro c_11
    refine k_aload_n (q := 15) C 0 dX4_keep_14 rfl rfl ?_
    refine k_iconst (q := 16) (v := 1) C dX4_keep_15 (by decide) rfl ?_
    refine k_callVI (n := 1) (q := 19) (pre := ([] : va_W)) (post := ([] : va_W)) (w2 := (wM a cy 1 sm ln pt sg fi se st sv sl ik bf co go fo)) (As := [.int 1]) (rest := []) C (c_X4_fails_r cy a 0 sm ln pt sg fi se st sv sl ik bf co go fo 1) gX4_keep_X4_fails rfl rfl rfl (by decide +kernel) (k_room hR (by decide)) ⟨Nat.zero_le _, Nat.zero_le _⟩ (ci := 4) rfl 0 rfl rfl rfl (Nat.le_of_ble_eq_true rfl) ((List.append_nil _).symm) (List.append_nil _) dX4_keep_16 rfl ?_
    exact k_fin E dX4_keep_19 (rfl) (rfl)
set_option maxHeartbeats 4000000 in
set_option maxRecDepth 100000 in
theorem lp_X4_keep_22 (cy : Nat → ClassId) (a : Nat → Nat) (th : Int32) (sm : Nat) (ln : Nat) (pt : Nat) (sg : Nat) (fi : Int32) (se : Int32) (st : Nat → Int32) (sv : Nat → Int32) (sl : Nat → Int32) (ik : Nat → Int32) (bf : Nat → Nat) (co : Nat → Int32) (go : Nat → Int32) (fo : Nat → Int32) (j : Nat)  (hj : j < 2) (X : kX) (hR : xR X = rm_X4_keep) (C : kC X 3 RX4 cX4_keep wsX4_keep cy) (E : kEnd X 3 cX4_keep (st 8) (wM a cy 0 sm ln pt sg fi se st sv (mPut sl st j 56) (upd ik j 1) bf co go fo)) : ∀ (fu : Nat) (k : Nat), 56 - k < fu → (k ≤ 56) → kG X 3 0 0 (wM a cy 0 sm ln pt sg fi se st sv (mPut sl st j k) ik bf co go fo) 22 [(0, .ref (a 0)), (1, .int (nI j)), (2, .int (nI k))] [] := by
  intro fu
  induction fu with
  | zero => intro k hfu; exact absurd hfu (Nat.not_lt_zero _)
  | succ fu ih =>
    intro k hfu hk
    refine k_iload_n (q := 23) C 2 dX4_keep_22 rfl rfl ?_
    refine k_bipush (q := 25) (v := 56) C dX4_keep_23 (by decide +kernel) rfl ?_
    refine k_nicmp_ge (a := k) (b := 56)  (tgt := 51) (q := 28) C dX4_keep_25 (by decide) rfl (by omega) (by decide) ?_ ?_
    · intro c_25
      have hke : k = 56 := by omega
      obtain rfl : k = 56 := hke
      refine k_aload_n (q := 52) C 0 dX4_keep_51 rfl rfl ?_
      refine k_get (q := 55) (ci := 4) (v := .ref (a 4)) C 0 5 in4_X4_keep rfl (List.mem_of_getElem? (i := 4) rfl) rfl rfl (by decide) rfl dX4_keep_52 rfl ?_
      refine k_iload_n (q := 56) C 1 dX4_keep_55 rfl rfl ?_
      refine k_iconst (q := 57) (v := 1) C dX4_keep_56 (by decide) rfl ?_
      refine k_iast (q := 58) (w2 := (wM a cy 0 sm ln pt sg fi se st sv (mPut sl st j 56) (upd ik j 1) bf co go fo)) C 4 rfl (vp_in_nI (n := j) (by omega) (by decide)) (by rw [nI_clamp (n := j) (by omega)]; rfl) dX4_keep_57 rfl ?_
      refine k_aload_n (q := 59) C 0 dX4_keep_58 rfl rfl ?_
      refine k_get (q := 62) (ci := 4) (v := .ref (a 1)) C 0 1 in4_X4_keep rfl (List.mem_of_getElem? (i := 3) rfl) rfl rfl (by decide) rfl dX4_keep_59 rfl ?_
      refine k_bipush (q := 64) (v := 8) C dX4_keep_62 (by decide +kernel) rfl ?_
      refine k_iald (q := 65) C 1 rfl (vp_in_nI (n := 8) (by decide) (by decide)) dX4_keep_64 rfl ?_
      refine k_st (st2 := (.int (st 8) :: _)) (congrArg (fun z => Value.int z :: _) (show st (8 : Int32).toNatClampNeg = st 8 from congrArg st (nI_clamp (n := 8) (by decide)))) ?_
      exact k_fin E dX4_keep_65 (rfl) (rfl)
    · intro c_25
      refine k_aload_n (q := 29) C 0 dX4_keep_28 rfl rfl ?_
      refine k_get (q := 32) (ci := 4) (v := .ref (a 3)) C 0 4 in4_X4_keep rfl (List.mem_of_getElem? (i := 2) rfl) rfl rfl (by decide) rfl dX4_keep_29 rfl ?_
      refine k_iload_n (q := 33) C 1 dX4_keep_32 rfl rfl ?_
      refine k_bipush (q := 35) (v := 56) C dX4_keep_33 (by decide +kernel) rfl ?_
      refine k_imul (q := 36) C dX4_keep_35 rfl ?_
      refine k_st (st2 := (.int (nI (j * 56)) :: _)) (congrArg (fun z => Value.int z :: _) (show (nI j) * 56 = nI (j * 56) from pk_mul j 56)) ?_
      refine k_iload_n (q := 37) C 2 dX4_keep_36 rfl rfl ?_
      refine k_iadd (q := 38) C dX4_keep_37 rfl ?_
      refine k_st (st2 := (.int (nI (j * 56 + k)) :: _)) (congrArg (fun z => Value.int z :: _) (show (nI (j * 56)) + (nI k) = nI (j * 56 + k) from nI_add (j * 56) k)) ?_
      refine k_aload_n (q := 39) C 0 dX4_keep_38 rfl rfl ?_
      refine k_get (q := 42) (ci := 4) (v := .ref (a 1)) C 0 1 in4_X4_keep rfl (List.mem_of_getElem? (i := 3) rfl) rfl rfl (by decide) rfl dX4_keep_39 rfl ?_
      refine k_iload_n (q := 43) C 2 dX4_keep_42 rfl rfl ?_
      refine k_iald (q := 44) C 1 rfl (vp_in_nI (n := k) (by omega) (by decide)) dX4_keep_43 rfl ?_
      refine k_st (st2 := (.int (st k) :: _)) (congrArg (fun z => Value.int z :: _) (show st (nI k).toNatClampNeg = st k from congrArg st (nI_clamp (n := k) (by omega)))) ?_
      refine k_iast (q := 45) (w2 := (wM a cy 0 sm ln pt sg fi se st sv (upd (mPut sl st j k) (j * 56 + k) (st k)) ik bf co go fo)) C 3 rfl (vp_in_nI (n := j * 56 + k) (by omega) (by decide)) (by rw [nI_clamp (n := j * 56 + k) (by omega)]; rfl) dX4_keep_44 rfl ?_
      refine k_w (w2 := (wM a cy 0 sm ln pt sg fi se st sv (mPut sl st j (k + 1)) ik bf co go fo)) (by rw [mPut_s]) ?_
      refine k_iinc (q := 48) (v := nI (k + 1)) (fr2 := [(2, .int (nI (k + 1))), (0, .ref (a 0)), (1, .int (nI j))]) C 2 dX4_keep_45 rfl (nI_add k 1) (by decide) rfl rfl ?_
      refine k_goto (q := 22) C dX4_keep_48 (by decide) ?_
      refine k_fr (fr2 := [(0, .ref (a 0)), (1, .int (nI j)), (2, .int (nI (k + 1)))]) ⟨[1, 2, 0], rfl⟩ ?_
      exact ih (k + 1) (by omega) (by omega)
set_option maxHeartbeats 4000000 in
set_option maxRecDepth 100000 in
theorem c_X4_keep (cy : Nat → ClassId) (a : Nat → Nat) (th : Int32) (sm : Nat) (ln : Nat) (pt : Nat) (sg : Nat) (fi : Int32) (se : Int32) (st : Nat → Int32) (sv : Nat → Int32) (sl : Nat → Int32) (ik : Nat → Int32) (bf : Nat → Nat) (co : Nat → Int32) (go : Nat → Int32) (fo : Nat → Int32) (j : Nat)  (hj : j < 2) : kI yX4_keep wsX4_keep rm_X4_keep cy [.ref (a 0), .int (nI j)] (wM a cy th sm ln pt sg fi se st sv sl ik bf co go fo) (st 8) (wM a cy 0 sm ln pt sg fi se st sv (mPut sl st j 56) (upd ik j 1) bf co go fo) := by
  refine kI_of (cc := cX4_keep) (maxL := 3) (rt := .int) (by decide) rfl (rfl) (Nat.le_of_ble_eq_true rfl) ?_
  intro X hR C E
  have C : kC X 3 RX4 cX4_keep wsX4_keep cy := C
  refine k_fr (fr2 := [(0, .ref (a 0)), (1, .int (nI j))]) ⟨[0, 1], rfl⟩ ?_
  refine k_aload_n (q := 1) C 0 dX4_keep_0 rfl rfl ?_
  refine k_iconst (q := 2) (v := 0) C dX4_keep_1 (by decide) rfl ?_
  refine k_put (q := 5) (ci := 4) (v := .int 0) (w2 := (wM a cy 0 sm ln pt sg fi se st sv sl ik bf co go fo)) C 0 0 in4_X4_keep rfl (List.mem_of_getElem? (i := 1) rfl) rfl tyX4 tyX4_ok nmX4 rfl (rfl) (rfl) rfl (by decide) (Nat.le_of_ble_eq_true rfl) (rfl) dX4_keep_2 rfl ?_
  refine k_iload_n (q := 6) C 1 dX4_keep_5 rfl rfl ?_
  refine k_iconst (q := 7) (v := 0) C dX4_keep_6 (by decide) rfl ?_
  refine k_iconst (q := 8) (v := 1) C dX4_keep_7 (by decide) rfl ?_
  refine k_callSI (n := 3) (q := 11) (pre := ([] : va_W)) (post := (wM a cy 0 sm ln pt sg fi se st sv sl ik bf co go fo)) (w2 := (wM a cy 0 sm ln pt sg fi se st sv sl ik bf co go fo)) (As := [.int (nI j), .int 0, .int 1]) (rest := []) C (c_X4_within (nI j) 0 1) gX4_keep_X4_within rfl rfl rfl (by decide +kernel) (k_room hR (by decide)) ⟨Nat.zero_le _, Nat.zero_le _⟩  rfl rfl (Nat.le_of_ble_eq_true rfl) (rfl) (rfl) dX4_keep_8 rfl ?_
  refine k_ifB_ne (tgt := 20) (q := 14) C dX4_keep_11 (by decide) rfl ?_ ?_
  · intro c_11
    refine k_iconst (q := 21) (v := 0) C dX4_keep_20 (by decide) rfl ?_
    refine k_istore_n (q := 22) (fr2 := [(2, .int 0), (0, .ref (a 0)), (1, .int (nI j))]) C dX4_keep_21 (by decide) rfl rfl ?_
    refine k_fr (fr2 := [(0, .ref (a 0)), (1, .int (nI j)), (2, .int 0)]) ⟨[1, 2, 0], rfl⟩ ?_
    have K := lp_X4_keep_22 cy a th sm ln pt sg fi se st sv sl ik bf co go fo j hj X hR C E _ 0 (Nat.lt_succ_self _) (by omega)
    rw [mPut_0] at K
    exact K
  · exact fun c_11 => absurd (mSlot hj) c_11
abbrev rm_X4_goBack : Room := { frames := 1, cells := 0, slots := 0, locals := 22 }
theorem in4_X4_goBack : ∀ w ∈ wsX40, w ∈ wsX4_goBack := fun _ h => (List.mem_cons_of_mem _ (List.mem_append_right _ h))
set_option maxHeartbeats 4000000 in
set_option maxRecDepth 100000 in
theorem c_X4_goBack_e (cy : Nat → ClassId) (a : Nat → Nat) (th : Int32) (sm : Nat) (ln : Nat) (pt : Nat) (sg : Nat) (fi : Int32) (se : Int32) (st : Nat → Int32) (sv : Nat → Int32) (sl : Nat → Int32) (ik : Nat → Int32) (bf : Nat → Nat) (co : Nat → Int32) (go : Nat → Int32) (fo : Nat → Int32) (x : Int32)  (hx : ¬ (0 ≤ x ∧ x ≤ 1)) : kI yX4_goBack wsX4_goBack rm_X4_goBack cy [.ref (a 0), .int x] (wM a cy th sm ln pt sg fi se st sv sl ik bf co go fo) 0 (wM a cy 1 sm ln pt sg fi se st sv sl ik bf co go fo) := by
  refine kI_of (cc := cX4_goBack) (maxL := 3) (rt := .int) (by decide) rfl (rfl) (Nat.le_of_ble_eq_true rfl) ?_
  intro X hR C E
  have C : kC X 3 RX4 cX4_goBack wsX4_goBack cy := C
  refine k_fr (fr2 := [(0, .ref (a 0)), (1, .int x)]) ⟨[0, 1], rfl⟩ ?_
  refine k_aload_n (q := 1) C 0 dX4_goBack_0 rfl rfl ?_
  refine k_iconst (q := 2) (v := 0) C dX4_goBack_1 (by decide) rfl ?_
  refine k_put (q := 5) (ci := 4) (v := .int 0) (w2 := (wM a cy 0 sm ln pt sg fi se st sv sl ik bf co go fo)) C 0 0 in4_X4_goBack rfl (List.mem_of_getElem? (i := 1) rfl) rfl tyX4 tyX4_ok nmX4 rfl (rfl) (rfl) rfl (by decide) (Nat.le_of_ble_eq_true rfl) (rfl) dX4_goBack_2 rfl ?_
  refine k_iload_n (q := 6) C 1 dX4_goBack_5 rfl rfl ?_
  refine k_iconst (q := 7) (v := 0) C dX4_goBack_6 (by decide) rfl ?_
  refine k_iconst (q := 8) (v := 1) C dX4_goBack_7 (by decide) rfl ?_
  refine k_callSI (n := 3) (q := 11) (pre := ([] : va_W)) (post := (wM a cy 0 sm ln pt sg fi se st sv sl ik bf co go fo)) (w2 := (wM a cy 0 sm ln pt sg fi se st sv sl ik bf co go fo)) (As := [.int x, .int 0, .int 1]) (rest := []) C (c_X4_within x 0 1) gX4_goBack_X4_within rfl rfl rfl (by decide +kernel) (k_room hR (by decide)) ⟨Nat.zero_le _, Nat.zero_le _⟩  rfl rfl (Nat.le_of_ble_eq_true rfl) (rfl) (rfl) dX4_goBack_8 rfl ?_
  refine k_ifB_ne (tgt := 20) (q := 14) C dX4_goBack_11 (by decide) rfl ?_ ?_
  · exact fun c_11 => absurd c_11 hx
  · intro c_11
    refine k_aload_n (q := 15) C 0 dX4_goBack_14 rfl rfl ?_
    refine k_iconst (q := 16) (v := 1) C dX4_goBack_15 (by decide) rfl ?_
    refine k_callVI (n := 1) (q := 19) (pre := ([] : va_W)) (post := ([] : va_W)) (w2 := (wM a cy 1 sm ln pt sg fi se st sv sl ik bf co go fo)) (As := [.int 1]) (rest := []) C (c_X4_fails_r cy a 0 sm ln pt sg fi se st sv sl ik bf co go fo 1) gX4_goBack_X4_fails rfl rfl rfl (by decide +kernel) (k_room hR (by decide)) ⟨Nat.zero_le _, Nat.zero_le _⟩ (ci := 4) rfl 0 rfl rfl rfl (Nat.le_of_ble_eq_true rfl) ((List.append_nil _).symm) (List.append_nil _) dX4_goBack_16 rfl ?_
    exact k_fin E dX4_goBack_19 (rfl) (rfl)
set_option maxHeartbeats 4000000 in
set_option maxRecDepth 100000 in
theorem c_X4_goBack_e2 (cy : Nat → ClassId) (a : Nat → Nat) (th : Int32) (sm : Nat) (ln : Nat) (pt : Nat) (sg : Nat) (fi : Int32) (se : Int32) (st : Nat → Int32) (sv : Nat → Int32) (sl : Nat → Int32) (ik : Nat → Int32) (bf : Nat → Nat) (co : Nat → Int32) (go : Nat → Int32) (fo : Nat → Int32) (j : Nat)  (hj : j < 2) (hi : ik j = 0) : kI yX4_goBack wsX4_goBack rm_X4_goBack cy [.ref (a 0), .int (nI j)] (wM a cy th sm ln pt sg fi se st sv sl ik bf co go fo) 0 (wM a cy 2 sm ln pt sg fi se st sv sl ik bf co go fo) := by
  refine kI_of (cc := cX4_goBack) (maxL := 3) (rt := .int) (by decide) rfl (rfl) (Nat.le_of_ble_eq_true rfl) ?_
  intro X hR C E
  have C : kC X 3 RX4 cX4_goBack wsX4_goBack cy := C
  refine k_fr (fr2 := [(0, .ref (a 0)), (1, .int (nI j))]) ⟨[0, 1], rfl⟩ ?_
  refine k_aload_n (q := 1) C 0 dX4_goBack_0 rfl rfl ?_
  refine k_iconst (q := 2) (v := 0) C dX4_goBack_1 (by decide) rfl ?_
  refine k_put (q := 5) (ci := 4) (v := .int 0) (w2 := (wM a cy 0 sm ln pt sg fi se st sv sl ik bf co go fo)) C 0 0 in4_X4_goBack rfl (List.mem_of_getElem? (i := 1) rfl) rfl tyX4 tyX4_ok nmX4 rfl (rfl) (rfl) rfl (by decide) (Nat.le_of_ble_eq_true rfl) (rfl) dX4_goBack_2 rfl ?_
  refine k_iload_n (q := 6) C 1 dX4_goBack_5 rfl rfl ?_
  refine k_iconst (q := 7) (v := 0) C dX4_goBack_6 (by decide) rfl ?_
  refine k_iconst (q := 8) (v := 1) C dX4_goBack_7 (by decide) rfl ?_
  refine k_callSI (n := 3) (q := 11) (pre := ([] : va_W)) (post := (wM a cy 0 sm ln pt sg fi se st sv sl ik bf co go fo)) (w2 := (wM a cy 0 sm ln pt sg fi se st sv sl ik bf co go fo)) (As := [.int (nI j), .int 0, .int 1]) (rest := []) C (c_X4_within (nI j) 0 1) gX4_goBack_X4_within rfl rfl rfl (by decide +kernel) (k_room hR (by decide)) ⟨Nat.zero_le _, Nat.zero_le _⟩  rfl rfl (Nat.le_of_ble_eq_true rfl) (rfl) (rfl) dX4_goBack_8 rfl ?_
  refine k_ifB_ne (tgt := 20) (q := 14) C dX4_goBack_11 (by decide) rfl ?_ ?_
  · intro c_11
    refine k_aload_n (q := 21) C 0 dX4_goBack_20 rfl rfl ?_
    refine k_get (q := 24) (ci := 4) (v := .ref (a 4)) C 0 5 in4_X4_goBack rfl (List.mem_of_getElem? (i := 2) rfl) rfl rfl (by decide) rfl dX4_goBack_21 rfl ?_
    refine k_iload_n (q := 25) C 1 dX4_goBack_24 rfl rfl ?_
    refine k_iald (q := 26) C 4 rfl (vp_in_nI (n := j) (by omega) (by decide)) dX4_goBack_25 rfl ?_
    refine k_st (st2 := (.int (ik j) :: _)) (congrArg (fun z => Value.int z :: _) (show ik (nI j).toNatClampNeg = ik j from congrArg ik (nI_clamp (n := j) (by omega)))) ?_
    refine k_if_ne (tgt := 35) (q := 29) C dX4_goBack_26 (by decide) rfl ?_ ?_
    · exact fun c_26 => absurd hi c_26
    · intro c_26
      refine k_aload_n (q := 30) C 0 dX4_goBack_29 rfl rfl ?_
      refine k_iconst (q := 31) (v := 2) C dX4_goBack_30 (by decide) rfl ?_
      refine k_callVI (n := 1) (q := 34) (pre := ([] : va_W)) (post := ([] : va_W)) (w2 := (wM a cy 2 sm ln pt sg fi se st sv sl ik bf co go fo)) (As := [.int 2]) (rest := []) C (c_X4_fails_r cy a 0 sm ln pt sg fi se st sv sl ik bf co go fo 2) gX4_goBack_X4_fails rfl rfl rfl (by decide +kernel) (k_room hR (by decide)) ⟨Nat.zero_le _, Nat.zero_le _⟩ (ci := 4) rfl 0 rfl rfl rfl (Nat.le_of_ble_eq_true rfl) ((List.append_nil _).symm) (List.append_nil _) dX4_goBack_31 rfl ?_
      exact k_fin E dX4_goBack_34 (rfl) (rfl)
  · exact fun c_11 => absurd (mSlot hj) c_11
set_option maxHeartbeats 4000000 in
set_option maxRecDepth 100000 in
theorem lp_X4_goBack_41 (cy : Nat → ClassId) (a : Nat → Nat) (th : Int32) (sm : Nat) (ln : Nat) (pt : Nat) (sg : Nat) (fi : Int32) (se : Int32) (st : Nat → Int32) (sv : Nat → Int32) (sl : Nat → Int32) (ik : Nat → Int32) (bf : Nat → Nat) (co : Nat → Int32) (go : Nat → Int32) (fo : Nat → Int32) (j : Nat)  (hj : j < 2) (hi : ¬ ik j = 0) (hs : sm ≤ 6) (X : kX) (hR : xR X = rm_X4_goBack) (C : kC X 3 RX4 cX4_goBack wsX4_goBack cy) (E : kEnd X 3 cX4_goBack (mGet st sl j 56 8) (wM a cy 0 (min (sm + 1) 6) ln pt sg fi se (mGet st sl j 56) (mSave sv st sm) sl ik bf co go fo)) : ∀ (fu : Nat) (k : Nat), 56 - k < fu → (k ≤ 56) → kG X 3 0 0 (wM a cy 0 (min (sm + 1) 6) ln pt sg fi se (mGet st sl j k) (mSave sv st sm) sl ik bf co go fo) 41 [(0, .ref (a 0)), (1, .int (nI j)), (2, .int (nI k))] [] := by
  intro fu
  induction fu with
  | zero => intro k hfu; exact absurd hfu (Nat.not_lt_zero _)
  | succ fu ih =>
    intro k hfu hk
    refine k_iload_n (q := 42) C 2 dX4_goBack_41 rfl rfl ?_
    refine k_bipush (q := 44) (v := 56) C dX4_goBack_42 (by decide +kernel) rfl ?_
    refine k_nicmp_ge (a := k) (b := 56)  (tgt := 70) (q := 47) C dX4_goBack_44 (by decide) rfl (by omega) (by decide) ?_ ?_
    · intro c_44
      have hke : k = 56 := by omega
      obtain rfl : k = 56 := hke
      refine k_aload_n (q := 71) C 0 dX4_goBack_70 rfl rfl ?_
      refine k_get (q := 74) (ci := 4) (v := .ref (a 1)) C 0 1 in4_X4_goBack rfl (List.mem_of_getElem? (i := 3) rfl) rfl rfl (by decide) rfl dX4_goBack_71 rfl ?_
      refine k_bipush (q := 76) (v := 8) C dX4_goBack_74 (by decide +kernel) rfl ?_
      refine k_iald (q := 77) C 1 rfl (vp_in_nI (n := 8) (by decide) (by decide)) dX4_goBack_76 rfl ?_
      refine k_st (st2 := (.int ((mGet st sl j 56) 8) :: _)) (congrArg (fun z => Value.int z :: _) (show (mGet st sl j 56) (8 : Int32).toNatClampNeg = (mGet st sl j 56) 8 from congrArg (mGet st sl j 56) (nI_clamp (n := 8) (by decide)))) ?_
      exact k_fin E dX4_goBack_77 (rfl) (rfl)
    · intro c_44
      refine k_aload_n (q := 48) C 0 dX4_goBack_47 rfl rfl ?_
      refine k_get (q := 51) (ci := 4) (v := .ref (a 1)) C 0 1 in4_X4_goBack rfl (List.mem_of_getElem? (i := 3) rfl) rfl rfl (by decide) rfl dX4_goBack_48 rfl ?_
      refine k_iload_n (q := 52) C 2 dX4_goBack_51 rfl rfl ?_
      refine k_aload_n (q := 53) C 0 dX4_goBack_52 rfl rfl ?_
      refine k_get (q := 56) (ci := 4) (v := .ref (a 3)) C 0 4 in4_X4_goBack rfl (List.mem_of_getElem? (i := 4) rfl) rfl rfl (by decide) rfl dX4_goBack_53 rfl ?_
      refine k_iload_n (q := 57) C 1 dX4_goBack_56 rfl rfl ?_
      refine k_bipush (q := 59) (v := 56) C dX4_goBack_57 (by decide +kernel) rfl ?_
      refine k_imul (q := 60) C dX4_goBack_59 rfl ?_
      refine k_st (st2 := (.int (nI (j * 56)) :: _)) (congrArg (fun z => Value.int z :: _) (show (nI j) * 56 = nI (j * 56) from pk_mul j 56)) ?_
      refine k_iload_n (q := 61) C 2 dX4_goBack_60 rfl rfl ?_
      refine k_iadd (q := 62) C dX4_goBack_61 rfl ?_
      refine k_st (st2 := (.int (nI (j * 56 + k)) :: _)) (congrArg (fun z => Value.int z :: _) (show (nI (j * 56)) + (nI k) = nI (j * 56 + k) from nI_add (j * 56) k)) ?_
      refine k_iald (q := 63) C 3 rfl (vp_in_nI (n := j * 56 + k) (by omega) (by decide)) dX4_goBack_62 rfl ?_
      refine k_st (st2 := (.int (sl (j * 56 + k)) :: _)) (congrArg (fun z => Value.int z :: _) (show sl (nI (j * 56 + k)).toNatClampNeg = sl (j * 56 + k) from congrArg sl (nI_clamp (n := j * 56 + k) (by omega)))) ?_
      refine k_iast (q := 64) (w2 := (wM a cy 0 (min (sm + 1) 6) ln pt sg fi se (upd (mGet st sl j k) k (sl (j * 56 + k))) (mSave sv st sm) sl ik bf co go fo)) C 1 rfl (vp_in_nI (n := k) (by omega) (by decide)) (by rw [nI_clamp (n := k) (by omega)]; rfl) dX4_goBack_63 rfl ?_
      refine k_w (w2 := (wM a cy 0 (min (sm + 1) 6) ln pt sg fi se (mGet st sl j (k + 1)) (mSave sv st sm) sl ik bf co go fo)) (by rw [mGet_s]) ?_
      refine k_iinc (q := 67) (v := nI (k + 1)) (fr2 := [(2, .int (nI (k + 1))), (0, .ref (a 0)), (1, .int (nI j))]) C 2 dX4_goBack_64 rfl (nI_add k 1) (by decide) rfl rfl ?_
      refine k_goto (q := 41) C dX4_goBack_67 (by decide) ?_
      refine k_fr (fr2 := [(0, .ref (a 0)), (1, .int (nI j)), (2, .int (nI (k + 1)))]) ⟨[1, 2, 0], rfl⟩ ?_
      exact ih (k + 1) (by omega) (by omega)
set_option maxHeartbeats 4000000 in
set_option maxRecDepth 100000 in
theorem c_X4_goBack (cy : Nat → ClassId) (a : Nat → Nat) (th : Int32) (sm : Nat) (ln : Nat) (pt : Nat) (sg : Nat) (fi : Int32) (se : Int32) (st : Nat → Int32) (sv : Nat → Int32) (sl : Nat → Int32) (ik : Nat → Int32) (bf : Nat → Nat) (co : Nat → Int32) (go : Nat → Int32) (fo : Nat → Int32) (j : Nat)  (hj : j < 2) (hi : ¬ ik j = 0) (hs : sm ≤ 6) : kI yX4_goBack wsX4_goBack rm_X4_goBack cy [.ref (a 0), .int (nI j)] (wM a cy th sm ln pt sg fi se st sv sl ik bf co go fo) (mGet st sl j 56 8) (wM a cy 0 (min (sm + 1) 6) ln pt sg fi se (mGet st sl j 56) (mSave sv st sm) sl ik bf co go fo) := by
  refine kI_of (cc := cX4_goBack) (maxL := 3) (rt := .int) (by decide) rfl (rfl) (Nat.le_of_ble_eq_true rfl) ?_
  intro X hR C E
  have C : kC X 3 RX4 cX4_goBack wsX4_goBack cy := C
  refine k_fr (fr2 := [(0, .ref (a 0)), (1, .int (nI j))]) ⟨[0, 1], rfl⟩ ?_
  refine k_aload_n (q := 1) C 0 dX4_goBack_0 rfl rfl ?_
  refine k_iconst (q := 2) (v := 0) C dX4_goBack_1 (by decide) rfl ?_
  refine k_put (q := 5) (ci := 4) (v := .int 0) (w2 := (wM a cy 0 sm ln pt sg fi se st sv sl ik bf co go fo)) C 0 0 in4_X4_goBack rfl (List.mem_of_getElem? (i := 1) rfl) rfl tyX4 tyX4_ok nmX4 rfl (rfl) (rfl) rfl (by decide) (Nat.le_of_ble_eq_true rfl) (rfl) dX4_goBack_2 rfl ?_
  refine k_iload_n (q := 6) C 1 dX4_goBack_5 rfl rfl ?_
  refine k_iconst (q := 7) (v := 0) C dX4_goBack_6 (by decide) rfl ?_
  refine k_iconst (q := 8) (v := 1) C dX4_goBack_7 (by decide) rfl ?_
  refine k_callSI (n := 3) (q := 11) (pre := ([] : va_W)) (post := (wM a cy 0 sm ln pt sg fi se st sv sl ik bf co go fo)) (w2 := (wM a cy 0 sm ln pt sg fi se st sv sl ik bf co go fo)) (As := [.int (nI j), .int 0, .int 1]) (rest := []) C (c_X4_within (nI j) 0 1) gX4_goBack_X4_within rfl rfl rfl (by decide +kernel) (k_room hR (by decide)) ⟨Nat.zero_le _, Nat.zero_le _⟩  rfl rfl (Nat.le_of_ble_eq_true rfl) (rfl) (rfl) dX4_goBack_8 rfl ?_
  refine k_ifB_ne (tgt := 20) (q := 14) C dX4_goBack_11 (by decide) rfl ?_ ?_
  · intro c_11
    refine k_aload_n (q := 21) C 0 dX4_goBack_20 rfl rfl ?_
    refine k_get (q := 24) (ci := 4) (v := .ref (a 4)) C 0 5 in4_X4_goBack rfl (List.mem_of_getElem? (i := 2) rfl) rfl rfl (by decide) rfl dX4_goBack_21 rfl ?_
    refine k_iload_n (q := 25) C 1 dX4_goBack_24 rfl rfl ?_
    refine k_iald (q := 26) C 4 rfl (vp_in_nI (n := j) (by omega) (by decide)) dX4_goBack_25 rfl ?_
    refine k_st (st2 := (.int (ik j) :: _)) (congrArg (fun z => Value.int z :: _) (show ik (nI j).toNatClampNeg = ik j from congrArg ik (nI_clamp (n := j) (by omega)))) ?_
    refine k_if_ne (tgt := 35) (q := 29) C dX4_goBack_26 (by decide) rfl ?_ ?_
    · intro c_26
      refine k_aload_n (q := 36) C 0 dX4_goBack_35 rfl rfl ?_
      refine k_callVV (n := 0) (q := 39) (pre := ([] : va_W)) (post := ([] : va_W)) (w2 := (wM a cy 0 (min (sm + 1) 6) ln pt sg fi se st (mSave sv st sm) sl ik bf co go fo)) (As := []) (rest := []) C (c_X4_save cy a 0 sm ln pt sg fi se st sv sl ik bf co go fo (by omega)) gX4_goBack_X4_save rfl rfl rfl (by decide +kernel) (k_room hR (by decide)) ⟨Nat.zero_le _, Nat.zero_le _⟩ (ci := 4) rfl 0 rfl rfl rfl (Nat.le_of_ble_eq_true rfl) ((List.append_nil _).symm) (List.append_nil _) dX4_goBack_36 rfl ?_
      refine k_iconst (q := 40) (v := 0) C dX4_goBack_39 (by decide) rfl ?_
      refine k_istore_n (q := 41) (fr2 := [(2, .int 0), (0, .ref (a 0)), (1, .int (nI j))]) C dX4_goBack_40 (by decide) rfl rfl ?_
      refine k_fr (fr2 := [(0, .ref (a 0)), (1, .int (nI j)), (2, .int 0)]) ⟨[1, 2, 0], rfl⟩ ?_
      have K := lp_X4_goBack_41 cy a th sm ln pt sg fi se st sv sl ik bf co go fo j hj hi hs X hR C E _ 0 (Nat.lt_succ_self _) (by omega)
      rw [mGet_0] at K
      exact K
    · exact fun c_26 => absurd c_26 hi
  · exact fun c_11 => absurd (mSlot hj) c_11
abbrev rm_X4_placeAt : Room := { frames := 0, cells := 0, slots := 0, locals := 0 }
theorem in4_X4_placeAt : ∀ w ∈ wsX40, w ∈ wsX4_placeAt := fun _ h => (List.mem_cons_of_mem _ (List.mem_append_right _ h))
set_option maxHeartbeats 4000000 in
set_option maxRecDepth 100000 in
theorem c_X4_placeAt (cy : Nat → ClassId) (a : Nat → Nat) (th : Int32) (sm : Nat) (ln : Nat) (pt : Nat) (sg : Nat) (fi : Int32) (se : Int32) (n : Nat) (o : Nat → Int32) (h : Nat → Int32) (t : Nat → Int32) (s : Nat → Int32) (g : Nat → Int32) (kn : Nat) (lo : Int32) (lf : Int32) (nm : Nat → Int32) (sv : Nat → Int32) (sl : Nat → Int32) (ik : Nat → Int32) (bf : Nat → Nat) (co : Nat → Int32) (go : Nat → Int32) (fo : Nat → Int32) (j : Nat) (x : Int32)  (hj : j < 2) : kI yX4_placeAt wsX4_placeAt rm_X4_placeAt cy [.ref (a 0), .int (nI j), .int x] (wM a cy th sm ln pt sg fi se (mSt n o h t s g kn lo lf nm) sv sl ik bf co go fo) (sPlace g (nI j) (s j) x) (wM a cy th sm ln pt sg fi se (mSt n o h t s g kn lo lf nm) sv sl ik bf co go fo) := by
  refine kI_of (cc := cX4_placeAt) (maxL := 3) (rt := .int) (by decide) rfl (rfl) (Nat.le_of_ble_eq_true rfl) ?_
  intro X hR C E
  have C : kC X 3 RX4 cX4_placeAt wsX4_placeAt cy := C
  refine k_fr (fr2 := [(0, .ref (a 0)), (1, .int (nI j)), (2, .int x)]) ⟨[0, 1, 2], rfl⟩ ?_
  refine k_iload_n (q := 1) C 1 dX4_placeAt_0 rfl rfl ?_
  refine k_nif_ne (a := j)  (tgt := 8) (q := 4) C dX4_placeAt_1 (by decide) rfl (by omega) ?_ ?_
  · intro c_1
    refine k_aload_n (q := 9) C 0 dX4_placeAt_8 rfl rfl ?_
    refine k_get (q := 12) (ci := 4) (v := .ref (a 1)) C 0 1 in4_X4_placeAt rfl (List.mem_of_getElem? (i := 1) rfl) rfl rfl (by decide) rfl dX4_placeAt_9 rfl ?_
    refine k_iconst (q := 13) (v := 0) C dX4_placeAt_12 (by decide) rfl ?_
    refine k_iald (q := 14) C 1 rfl (vp_in_nI (n := 0) (by decide) (by decide)) dX4_placeAt_13 rfl ?_
    refine k_st (st2 := (.int ((mSt n o h t s g kn lo lf nm) 0) :: _)) (congrArg (fun z => Value.int z :: _) (show (mSt n o h t s g kn lo lf nm) (0 : Int32).toNatClampNeg = (mSt n o h t s g kn lo lf nm) 0 from congrArg (mSt n o h t s g kn lo lf nm) (nI_clamp (n := 0) (by decide)))) ?_
    refine k_st (st2 := (.int (g 0) :: _)) (congrArg (fun z => Value.int z :: _) (show (mSt n o h t s g kn lo lf nm) 0 = g 0 from mSt_g (k := 0) (by decide))) ?_
    refine k_aload_n (q := 15) C 0 dX4_placeAt_14 rfl rfl ?_
    refine k_get (q := 18) (ci := 4) (v := .ref (a 1)) C 0 1 in4_X4_placeAt rfl (List.mem_of_getElem? (i := 1) rfl) rfl rfl (by decide) rfl dX4_placeAt_15 rfl ?_
    refine k_iconst (q := 19) (v := 4) C dX4_placeAt_18 (by decide) rfl ?_
    refine k_iload_n (q := 20) C 1 dX4_placeAt_19 rfl rfl ?_
    refine k_iadd (q := 21) C dX4_placeAt_20 rfl ?_
    refine k_st (st2 := (.int (nI (4 + j)) :: _)) (congrArg (fun z => Value.int z :: _) (show 4 + (nI j) = nI (4 + j) from nI_add 4 j)) ?_
    refine k_iald (q := 22) C 1 rfl (vp_in_nI (n := 4 + j) (by omega) (by decide)) dX4_placeAt_21 rfl ?_
    refine k_st (st2 := (.int ((mSt n o h t s g kn lo lf nm) (4 + j)) :: _)) (congrArg (fun z => Value.int z :: _) (show (mSt n o h t s g kn lo lf nm) (nI (4 + j)).toNatClampNeg = (mSt n o h t s g kn lo lf nm) (4 + j) from congrArg (mSt n o h t s g kn lo lf nm) (nI_clamp (n := 4 + j) (by omega)))) ?_
    refine k_st (st2 := (.int (s j) :: _)) (congrArg (fun z => Value.int z :: _) (show (mSt n o h t s g kn lo lf nm) (4 + j) = s j from mSt_s (k := j) (by omega))) ?_
    refine k_iload_n (q := 23) C 2 dX4_placeAt_22 rfl rfl ?_
    refine k_imul (q := 24) C dX4_placeAt_23 rfl ?_
    refine k_bipush (q := 26) (v := 10) C dX4_placeAt_24 (by decide +kernel) rfl ?_
    refine k_idiv (q := 27) C dX4_placeAt_26 (by decide) rfl ?_
    refine k_iadd (q := 28) C dX4_placeAt_27 rfl ?_
    exact k_fin E dX4_placeAt_28 (by first | (rw [c_1]; rfl) | (unfold sPlace; rw [if_neg (nI_ne0 c_1 (by omega))])) (rfl)
  · intro c_1
    refine k_iconst (q := 5) (v := 0) C dX4_placeAt_4 (by decide) rfl ?_
    refine k_goto (q := 14) C dX4_placeAt_5 (by decide) ?_
    refine k_aload_n (q := 15) C 0 dX4_placeAt_14 rfl rfl ?_
    refine k_get (q := 18) (ci := 4) (v := .ref (a 1)) C 0 1 in4_X4_placeAt rfl (List.mem_of_getElem? (i := 1) rfl) rfl rfl (by decide) rfl dX4_placeAt_15 rfl ?_
    refine k_iconst (q := 19) (v := 4) C dX4_placeAt_18 (by decide) rfl ?_
    refine k_iload_n (q := 20) C 1 dX4_placeAt_19 rfl rfl ?_
    refine k_iadd (q := 21) C dX4_placeAt_20 rfl ?_
    refine k_st (st2 := (.int (nI (4 + j)) :: _)) (congrArg (fun z => Value.int z :: _) (show 4 + (nI j) = nI (4 + j) from nI_add 4 j)) ?_
    refine k_iald (q := 22) C 1 rfl (vp_in_nI (n := 4 + j) (by omega) (by decide)) dX4_placeAt_21 rfl ?_
    refine k_st (st2 := (.int ((mSt n o h t s g kn lo lf nm) (4 + j)) :: _)) (congrArg (fun z => Value.int z :: _) (show (mSt n o h t s g kn lo lf nm) (nI (4 + j)).toNatClampNeg = (mSt n o h t s g kn lo lf nm) (4 + j) from congrArg (mSt n o h t s g kn lo lf nm) (nI_clamp (n := 4 + j) (by omega)))) ?_
    refine k_st (st2 := (.int (s j) :: _)) (congrArg (fun z => Value.int z :: _) (show (mSt n o h t s g kn lo lf nm) (4 + j) = s j from mSt_s (k := j) (by omega))) ?_
    refine k_iload_n (q := 23) C 2 dX4_placeAt_22 rfl rfl ?_
    refine k_imul (q := 24) C dX4_placeAt_23 rfl ?_
    refine k_bipush (q := 26) (v := 10) C dX4_placeAt_24 (by decide +kernel) rfl ?_
    refine k_idiv (q := 27) C dX4_placeAt_26 (by decide) rfl ?_
    refine k_iadd (q := 28) C dX4_placeAt_27 rfl ?_
    exact k_fin E dX4_placeAt_28 (by first | (rw [c_1]; rfl) | (unfold sPlace; rw [if_neg (nI_ne0 c_1 (by omega))])) (rfl)
abbrev rm_X4_place : Room := { frames := 1, cells := 0, slots := 0, locals := 22 }
theorem in4_X4_place : ∀ w ∈ wsX40, w ∈ wsX4_place := fun _ h => (List.mem_cons_of_mem _ (List.mem_append_right _ h))
set_option maxHeartbeats 4000000 in
set_option maxRecDepth 100000 in
theorem c_X4_place (cy : Nat → ClassId) (a : Nat → Nat) (th : Int32) (sm : Nat) (ln : Nat) (pt : Nat) (sg : Nat) (fi : Int32) (se : Int32) (n : Nat) (o : Nat → Int32) (h : Nat → Int32) (t : Nat → Int32) (s : Nat → Int32) (g : Nat → Int32) (kn : Nat) (lo : Int32) (lf : Int32) (nm : Nat → Int32) (sv : Nat → Int32) (sl : Nat → Int32) (ik : Nat → Int32) (bf : Nat → Nat) (co : Nat → Int32) (go : Nat → Int32) (fo : Nat → Int32) (j : Nat) (p : Nat)  (hj : j < 2) (hp : p < 6) : kI yX4_place wsX4_place rm_X4_place cy [.ref (a 0), .int (nI j), .int (nI p)] (wM a cy th sm ln pt sg fi se (mSt n o h t s g kn lo lf nm) sv sl ik bf co go fo) (sPlace g (nI j) (s j) (h p)) (wM a cy th sm ln pt sg fi se (mSt n o h t s g kn lo lf nm) sv sl ik bf co go fo) := by
  refine kI_of (cc := cX4_place) (maxL := 3) (rt := .int) (by decide) rfl (rfl) (Nat.le_of_ble_eq_true rfl) ?_
  intro X hR C E
  have C : kC X 3 RX4 cX4_place wsX4_place cy := C
  refine k_fr (fr2 := [(0, .ref (a 0)), (1, .int (nI j)), (2, .int (nI p))]) ⟨[0, 1, 2], rfl⟩ ?_
  refine k_aload_n (q := 1) C 0 dX4_place_0 rfl rfl ?_
  refine k_iload_n (q := 2) C 1 dX4_place_1 rfl rfl ?_
  refine k_aload_n (q := 3) C 0 dX4_place_2 rfl rfl ?_
  refine k_get (q := 6) (ci := 4) (v := .ref (a 1)) C 0 1 in4_X4_place rfl (List.mem_of_getElem? (i := 1) rfl) rfl rfl (by decide) rfl dX4_place_3 rfl ?_
  refine k_bipush (q := 8) (v := 12) C dX4_place_6 (by decide +kernel) rfl ?_
  refine k_iload_n (q := 9) C 2 dX4_place_8 rfl rfl ?_
  refine k_iadd (q := 10) C dX4_place_9 rfl ?_
  refine k_st (st2 := (.int (nI (12 + p)) :: _)) (congrArg (fun z => Value.int z :: _) (show 12 + (nI p) = nI (12 + p) from nI_add 12 p)) ?_
  refine k_iald (q := 11) C 1 rfl (vp_in_nI (n := 12 + p) (by omega) (by decide)) dX4_place_10 rfl ?_
  refine k_st (st2 := (.int ((mSt n o h t s g kn lo lf nm) (12 + p)) :: _)) (congrArg (fun z => Value.int z :: _) (show (mSt n o h t s g kn lo lf nm) (nI (12 + p)).toNatClampNeg = (mSt n o h t s g kn lo lf nm) (12 + p) from congrArg (mSt n o h t s g kn lo lf nm) (nI_clamp (n := 12 + p) (by omega)))) ?_
  refine k_st (st2 := (.int (h p) :: _)) (congrArg (fun z => Value.int z :: _) (show (mSt n o h t s g kn lo lf nm) (12 + p) = h p from mSt_h (k := p) (by omega))) ?_
  refine k_callVI (n := 2) (q := 14) (pre := ([] : va_W)) (post := ([] : va_W)) (w2 := (wM a cy th sm ln pt sg fi se (mSt n o h t s g kn lo lf nm) sv sl ik bf co go fo)) (As := [.int (nI j), .int (h p)]) (rest := []) C (c_X4_placeAt cy a th sm ln pt sg fi se n o h t s g kn lo lf nm sv sl ik bf co go fo j (h p) (by omega)) gX4_place_X4_placeAt rfl rfl rfl (by decide +kernel) (k_room hR (by decide)) ⟨Nat.zero_le _, Nat.zero_le _⟩ (ci := 4) rfl 0 rfl rfl rfl (Nat.le_of_ble_eq_true rfl) ((List.append_nil _).symm) (List.append_nil _) dX4_place_11 rfl ?_
  exact k_fin E dX4_place_14 (rfl) (rfl)
abbrev rm_X4_lay : Room := { frames := 0, cells := 0, slots := 0, locals := 0 }
theorem in4_X4_lay : ∀ w ∈ wsX40, w ∈ wsX4_lay := fun _ h => (List.mem_cons_of_mem _ (List.mem_append_right _ h))
set_option maxHeartbeats 4000000 in
set_option maxRecDepth 100000 in
theorem lp_X4_lay_17 (cy : Nat → ClassId) (a : Nat → Nat) (th : Int32) (sm : Nat) (ln : Nat) (pt : Nat) (sg : Nat) (fi : Int32) (se : Int32) (n : Nat) (o : Nat → Int32) (h : Nat → Int32) (t : Nat → Int32) (s : Nat → Int32) (g : Nat → Int32) (kn : Nat) (lo : Int32) (lf : Int32) (nm : Nat → Int32) (sv : Nat → Int32) (sl : Nat → Int32) (ik : Nat → Int32) (bf : Nat → Nat) (co : Nat → Int32) (go : Nat → Int32) (fo : Nat → Int32) (x : Int32)  (hn : n ≤ 6) (X : kX) (hR : xR X = rm_X4_lay) (C : kC X 8 RX4 cX4_lay wsX4_lay cy) (E : kEndVx X 8 cX4_lay (fun (u : (Nat → Int32) × (Nat → Int32)) => (wM a cy th sm ln pt sg fi se (mSt n o h t s g kn lo lf nm) sv sl ik bf u.1 u.2 fo)) (fun (u : (Nat → Int32) × (Nat → Int32)) => mLaid n h t x u.1 u.2)) : ∀ (fu : Nat) (k : Nat) (l : Nat) (c1 : Nat → Int32) (g1 : Nat → Int32), n - k < fu → (k ≤ n) → (l < 2) → (mLaidTo n h t x c1 g1 l k) → (∀ (c2 g2 : Nat → Int32), mLaidTo n h t x c2 g2 (l + 1) 0 → kG X 8 0 0 (wM a cy th sm ln pt sg fi se (mSt n o h t s g kn lo lf nm) sv sl ik bf c2 g2 fo) 2 [(0, .ref (a 0)), (1, .int x), (2, .int (nI (l + 1)))] []) → kG X 8 0 0 (wM a cy th sm ln pt sg fi se (mSt n o h t s g kn lo lf nm) sv sl ik bf c1 g1 fo) 17 [(0, .ref (a 0)), (1, .int x), (2, .int (nI l)), (3, .int (sGo h t x k)), (4, .int (sLow h k)), (5, .int (nI k))] [] := by
  intro fu
  induction fu with
  | zero => intro k l c1 g1 hfu; exact absurd hfu (Nat.not_lt_zero _)
  | succ fu ih =>
    intro k l c1 g1 hfu hk hl hc hnx
    refine k_iload (q := 19) C 5 dX4_lay_17 rfl rfl ?_
    refine k_aload_n (q := 20) C 0 dX4_lay_19 rfl rfl ?_
    refine k_get (q := 23) (ci := 4) (v := .ref (a 1)) C 0 1 in4_X4_lay rfl (List.mem_of_getElem? (i := 1) rfl) rfl rfl (by decide) rfl dX4_lay_20 rfl ?_
    refine k_bipush (q := 25) (v := 8) C dX4_lay_23 (by decide +kernel) rfl ?_
    refine k_iald (q := 26) C 1 rfl (vp_in_nI (n := 8) (by decide) (by decide)) dX4_lay_25 rfl ?_
    refine k_st (st2 := (.int ((mSt n o h t s g kn lo lf nm) 8) :: _)) (congrArg (fun z => Value.int z :: _) (show (mSt n o h t s g kn lo lf nm) (8 : Int32).toNatClampNeg = (mSt n o h t s g kn lo lf nm) 8 from congrArg (mSt n o h t s g kn lo lf nm) (nI_clamp (n := 8) (by decide)))) ?_
    refine k_st (st2 := (.int (nI n) :: _)) (congrArg (fun z => Value.int z :: _) (show (mSt n o h t s g kn lo lf nm) 8 = nI n from rfl)) ?_
    refine k_nicmp_ge (a := k) (b := n)  (tgt := 135) (q := 29) C dX4_lay_26 (by decide) rfl (by omega) (by omega) ?_ ?_
    · intro c_26
      rw [show k = n by omega] at hc
      refine k_iinc (q := 138) (v := nI (l + 1)) (fr2 := [(2, .int (nI (l + 1))), (0, .ref (a 0)), (1, .int x), (3, .int (sGo h t x k)), (4, .int (sLow h k)), (5, .int (nI k))]) C 2 dX4_lay_135 rfl (nI_add l 1) (by decide) rfl rfl ?_
      refine k_goto (q := 2) C dX4_lay_138 (by decide) ?_
      refine k_fr (fr2 := [(0, .ref (a 0)), (1, .int x), (2, .int (nI (l + 1)))]) ⟨[1, 2, 0], rfl⟩ ?_
      exact hnx c1 g1 (mLaidTo_n hc)
    · intro c_26
      refine k_iload_n (q := 30) C 3 dX4_lay_29 rfl rfl ?_
      refine k_i2l (q := 31) C dX4_lay_30 rfl ?_
      refine k_iload_n (q := 32) C 1 dX4_lay_31 rfl rfl ?_
      refine k_i2l (q := 33) C dX4_lay_32 rfl ?_
      refine k_lmul (q := 34) C dX4_lay_33 rfl ?_
      refine k_aload_n (q := 35) C 0 dX4_lay_34 rfl rfl ?_
      refine k_get (q := 38) (ci := 4) (v := .ref (a 1)) C 0 1 in4_X4_lay rfl (List.mem_of_getElem? (i := 1) rfl) rfl rfl (by decide) rfl dX4_lay_35 rfl ?_
      refine k_bipush (q := 40) (v := 12) C dX4_lay_38 (by decide +kernel) rfl ?_
      refine k_iload (q := 42) C 5 dX4_lay_40 rfl rfl ?_
      refine k_iadd (q := 43) C dX4_lay_42 rfl ?_
      refine k_st (st2 := (.int (nI (12 + k)) :: _)) (congrArg (fun z => Value.int z :: _) (show 12 + (nI k) = nI (12 + k) from nI_add 12 k)) ?_
      refine k_iald (q := 44) C 1 rfl (vp_in_nI (n := 12 + k) (by omega) (by decide)) dX4_lay_43 rfl ?_
      refine k_st (st2 := (.int ((mSt n o h t s g kn lo lf nm) (12 + k)) :: _)) (congrArg (fun z => Value.int z :: _) (show (mSt n o h t s g kn lo lf nm) (nI (12 + k)).toNatClampNeg = (mSt n o h t s g kn lo lf nm) (12 + k) from congrArg (mSt n o h t s g kn lo lf nm) (nI_clamp (n := 12 + k) (by omega)))) ?_
      refine k_st (st2 := (.int (h k) :: _)) (congrArg (fun z => Value.int z :: _) (show (mSt n o h t s g kn lo lf nm) (12 + k) = h k from mSt_h (k := k) (by omega))) ?_
      refine k_iload (q := 46) C 4 dX4_lay_44 rfl rfl ?_
      refine k_isub (q := 47) C dX4_lay_46 rfl ?_
      refine k_i2l (q := 48) C dX4_lay_47 rfl ?_
      refine k_lmul (q := 49) C dX4_lay_48 rfl ?_
      refine k_ldc2 (q := 52) (v := 10000000) C (List.mem_of_getElem? (i := 2) rfl) dX4_lay_49 rfl ?_
      refine k_ldiv (q := 53) C dX4_lay_52 (by decide) rfl ?_
      refine k_lstore (q := 55) (fr2 := [(6, .long (((((sGo h t x k).toInt64) * x.toInt64) * (((h k) - (sLow h k)).toInt64)) / 10000000)), (0, .ref (a 0)), (1, .int x), (2, .int (nI l)), (3, .int (sGo h t x k)), (4, .int (sLow h k)), (5, .int (nI k))]) C dX4_lay_53 (by decide) rfl rfl ?_
      refine k_iload_n (q := 56) C 4 dX4_lay_55 rfl rfl ?_
      refine k_lload (q := 58) C 0 dX4_lay_56 rfl rfl ?_
      refine k_iload_n (q := 59) C 4 dX4_lay_58 rfl rfl ?_
      refine k_i2l (q := 60) C dX4_lay_59 rfl ?_
      refine k_lcmp (q := 61) C dX4_lay_60 rfl ?_
      refine k_if_ge (tgt := 70) (q := 64) C dX4_lay_61 (by decide) rfl ?_ ?_
      · intro c_61
        refine k_iload_n (q := 71) C 4 dX4_lay_70 rfl rfl ?_
        refine k_isub (q := 72) C dX4_lay_71 rfl ?_
        refine k_st (st2 := (.int (sCo h t x k) :: _)) (congrArg (fun z => Value.int z :: _) (show (sGo h t x k) - (sGo h t x k) = sCo h t x k from by first | exact mHaze (Or.inl ⟨lc_lt.mp c_61, rfl⟩) | exact mHaze (Or.inr ⟨fun q => lc_lt.mpr q c_61, rfl⟩))) ?_
        refine k_istore_n (q := 73) (fr2 := [(3, .int (sCo h t x k)), (6, .long (((((sGo h t x k).toInt64) * x.toInt64) * (((h k) - (sLow h k)).toInt64)) / 10000000)), (0, .ref (a 0)), (1, .int x), (2, .int (nI l)), (4, .int (sLow h k)), (5, .int (nI k))]) C dX4_lay_72 (by decide) rfl rfl ?_
        refine k_aload_n (q := 74) C 2 dX4_lay_73 rfl rfl ?_
        refine k_get (q := 77) (ci := 4) (v := .ref (a 6)) C 0 12 in4_X4_lay rfl (List.mem_of_getElem? (i := 3) rfl) rfl rfl (by decide) rfl dX4_lay_74 rfl ?_
        refine k_bipush (q := 79) (v := 6) C dX4_lay_77 (by decide +kernel) rfl ?_
        refine k_iload_n (q := 80) C 4 dX4_lay_79 rfl rfl ?_
        refine k_imul (q := 81) C dX4_lay_80 rfl ?_
        refine k_st (st2 := (.int (nI (6 * l)) :: _)) (congrArg (fun z => Value.int z :: _) (show 6 * (nI l) = nI (6 * l) from pk_mul 6 l)) ?_
        refine k_iload (q := 83) C 6 dX4_lay_81 rfl rfl ?_
        refine k_iadd (q := 84) C dX4_lay_83 rfl ?_
        refine k_st (st2 := (.int (nI (6 * l + k)) :: _)) (congrArg (fun z => Value.int z :: _) (show (nI (6 * l)) + (nI k) = nI (6 * l + k) from nI_add (6 * l) k)) ?_
        refine k_iload_n (q := 85) C 0 dX4_lay_84 rfl rfl ?_
        refine k_iast (q := 86) (w2 := (wM a cy th sm ln pt sg fi se (mSt n o h t s g kn lo lf nm) sv sl ik bf (upd c1 (6 * l + k) (sCo h t x k)) g1 fo)) C 6 rfl (vp_in_nI (n := 6 * l + k) (by omega) (by decide)) (by rw [nI_clamp (n := 6 * l + k) (by omega)]; rfl) dX4_lay_85 rfl ?_
        refine k_iload_n (q := 87) C 0 dX4_lay_86 rfl rfl ?_
        refine k_iload_n (q := 88) C 0 dX4_lay_87 rfl rfl ?_
        refine k_aload_n (q := 89) C 2 dX4_lay_88 rfl rfl ?_
        refine k_get (q := 92) (ci := 4) (v := .ref (a 1)) C 0 1 in4_X4_lay rfl (List.mem_of_getElem? (i := 1) rfl) rfl rfl (by decide) rfl dX4_lay_89 rfl ?_
        refine k_bipush (q := 94) (v := 18) C dX4_lay_92 (by decide +kernel) rfl ?_
        refine k_iload (q := 96) C 6 dX4_lay_94 rfl rfl ?_
        refine k_iadd (q := 97) C dX4_lay_96 rfl ?_
        refine k_st (st2 := (.int (nI (18 + k)) :: _)) (congrArg (fun z => Value.int z :: _) (show 18 + (nI k) = nI (18 + k) from nI_add 18 k)) ?_
        refine k_iald (q := 98) C 1 rfl (vp_in_nI (n := 18 + k) (by omega) (by decide)) dX4_lay_97 rfl ?_
        refine k_st (st2 := (.int ((mSt n o h t s g kn lo lf nm) (18 + k)) :: _)) (congrArg (fun z => Value.int z :: _) (show (mSt n o h t s g kn lo lf nm) (nI (18 + k)).toNatClampNeg = (mSt n o h t s g kn lo lf nm) (18 + k) from congrArg (mSt n o h t s g kn lo lf nm) (nI_clamp (n := 18 + k) (by omega)))) ?_
        refine k_st (st2 := (.int (t k) :: _)) (congrArg (fun z => Value.int z :: _) (show (mSt n o h t s g kn lo lf nm) (18 + k) = t k from mSt_t (k := k) (by omega))) ?_
        refine k_imul (q := 99) C dX4_lay_98 rfl ?_
        refine k_bipush (q := 101) (v := 100) C dX4_lay_99 (by decide +kernel) rfl ?_
        refine k_idiv (q := 102) C dX4_lay_101 (by decide) rfl ?_
        refine k_isub (q := 103) C dX4_lay_102 rfl ?_
        refine k_st (st2 := (.int (sGo h t x (k + 1)) :: _)) (congrArg (fun z => Value.int z :: _) (show (sCo h t x k) - (((sCo h t x k) * (t k)) / 100) = sGo h t x (k + 1) from rfl)) ?_
        refine k_istore_n (q := 104) (fr2 := [(3, .int (sGo h t x (k + 1))), (6, .long (((((sGo h t x k).toInt64) * x.toInt64) * (((h k) - (sLow h k)).toInt64)) / 10000000)), (0, .ref (a 0)), (1, .int x), (2, .int (nI l)), (4, .int (sLow h k)), (5, .int (nI k))]) C dX4_lay_103 (by decide) rfl rfl ?_
        refine k_aload_n (q := 105) C 2 dX4_lay_104 rfl rfl ?_
        refine k_get (q := 108) (ci := 4) (v := .ref (a 7)) C 0 13 in4_X4_lay rfl (List.mem_of_getElem? (i := 4) rfl) rfl rfl (by decide) rfl dX4_lay_105 rfl ?_
        refine k_bipush (q := 110) (v := 6) C dX4_lay_108 (by decide +kernel) rfl ?_
        refine k_iload_n (q := 111) C 4 dX4_lay_110 rfl rfl ?_
        refine k_imul (q := 112) C dX4_lay_111 rfl ?_
        refine k_st (st2 := (.int (nI (6 * l)) :: _)) (congrArg (fun z => Value.int z :: _) (show 6 * (nI l) = nI (6 * l) from pk_mul 6 l)) ?_
        refine k_iload (q := 114) C 6 dX4_lay_112 rfl rfl ?_
        refine k_iadd (q := 115) C dX4_lay_114 rfl ?_
        refine k_st (st2 := (.int (nI (6 * l + k)) :: _)) (congrArg (fun z => Value.int z :: _) (show (nI (6 * l)) + (nI k) = nI (6 * l + k) from nI_add (6 * l) k)) ?_
        refine k_iload_n (q := 116) C 0 dX4_lay_115 rfl rfl ?_
        refine k_iast (q := 117) (w2 := (wM a cy th sm ln pt sg fi se (mSt n o h t s g kn lo lf nm) sv sl ik bf (upd c1 (6 * l + k) (sCo h t x k)) (upd g1 (6 * l + k) (sGo h t x (k + 1))) fo)) C 7 rfl (vp_in_nI (n := 6 * l + k) (by omega) (by decide)) (by rw [nI_clamp (n := 6 * l + k) (by omega)]; rfl) dX4_lay_116 rfl ?_
        refine k_aload_n (q := 118) C 2 dX4_lay_117 rfl rfl ?_
        refine k_get (q := 121) (ci := 4) (v := .ref (a 1)) C 0 1 in4_X4_lay rfl (List.mem_of_getElem? (i := 1) rfl) rfl rfl (by decide) rfl dX4_lay_118 rfl ?_
        refine k_bipush (q := 123) (v := 12) C dX4_lay_121 (by decide +kernel) rfl ?_
        refine k_iload (q := 125) C 6 dX4_lay_123 rfl rfl ?_
        refine k_iadd (q := 126) C dX4_lay_125 rfl ?_
        refine k_st (st2 := (.int (nI (12 + k)) :: _)) (congrArg (fun z => Value.int z :: _) (show 12 + (nI k) = nI (12 + k) from nI_add 12 k)) ?_
        refine k_iald (q := 127) C 1 rfl (vp_in_nI (n := 12 + k) (by omega) (by decide)) dX4_lay_126 rfl ?_
        refine k_st (st2 := (.int ((mSt n o h t s g kn lo lf nm) (12 + k)) :: _)) (congrArg (fun z => Value.int z :: _) (show (mSt n o h t s g kn lo lf nm) (nI (12 + k)).toNatClampNeg = (mSt n o h t s g kn lo lf nm) (12 + k) from congrArg (mSt n o h t s g kn lo lf nm) (nI_clamp (n := 12 + k) (by omega)))) ?_
        refine k_st (st2 := (.int (h k) :: _)) (congrArg (fun z => Value.int z :: _) (show (mSt n o h t s g kn lo lf nm) (12 + k) = h k from mSt_h (k := k) (by omega))) ?_
        refine k_istore (q := 129) (fr2 := [(4, .int (h k)), (3, .int (sGo h t x (k + 1))), (6, .long (((((sGo h t x k).toInt64) * x.toInt64) * (((h k) - (sLow h k)).toInt64)) / 10000000)), (0, .ref (a 0)), (1, .int x), (2, .int (nI l)), (5, .int (nI k))]) C dX4_lay_127 (by decide) rfl rfl ?_
        refine k_iinc (q := 132) (v := nI (k + 1)) (fr2 := [(5, .int (nI (k + 1))), (4, .int (h k)), (3, .int (sGo h t x (k + 1))), (6, .long (((((sGo h t x k).toInt64) * x.toInt64) * (((h k) - (sLow h k)).toInt64)) / 10000000)), (0, .ref (a 0)), (1, .int x), (2, .int (nI l))]) C 6 dX4_lay_129 rfl (nI_add k 1) (by decide) rfl rfl ?_
        refine k_goto (q := 17) C dX4_lay_132 (by decide) ?_
        refine k_fr (fr2 := [(0, .ref (a 0)), (1, .int x), (2, .int (nI l)), (3, .int (sGo h t x (k + 1))), (4, .int (h k)), (5, .int (nI (k + 1)))]) ⟨[4, 5, 6, 2, 1, 0], rfl⟩ ?_
        exact ih (k + 1) l (upd c1 (6 * l + k) (sCo h t x k)) (upd g1 (6 * l + k) (sGo h t x (k + 1))) (by omega) (by omega) hl (mLaidTo_s hn c_26 hc) hnx
      · intro c_61
        refine k_lload (q := 66) C 0 dX4_lay_64 rfl rfl ?_
        refine k_l2i (q := 67) C dX4_lay_66 rfl ?_
        refine k_goto (q := 71) C dX4_lay_67 (by decide) ?_
        refine k_isub (q := 72) C dX4_lay_71 rfl ?_
        refine k_st (st2 := (.int (sCo h t x k) :: _)) (congrArg (fun z => Value.int z :: _) (show (sGo h t x k) - ((((((sGo h t x k).toInt64) * x.toInt64) * (((h k) - (sLow h k)).toInt64)) / 10000000).toInt32) = sCo h t x k from by first | exact mHaze (Or.inl ⟨lc_lt.mp c_61, rfl⟩) | exact mHaze (Or.inr ⟨fun q => lc_lt.mpr q c_61, rfl⟩))) ?_
        refine k_istore_n (q := 73) (fr2 := [(3, .int (sCo h t x k)), (6, .long (((((sGo h t x k).toInt64) * x.toInt64) * (((h k) - (sLow h k)).toInt64)) / 10000000)), (0, .ref (a 0)), (1, .int x), (2, .int (nI l)), (4, .int (sLow h k)), (5, .int (nI k))]) C dX4_lay_72 (by decide) rfl rfl ?_
        refine k_aload_n (q := 74) C 2 dX4_lay_73 rfl rfl ?_
        refine k_get (q := 77) (ci := 4) (v := .ref (a 6)) C 0 12 in4_X4_lay rfl (List.mem_of_getElem? (i := 3) rfl) rfl rfl (by decide) rfl dX4_lay_74 rfl ?_
        refine k_bipush (q := 79) (v := 6) C dX4_lay_77 (by decide +kernel) rfl ?_
        refine k_iload_n (q := 80) C 4 dX4_lay_79 rfl rfl ?_
        refine k_imul (q := 81) C dX4_lay_80 rfl ?_
        refine k_st (st2 := (.int (nI (6 * l)) :: _)) (congrArg (fun z => Value.int z :: _) (show 6 * (nI l) = nI (6 * l) from pk_mul 6 l)) ?_
        refine k_iload (q := 83) C 6 dX4_lay_81 rfl rfl ?_
        refine k_iadd (q := 84) C dX4_lay_83 rfl ?_
        refine k_st (st2 := (.int (nI (6 * l + k)) :: _)) (congrArg (fun z => Value.int z :: _) (show (nI (6 * l)) + (nI k) = nI (6 * l + k) from nI_add (6 * l) k)) ?_
        refine k_iload_n (q := 85) C 0 dX4_lay_84 rfl rfl ?_
        refine k_iast (q := 86) (w2 := (wM a cy th sm ln pt sg fi se (mSt n o h t s g kn lo lf nm) sv sl ik bf (upd c1 (6 * l + k) (sCo h t x k)) g1 fo)) C 6 rfl (vp_in_nI (n := 6 * l + k) (by omega) (by decide)) (by rw [nI_clamp (n := 6 * l + k) (by omega)]; rfl) dX4_lay_85 rfl ?_
        refine k_iload_n (q := 87) C 0 dX4_lay_86 rfl rfl ?_
        refine k_iload_n (q := 88) C 0 dX4_lay_87 rfl rfl ?_
        refine k_aload_n (q := 89) C 2 dX4_lay_88 rfl rfl ?_
        refine k_get (q := 92) (ci := 4) (v := .ref (a 1)) C 0 1 in4_X4_lay rfl (List.mem_of_getElem? (i := 1) rfl) rfl rfl (by decide) rfl dX4_lay_89 rfl ?_
        refine k_bipush (q := 94) (v := 18) C dX4_lay_92 (by decide +kernel) rfl ?_
        refine k_iload (q := 96) C 6 dX4_lay_94 rfl rfl ?_
        refine k_iadd (q := 97) C dX4_lay_96 rfl ?_
        refine k_st (st2 := (.int (nI (18 + k)) :: _)) (congrArg (fun z => Value.int z :: _) (show 18 + (nI k) = nI (18 + k) from nI_add 18 k)) ?_
        refine k_iald (q := 98) C 1 rfl (vp_in_nI (n := 18 + k) (by omega) (by decide)) dX4_lay_97 rfl ?_
        refine k_st (st2 := (.int ((mSt n o h t s g kn lo lf nm) (18 + k)) :: _)) (congrArg (fun z => Value.int z :: _) (show (mSt n o h t s g kn lo lf nm) (nI (18 + k)).toNatClampNeg = (mSt n o h t s g kn lo lf nm) (18 + k) from congrArg (mSt n o h t s g kn lo lf nm) (nI_clamp (n := 18 + k) (by omega)))) ?_
        refine k_st (st2 := (.int (t k) :: _)) (congrArg (fun z => Value.int z :: _) (show (mSt n o h t s g kn lo lf nm) (18 + k) = t k from mSt_t (k := k) (by omega))) ?_
        refine k_imul (q := 99) C dX4_lay_98 rfl ?_
        refine k_bipush (q := 101) (v := 100) C dX4_lay_99 (by decide +kernel) rfl ?_
        refine k_idiv (q := 102) C dX4_lay_101 (by decide) rfl ?_
        refine k_isub (q := 103) C dX4_lay_102 rfl ?_
        refine k_st (st2 := (.int (sGo h t x (k + 1)) :: _)) (congrArg (fun z => Value.int z :: _) (show (sCo h t x k) - (((sCo h t x k) * (t k)) / 100) = sGo h t x (k + 1) from rfl)) ?_
        refine k_istore_n (q := 104) (fr2 := [(3, .int (sGo h t x (k + 1))), (6, .long (((((sGo h t x k).toInt64) * x.toInt64) * (((h k) - (sLow h k)).toInt64)) / 10000000)), (0, .ref (a 0)), (1, .int x), (2, .int (nI l)), (4, .int (sLow h k)), (5, .int (nI k))]) C dX4_lay_103 (by decide) rfl rfl ?_
        refine k_aload_n (q := 105) C 2 dX4_lay_104 rfl rfl ?_
        refine k_get (q := 108) (ci := 4) (v := .ref (a 7)) C 0 13 in4_X4_lay rfl (List.mem_of_getElem? (i := 4) rfl) rfl rfl (by decide) rfl dX4_lay_105 rfl ?_
        refine k_bipush (q := 110) (v := 6) C dX4_lay_108 (by decide +kernel) rfl ?_
        refine k_iload_n (q := 111) C 4 dX4_lay_110 rfl rfl ?_
        refine k_imul (q := 112) C dX4_lay_111 rfl ?_
        refine k_st (st2 := (.int (nI (6 * l)) :: _)) (congrArg (fun z => Value.int z :: _) (show 6 * (nI l) = nI (6 * l) from pk_mul 6 l)) ?_
        refine k_iload (q := 114) C 6 dX4_lay_112 rfl rfl ?_
        refine k_iadd (q := 115) C dX4_lay_114 rfl ?_
        refine k_st (st2 := (.int (nI (6 * l + k)) :: _)) (congrArg (fun z => Value.int z :: _) (show (nI (6 * l)) + (nI k) = nI (6 * l + k) from nI_add (6 * l) k)) ?_
        refine k_iload_n (q := 116) C 0 dX4_lay_115 rfl rfl ?_
        refine k_iast (q := 117) (w2 := (wM a cy th sm ln pt sg fi se (mSt n o h t s g kn lo lf nm) sv sl ik bf (upd c1 (6 * l + k) (sCo h t x k)) (upd g1 (6 * l + k) (sGo h t x (k + 1))) fo)) C 7 rfl (vp_in_nI (n := 6 * l + k) (by omega) (by decide)) (by rw [nI_clamp (n := 6 * l + k) (by omega)]; rfl) dX4_lay_116 rfl ?_
        refine k_aload_n (q := 118) C 2 dX4_lay_117 rfl rfl ?_
        refine k_get (q := 121) (ci := 4) (v := .ref (a 1)) C 0 1 in4_X4_lay rfl (List.mem_of_getElem? (i := 1) rfl) rfl rfl (by decide) rfl dX4_lay_118 rfl ?_
        refine k_bipush (q := 123) (v := 12) C dX4_lay_121 (by decide +kernel) rfl ?_
        refine k_iload (q := 125) C 6 dX4_lay_123 rfl rfl ?_
        refine k_iadd (q := 126) C dX4_lay_125 rfl ?_
        refine k_st (st2 := (.int (nI (12 + k)) :: _)) (congrArg (fun z => Value.int z :: _) (show 12 + (nI k) = nI (12 + k) from nI_add 12 k)) ?_
        refine k_iald (q := 127) C 1 rfl (vp_in_nI (n := 12 + k) (by omega) (by decide)) dX4_lay_126 rfl ?_
        refine k_st (st2 := (.int ((mSt n o h t s g kn lo lf nm) (12 + k)) :: _)) (congrArg (fun z => Value.int z :: _) (show (mSt n o h t s g kn lo lf nm) (nI (12 + k)).toNatClampNeg = (mSt n o h t s g kn lo lf nm) (12 + k) from congrArg (mSt n o h t s g kn lo lf nm) (nI_clamp (n := 12 + k) (by omega)))) ?_
        refine k_st (st2 := (.int (h k) :: _)) (congrArg (fun z => Value.int z :: _) (show (mSt n o h t s g kn lo lf nm) (12 + k) = h k from mSt_h (k := k) (by omega))) ?_
        refine k_istore (q := 129) (fr2 := [(4, .int (h k)), (3, .int (sGo h t x (k + 1))), (6, .long (((((sGo h t x k).toInt64) * x.toInt64) * (((h k) - (sLow h k)).toInt64)) / 10000000)), (0, .ref (a 0)), (1, .int x), (2, .int (nI l)), (5, .int (nI k))]) C dX4_lay_127 (by decide) rfl rfl ?_
        refine k_iinc (q := 132) (v := nI (k + 1)) (fr2 := [(5, .int (nI (k + 1))), (4, .int (h k)), (3, .int (sGo h t x (k + 1))), (6, .long (((((sGo h t x k).toInt64) * x.toInt64) * (((h k) - (sLow h k)).toInt64)) / 10000000)), (0, .ref (a 0)), (1, .int x), (2, .int (nI l))]) C 6 dX4_lay_129 rfl (nI_add k 1) (by decide) rfl rfl ?_
        refine k_goto (q := 17) C dX4_lay_132 (by decide) ?_
        refine k_fr (fr2 := [(0, .ref (a 0)), (1, .int x), (2, .int (nI l)), (3, .int (sGo h t x (k + 1))), (4, .int (h k)), (5, .int (nI (k + 1)))]) ⟨[4, 5, 6, 2, 1, 0], rfl⟩ ?_
        exact ih (k + 1) l (upd c1 (6 * l + k) (sCo h t x k)) (upd g1 (6 * l + k) (sGo h t x (k + 1))) (by omega) (by omega) hl (mLaidTo_s hn c_26 hc) hnx
set_option maxHeartbeats 4000000 in
set_option maxRecDepth 100000 in
theorem lp_X4_lay_2 (cy : Nat → ClassId) (a : Nat → Nat) (th : Int32) (sm : Nat) (ln : Nat) (pt : Nat) (sg : Nat) (fi : Int32) (se : Int32) (n : Nat) (o : Nat → Int32) (h : Nat → Int32) (t : Nat → Int32) (s : Nat → Int32) (g : Nat → Int32) (kn : Nat) (lo : Int32) (lf : Int32) (nm : Nat → Int32) (sv : Nat → Int32) (sl : Nat → Int32) (ik : Nat → Int32) (bf : Nat → Nat) (co : Nat → Int32) (go : Nat → Int32) (fo : Nat → Int32) (x : Int32)  (hn : n ≤ 6) (X : kX) (hR : xR X = rm_X4_lay) (C : kC X 8 RX4 cX4_lay wsX4_lay cy) (E : kEndVx X 8 cX4_lay (fun (u : (Nat → Int32) × (Nat → Int32)) => (wM a cy th sm ln pt sg fi se (mSt n o h t s g kn lo lf nm) sv sl ik bf u.1 u.2 fo)) (fun (u : (Nat → Int32) × (Nat → Int32)) => mLaid n h t x u.1 u.2)) : ∀ (fu : Nat) (l : Nat) (c1 : Nat → Int32) (g1 : Nat → Int32), 2 - l < fu → (l ≤ 2) → (mLaidTo n h t x c1 g1 l 0) → kG X 8 0 0 (wM a cy th sm ln pt sg fi se (mSt n o h t s g kn lo lf nm) sv sl ik bf c1 g1 fo) 2 [(0, .ref (a 0)), (1, .int x), (2, .int (nI l))] [] := by
  intro fu
  induction fu with
  | zero => intro l c1 g1 hfu; exact absurd hfu (Nat.not_lt_zero _)
  | succ fu ih =>
    intro l c1 g1 hfu hl hc
    refine k_iload_n (q := 3) C 2 dX4_lay_2 rfl rfl ?_
    refine k_iconst (q := 4) (v := 2) C dX4_lay_3 (by decide) rfl ?_
    refine k_nicmp_ge (a := l) (b := 2)  (tgt := 141) (q := 7) C dX4_lay_4 (by decide) rfl (by omega) (by decide) ?_ ?_
    · intro c_4
      exact k_finVx E (c1, g1) dX4_lay_141 (rfl) (fun j p hj hp => hc j p (by omega))
    · intro c_4
      refine k_sipush (q := 10) (v := 1000) C dX4_lay_7 (by decide +kernel) rfl ?_
      refine k_istore_n (q := 11) (fr2 := [(3, .int 1000), (0, .ref (a 0)), (1, .int x), (2, .int (nI l))]) C dX4_lay_10 (by decide) rfl rfl ?_
      refine k_iconst (q := 12) (v := 0) C dX4_lay_11 (by decide) rfl ?_
      refine k_istore (q := 14) (fr2 := [(4, .int 0), (3, .int 1000), (0, .ref (a 0)), (1, .int x), (2, .int (nI l))]) C dX4_lay_12 (by decide) rfl rfl ?_
      refine k_iconst (q := 15) (v := 0) C dX4_lay_14 (by decide) rfl ?_
      refine k_istore (q := 17) (fr2 := [(5, .int 0), (4, .int 0), (3, .int 1000), (0, .ref (a 0)), (1, .int x), (2, .int (nI l))]) C dX4_lay_15 (by decide) rfl rfl ?_
      refine k_fr (fr2 := [(0, .ref (a 0)), (1, .int x), (2, .int (nI l)), (3, .int 1000), (4, .int 0), (5, .int 0)]) ⟨[3, 4, 5, 2, 1, 0], rfl⟩ ?_
      exact lp_X4_lay_17 cy a th sm ln pt sg fi se n o h t s g kn lo lf nm sv sl ik bf co go fo x hn X hR C E _ 0 l c1 g1 (Nat.lt_succ_self _) (by omega) c_4 hc (fun c2 g2 h2 => ih (l + 1) c2 g2 (by omega) (by omega) h2)
set_option maxHeartbeats 4000000 in
set_option maxRecDepth 100000 in
theorem c_X4_lay (cy : Nat → ClassId) (a : Nat → Nat) (th : Int32) (sm : Nat) (ln : Nat) (pt : Nat) (sg : Nat) (fi : Int32) (se : Int32) (n : Nat) (o : Nat → Int32) (h : Nat → Int32) (t : Nat → Int32) (s : Nat → Int32) (g : Nat → Int32) (kn : Nat) (lo : Int32) (lf : Int32) (nm : Nat → Int32) (sv : Nat → Int32) (sl : Nat → Int32) (ik : Nat → Int32) (bf : Nat → Nat) (co : Nat → Int32) (go : Nat → Int32) (fo : Nat → Int32) (x : Int32)  (hn : n ≤ 6) : kVx yX4_lay wsX4_lay rm_X4_lay cy [.ref (a 0), .int x] (wM a cy th sm ln pt sg fi se (mSt n o h t s g kn lo lf nm) sv sl ik bf co go fo) (fun (u : (Nat → Int32) × (Nat → Int32)) => (wM a cy th sm ln pt sg fi se (mSt n o h t s g kn lo lf nm) sv sl ik bf u.1 u.2 fo)) (fun (u : (Nat → Int32) × (Nat → Int32)) => mLaid n h t x u.1 u.2) := by
  refine kVx_of (cc := cX4_lay) (maxL := 8) (by decide) rfl (Nat.le_of_ble_eq_true rfl) ?_
  intro X hR C E
  have C : kC X 8 RX4 cX4_lay wsX4_lay cy := C
  refine k_fr (fr2 := [(0, .ref (a 0)), (1, .int x)]) ⟨[0, 1], rfl⟩ ?_
  refine k_iconst (q := 1) (v := 0) C dX4_lay_0 (by decide) rfl ?_
  refine k_istore_n (q := 2) (fr2 := [(2, .int 0), (0, .ref (a 0)), (1, .int x)]) C dX4_lay_1 (by decide) rfl rfl ?_
  refine k_fr (fr2 := [(0, .ref (a 0)), (1, .int x), (2, .int 0)]) ⟨[1, 2, 0], rfl⟩ ?_
  exact lp_X4_lay_2 cy a th sm ln pt sg fi se n o h t s g kn lo lf nm sv sl ik bf co go fo x hn X hR C E _ 0 co go (Nat.lt_succ_self _) (by omega) (fun j p hp => by omega)
abbrev rm_X4_brightness : Room := { frames := 0, cells := 0, slots := 0, locals := 0 }
theorem in4_X4_brightness : ∀ w ∈ wsX40, w ∈ wsX4_brightness := fun _ h => (List.mem_cons_of_mem _ (List.mem_append_right _ h))
set_option maxHeartbeats 4000000 in
set_option maxRecDepth 100000 in
theorem c_X4_brightness (cy : Nat → ClassId) (a : Nat → Nat) (th : Int32) (sm : Nat) (ln : Nat) (pt : Nat) (sg : Nat) (fi : Int32) (se : Int32) (n : Nat) (o : Nat → Int32) (h : Nat → Int32) (t : Nat → Int32) (s : Nat → Int32) (g : Nat → Int32) (kn : Nat) (lo : Int32) (lf : Int32) (nm : Nat → Int32) (sv : Nat → Int32) (sl : Nat → Int32) (ik : Nat → Int32) (bf : Nat → Nat) (co : Nat → Int32) (go : Nat → Int32) (fo : Nat → Int32) (j : Nat) (p : Nat)  (hj : j < 2) (hp : p < 6) : kI yX4_brightness wsX4_brightness rm_X4_brightness cy [.ref (a 0), .int (nI j), .int (nI p)] (wM a cy th sm ln pt sg fi se (mSt n o h t s g kn lo lf nm) sv sl ik bf co go fo) (co (6 * j + p) - go (6 * j + p)) (wM a cy th sm ln pt sg fi se (mSt n o h t s g kn lo lf nm) sv sl ik bf co go fo) := by
  refine kI_of (cc := cX4_brightness) (maxL := 3) (rt := .int) (by decide) rfl (rfl) (Nat.le_of_ble_eq_true rfl) ?_
  intro X hR C E
  have C : kC X 3 RX4 cX4_brightness wsX4_brightness cy := C
  refine k_fr (fr2 := [(0, .ref (a 0)), (1, .int (nI j)), (2, .int (nI p))]) ⟨[0, 1, 2], rfl⟩ ?_
  refine k_aload_n (q := 1) C 0 dX4_brightness_0 rfl rfl ?_
  refine k_get (q := 4) (ci := 4) (v := .ref (a 6)) C 0 12 in4_X4_brightness rfl (List.mem_of_getElem? (i := 1) rfl) rfl rfl (by decide) rfl dX4_brightness_1 rfl ?_
  refine k_bipush (q := 6) (v := 6) C dX4_brightness_4 (by decide +kernel) rfl ?_
  refine k_iload_n (q := 7) C 1 dX4_brightness_6 rfl rfl ?_
  refine k_imul (q := 8) C dX4_brightness_7 rfl ?_
  refine k_st (st2 := (.int (nI (6 * j)) :: _)) (congrArg (fun z => Value.int z :: _) (show 6 * (nI j) = nI (6 * j) from pk_mul 6 j)) ?_
  refine k_iload_n (q := 9) C 2 dX4_brightness_8 rfl rfl ?_
  refine k_iadd (q := 10) C dX4_brightness_9 rfl ?_
  refine k_st (st2 := (.int (nI (6 * j + p)) :: _)) (congrArg (fun z => Value.int z :: _) (show (nI (6 * j)) + (nI p) = nI (6 * j + p) from nI_add (6 * j) p)) ?_
  refine k_iald (q := 11) C 6 rfl (vp_in_nI (n := 6 * j + p) (by omega) (by decide)) dX4_brightness_10 rfl ?_
  refine k_st (st2 := (.int (co (6 * j + p)) :: _)) (congrArg (fun z => Value.int z :: _) (show co (nI (6 * j + p)).toNatClampNeg = co (6 * j + p) from congrArg co (nI_clamp (n := 6 * j + p) (by omega)))) ?_
  refine k_aload_n (q := 12) C 0 dX4_brightness_11 rfl rfl ?_
  refine k_get (q := 15) (ci := 4) (v := .ref (a 7)) C 0 13 in4_X4_brightness rfl (List.mem_of_getElem? (i := 2) rfl) rfl rfl (by decide) rfl dX4_brightness_12 rfl ?_
  refine k_bipush (q := 17) (v := 6) C dX4_brightness_15 (by decide +kernel) rfl ?_
  refine k_iload_n (q := 18) C 1 dX4_brightness_17 rfl rfl ?_
  refine k_imul (q := 19) C dX4_brightness_18 rfl ?_
  refine k_st (st2 := (.int (nI (6 * j)) :: _)) (congrArg (fun z => Value.int z :: _) (show 6 * (nI j) = nI (6 * j) from pk_mul 6 j)) ?_
  refine k_iload_n (q := 20) C 2 dX4_brightness_19 rfl rfl ?_
  refine k_iadd (q := 21) C dX4_brightness_20 rfl ?_
  refine k_st (st2 := (.int (nI (6 * j + p)) :: _)) (congrArg (fun z => Value.int z :: _) (show (nI (6 * j)) + (nI p) = nI (6 * j + p) from nI_add (6 * j) p)) ?_
  refine k_iald (q := 22) C 7 rfl (vp_in_nI (n := 6 * j + p) (by omega) (by decide)) dX4_brightness_21 rfl ?_
  refine k_st (st2 := (.int (go (6 * j + p)) :: _)) (congrArg (fun z => Value.int z :: _) (show go (nI (6 * j + p)).toNatClampNeg = go (6 * j + p) from congrArg go (nI_clamp (n := 6 * j + p) (by omega)))) ?_
  refine k_isub (q := 23) C dX4_brightness_22 rfl ?_
  exact k_fin E dX4_brightness_23 (by simp [bI, hj, hp]) (rfl)
abbrev rm_X4_isSeen : Room := { frames := 1, cells := 0, slots := 0, locals := 22 }
theorem in4_X4_isSeen : ∀ w ∈ wsX40, w ∈ wsX4_isSeen := fun _ h => (List.mem_cons_of_mem _ (List.mem_append_right _ h))
set_option maxHeartbeats 4000000 in
set_option maxRecDepth 100000 in
theorem c_X4_isSeen (cy : Nat → ClassId) (a : Nat → Nat) (th : Int32) (sm : Nat) (ln : Nat) (pt : Nat) (sg : Nat) (fi : Int32) (se : Int32) (n : Nat) (o : Nat → Int32) (h : Nat → Int32) (t : Nat → Int32) (s : Nat → Int32) (g : Nat → Int32) (kn : Nat) (lo : Int32) (lf : Int32) (nm : Nat → Int32) (sv : Nat → Int32) (sl : Nat → Int32) (ik : Nat → Int32) (bf : Nat → Nat) (co : Nat → Int32) (go : Nat → Int32) (fo : Nat → Int32) (j : Nat) (p : Nat) (z : Int32)  (hj : j < 2) (hp : p < n) (hn : n ≤ 6) (hla : mLaid n h t z co go) : kI yX4_isSeen wsX4_isSeen rm_X4_isSeen cy [.ref (a 0), .int (nI j), .int (nI p)] (wM a cy th sm ln pt sg fi se (mSt n o h t s g kn lo lf nm) sv sl ik bf co go fo) (bI (o j = 1 ∧ sSeen h t g z p = true)) (wM a cy th sm ln pt sg fi se (mSt n o h t s g kn lo lf nm) sv sl ik bf co go fo) := by
  refine kI_of (cc := cX4_isSeen) (maxL := 3) (rt := .boolean) (by decide) rfl (kb_nar _) (Nat.le_of_ble_eq_true rfl) ?_
  intro X hR C E
  have C : kC X 3 RX4 cX4_isSeen wsX4_isSeen cy := C
  refine k_fr (fr2 := [(0, .ref (a 0)), (1, .int (nI j)), (2, .int (nI p))]) ⟨[0, 1, 2], rfl⟩ ?_
  refine k_aload_n (q := 1) C 0 dX4_isSeen_0 rfl rfl ?_
  refine k_get (q := 4) (ci := 4) (v := .ref (a 1)) C 0 1 in4_X4_isSeen rfl (List.mem_of_getElem? (i := 1) rfl) rfl rfl (by decide) rfl dX4_isSeen_1 rfl ?_
  refine k_bipush (q := 6) (v := 6) C dX4_isSeen_4 (by decide +kernel) rfl ?_
  refine k_iload_n (q := 7) C 1 dX4_isSeen_6 rfl rfl ?_
  refine k_iadd (q := 8) C dX4_isSeen_7 rfl ?_
  refine k_st (st2 := (.int (nI (6 + j)) :: _)) (congrArg (fun z => Value.int z :: _) (show 6 + (nI j) = nI (6 + j) from nI_add 6 j)) ?_
  refine k_iald (q := 9) C 1 rfl (vp_in_nI (n := 6 + j) (by omega) (by decide)) dX4_isSeen_8 rfl ?_
  refine k_st (st2 := (.int ((mSt n o h t s g kn lo lf nm) (6 + j)) :: _)) (congrArg (fun z => Value.int z :: _) (show (mSt n o h t s g kn lo lf nm) (nI (6 + j)).toNatClampNeg = (mSt n o h t s g kn lo lf nm) (6 + j) from congrArg (mSt n o h t s g kn lo lf nm) (nI_clamp (n := 6 + j) (by omega)))) ?_
  refine k_st (st2 := (.int (o j) :: _)) (congrArg (fun z => Value.int z :: _) (show (mSt n o h t s g kn lo lf nm) (6 + j) = o j from mSt_o (k := j) (by omega))) ?_
  refine k_iconst (q := 10) (v := 1) C dX4_isSeen_9 (by decide) rfl ?_
  refine k_icmp_ne (tgt := 32) (q := 13) C dX4_isSeen_10 (by decide) rfl ?_ ?_
  · intro c_10
    refine k_iconst (q := 33) (v := 0) C dX4_isSeen_32 (by decide) rfl ?_
    exact k_fin E dX4_isSeen_33 (by first | exact bI_f (fun q => c_10 q.1) | exact bI_f (fun q => Int32.not_le.mpr c_25 (of_decide_eq_true q.2)) | exact bI_t ⟨c_10, decide_eq_true (Int32.not_lt.mp c_25)⟩) (rfl)
  · intro c_10
    refine k_aload_n (q := 14) C 0 dX4_isSeen_13 rfl rfl ?_
    refine k_iload_n (q := 15) C 1 dX4_isSeen_14 rfl rfl ?_
    refine k_iload_n (q := 16) C 2 dX4_isSeen_15 rfl rfl ?_
    refine k_callVI (n := 2) (q := 19) (pre := ([] : va_W)) (post := ([] : va_W)) (w2 := (wM a cy th sm ln pt sg fi se (mSt n o h t s g kn lo lf nm) sv sl ik bf co go fo)) (As := [.int (nI j), .int (nI p)]) (rest := []) C (c_X4_brightness cy a th sm ln pt sg fi se n o h t s g kn lo lf nm sv sl ik bf co go fo j p (by omega) (by omega)) gX4_isSeen_X4_brightness rfl rfl rfl (by decide +kernel) (k_room hR (by decide)) ⟨Nat.zero_le _, Nat.zero_le _⟩ (ci := 4) rfl 0 rfl rfl rfl (Nat.le_of_ble_eq_true rfl) ((List.append_nil _).symm) (List.append_nil _) dX4_isSeen_16 rfl ?_
    refine k_st (st2 := (.int (sBr h t z p) :: _)) (congrArg (fun z => Value.int z :: _) (show co (6 * j + p) - go (6 * j + p) = sBr h t z p from by rw [(hla j p hj hp).1, (hla j p hj hp).2, sGo_s, i32_sub_sub])) ?_
    refine k_aload_n (q := 20) C 0 dX4_isSeen_19 rfl rfl ?_
    refine k_get (q := 23) (ci := 4) (v := .ref (a 1)) C 0 1 in4_X4_isSeen rfl (List.mem_of_getElem? (i := 1) rfl) rfl rfl (by decide) rfl dX4_isSeen_20 rfl ?_
    refine k_iconst (q := 24) (v := 2) C dX4_isSeen_23 (by decide) rfl ?_
    refine k_iald (q := 25) C 1 rfl (vp_in_nI (n := 2) (by decide) (by decide)) dX4_isSeen_24 rfl ?_
    refine k_st (st2 := (.int ((mSt n o h t s g kn lo lf nm) 2) :: _)) (congrArg (fun z => Value.int z :: _) (show (mSt n o h t s g kn lo lf nm) (2 : Int32).toNatClampNeg = (mSt n o h t s g kn lo lf nm) 2 from congrArg (mSt n o h t s g kn lo lf nm) (nI_clamp (n := 2) (by decide)))) ?_
    refine k_st (st2 := (.int (g 2) :: _)) (congrArg (fun z => Value.int z :: _) (show (mSt n o h t s g kn lo lf nm) 2 = g 2 from mSt_g (k := 2) (by decide))) ?_
    refine k_icmp_lt (tgt := 32) (q := 28) C dX4_isSeen_25 (by decide) rfl ?_ ?_
    · intro c_25
      refine k_iconst (q := 33) (v := 0) C dX4_isSeen_32 (by decide) rfl ?_
      exact k_fin E dX4_isSeen_33 (by first | exact bI_f (fun q => c_10 q.1) | exact bI_f (fun q => Int32.not_le.mpr c_25 (of_decide_eq_true q.2)) | exact bI_t ⟨c_10, decide_eq_true (Int32.not_lt.mp c_25)⟩) (rfl)
    · intro c_25
      refine k_iconst (q := 29) (v := 1) C dX4_isSeen_28 (by decide) rfl ?_
      refine k_goto (q := 33) C dX4_isSeen_29 (by decide) ?_
      exact k_fin E dX4_isSeen_33 (by first | exact bI_f (fun q => c_10 q.1) | exact bI_f (fun q => Int32.not_le.mpr c_25 (of_decide_eq_true q.2)) | exact bI_t ⟨c_10, decide_eq_true (Int32.not_lt.mp c_25)⟩) (rfl)
abbrev rm_X4_isPair : Room := { frames := 2, cells := 0, slots := 0, locals := 44 }
theorem in4_X4_isPair : ∀ w ∈ wsX40, w ∈ wsX4_isPair := fun _ h => (List.mem_cons_of_mem _ (List.mem_append_right _ h))
set_option maxHeartbeats 4000000 in
set_option maxRecDepth 100000 in
theorem c_X4_isPair (cy : Nat → ClassId) (a : Nat → Nat) (th : Int32) (sm : Nat) (ln : Nat) (pt : Nat) (sg : Nat) (fi : Int32) (se : Int32) (n : Nat) (o : Nat → Int32) (h : Nat → Int32) (t : Nat → Int32) (s : Nat → Int32) (g : Nat → Int32) (kn : Nat) (lo : Int32) (lf : Int32) (nm : Nat → Int32) (sv : Nat → Int32) (sl : Nat → Int32) (ik : Nat → Int32) (bf : Nat → Nat) (co : Nat → Int32) (go : Nat → Int32) (fo : Nat → Int32) (p : Nat)  (hp : p < n) (hn : n ≤ 6) (ho : mBin o) (hla : mLaid n h t (g 1) co go) : kI yX4_isPair wsX4_isPair rm_X4_isPair cy [.ref (a 0), .int (nI p)] (wM a cy th sm ln pt sg fi se (mSt n o h t s g kn lo lf nm) sv sl ik bf co go fo) (bI (sPair (mLit o) h t g p = true)) (wM a cy th sm ln pt sg fi se (mSt n o h t s g kn lo lf nm) sv sl ik bf co go fo) := by
  refine kI_of (cc := cX4_isPair) (maxL := 2) (rt := .boolean) (by decide) rfl (kb_nar _) (Nat.le_of_ble_eq_true rfl) ?_
  intro X hR C E
  have C : kC X 2 RX4 cX4_isPair wsX4_isPair cy := C
  refine k_fr (fr2 := [(0, .ref (a 0)), (1, .int (nI p))]) ⟨[0, 1], rfl⟩ ?_
  refine k_aload_n (q := 1) C 0 dX4_isPair_0 rfl rfl ?_
  refine k_iconst (q := 2) (v := 0) C dX4_isPair_1 (by decide) rfl ?_
  refine k_iload_n (q := 3) C 1 dX4_isPair_2 rfl rfl ?_
  refine k_callVI (n := 2) (q := 6) (pre := ([] : va_W)) (post := ([] : va_W)) (w2 := (wM a cy th sm ln pt sg fi se (mSt n o h t s g kn lo lf nm) sv sl ik bf co go fo)) (As := [.int 0, .int (nI p)]) (rest := []) C (c_X4_isSeen cy a th sm ln pt sg fi se n o h t s g kn lo lf nm sv sl ik bf co go fo 0 p (g 1) (by decide) hp hn hla) gX4_isPair_X4_isSeen rfl rfl rfl (by decide +kernel) (k_room hR (by decide)) ⟨Nat.zero_le _, Nat.zero_le _⟩ (ci := 4) rfl 0 rfl rfl rfl (Nat.le_of_ble_eq_true rfl) ((List.append_nil _).symm) (List.append_nil _) dX4_isPair_3 rfl ?_
  refine k_ifB_eq (tgt := 22) (q := 9) C dX4_isPair_6 (by decide) rfl ?_ ?_
  · intro c_6
    refine k_iconst (q := 23) (v := 0) C dX4_isPair_22 (by decide) rfl ?_
    exact k_fin E dX4_isPair_23 (by first | exact bI_f (fun q => c_6 (mPair_1 ho q)) | exact bI_f (fun q => c_15 (mPair_2 ho q)) | exact bI_t (mPair_i ho c_6 c_15)) (rfl)
  · intro c_6
    refine k_aload_n (q := 10) C 0 dX4_isPair_9 rfl rfl ?_
    refine k_iconst (q := 11) (v := 1) C dX4_isPair_10 (by decide) rfl ?_
    refine k_iload_n (q := 12) C 1 dX4_isPair_11 rfl rfl ?_
    refine k_callVI (n := 2) (q := 15) (pre := ([] : va_W)) (post := ([] : va_W)) (w2 := (wM a cy th sm ln pt sg fi se (mSt n o h t s g kn lo lf nm) sv sl ik bf co go fo)) (As := [.int 1, .int (nI p)]) (rest := []) C (c_X4_isSeen cy a th sm ln pt sg fi se n o h t s g kn lo lf nm sv sl ik bf co go fo 1 p (g 1) (by decide) hp hn hla) gX4_isPair_X4_isSeen rfl rfl rfl (by decide +kernel) (k_room hR (by decide)) ⟨Nat.zero_le _, Nat.zero_le _⟩ (ci := 4) rfl 0 rfl rfl rfl (Nat.le_of_ble_eq_true rfl) ((List.append_nil _).symm) (List.append_nil _) dX4_isPair_12 rfl ?_
    refine k_ifB_eq (tgt := 22) (q := 18) C dX4_isPair_15 (by decide) rfl ?_ ?_
    · intro c_15
      refine k_iconst (q := 23) (v := 0) C dX4_isPair_22 (by decide) rfl ?_
      exact k_fin E dX4_isPair_23 (by first | exact bI_f (fun q => c_6 (mPair_1 ho q)) | exact bI_f (fun q => c_15 (mPair_2 ho q)) | exact bI_t (mPair_i ho c_6 c_15)) (rfl)
    · intro c_15
      refine k_iconst (q := 19) (v := 1) C dX4_isPair_18 (by decide) rfl ?_
      refine k_goto (q := 23) C dX4_isPair_19 (by decide) ?_
      exact k_fin E dX4_isPair_23 (by first | exact bI_f (fun q => c_6 (mPair_1 ho q)) | exact bI_f (fun q => c_15 (mPair_2 ho q)) | exact bI_t (mPair_i ho c_6 c_15)) (rfl)
abbrev rm_X4_distance : Room := { frames := 2, cells := 0, slots := 0, locals := 44 }
theorem in4_X4_distance : ∀ w ∈ wsX40, w ∈ wsX4_distance := fun _ h => (List.mem_cons_of_mem _ (List.mem_append_right _ h))
set_option maxHeartbeats 4000000 in
set_option maxRecDepth 100000 in
theorem c_X4_distance (cy : Nat → ClassId) (a : Nat → Nat) (th : Int32) (sm : Nat) (ln : Nat) (pt : Nat) (sg : Nat) (fi : Int32) (se : Int32) (n : Nat) (o : Nat → Int32) (h : Nat → Int32) (t : Nat → Int32) (s : Nat → Int32) (g : Nat → Int32) (kn : Nat) (lo : Int32) (lf : Int32) (nm : Nat → Int32) (sv : Nat → Int32) (sl : Nat → Int32) (ik : Nat → Int32) (bf : Nat → Nat) (co : Nat → Int32) (go : Nat → Int32) (fo : Nat → Int32) (p : Nat)  (hp : p < 6) : kI yX4_distance wsX4_distance rm_X4_distance cy [.ref (a 0), .int (nI p)] (wM a cy th sm ln pt sg fi se (mSt n o h t s g kn lo lf nm) sv sl ik bf co go fo) (sDist h g p (s 0) (s 1)) (wM a cy th sm ln pt sg fi se (mSt n o h t s g kn lo lf nm) sv sl ik bf co go fo) := by
  refine kI_of (cc := cX4_distance) (maxL := 2) (rt := .int) (by decide) rfl (rfl) (Nat.le_of_ble_eq_true rfl) ?_
  intro X hR C E
  have C : kC X 2 RX4 cX4_distance wsX4_distance cy := C
  refine k_fr (fr2 := [(0, .ref (a 0)), (1, .int (nI p))]) ⟨[0, 1], rfl⟩ ?_
  refine k_aload_n (q := 1) C 0 dX4_distance_0 rfl rfl ?_
  refine k_iconst (q := 2) (v := 1) C dX4_distance_1 (by decide) rfl ?_
  refine k_iload_n (q := 3) C 1 dX4_distance_2 rfl rfl ?_
  refine k_callVI (n := 2) (q := 6) (pre := ([] : va_W)) (post := ([] : va_W)) (w2 := (wM a cy th sm ln pt sg fi se (mSt n o h t s g kn lo lf nm) sv sl ik bf co go fo)) (As := [.int 1, .int (nI p)]) (rest := []) C (c_X4_place cy a th sm ln pt sg fi se n o h t s g kn lo lf nm sv sl ik bf co go fo 1 p (by omega) (by omega)) gX4_distance_X4_place rfl rfl rfl (by decide +kernel) (k_room hR (by decide)) ⟨Nat.zero_le _, Nat.zero_le _⟩ (ci := 4) rfl 0 rfl rfl rfl (Nat.le_of_ble_eq_true rfl) ((List.append_nil _).symm) (List.append_nil _) dX4_distance_3 rfl ?_
  refine k_aload_n (q := 7) C 0 dX4_distance_6 rfl rfl ?_
  refine k_iconst (q := 8) (v := 0) C dX4_distance_7 (by decide) rfl ?_
  refine k_iload_n (q := 9) C 1 dX4_distance_8 rfl rfl ?_
  refine k_callVI (n := 2) (q := 12) (pre := ([] : va_W)) (post := ([] : va_W)) (w2 := (wM a cy th sm ln pt sg fi se (mSt n o h t s g kn lo lf nm) sv sl ik bf co go fo)) (As := [.int 0, .int (nI p)]) (rest := [.int (sPlace g (nI 1) (s 1) (h p))]) C (c_X4_place cy a th sm ln pt sg fi se n o h t s g kn lo lf nm sv sl ik bf co go fo 0 p (by omega) (by omega)) gX4_distance_X4_place rfl rfl rfl (by decide +kernel) (k_room hR (by decide)) ⟨Nat.zero_le _, Nat.zero_le _⟩ (ci := 4) rfl 0 rfl rfl rfl (Nat.le_of_ble_eq_true rfl) ((List.append_nil _).symm) (List.append_nil _) dX4_distance_9 rfl ?_
  refine k_isub (q := 13) C dX4_distance_12 rfl ?_
  exact k_fin E dX4_distance_13 (rfl) (rfl)
abbrev rm_X4_isClose : Room := { frames := 3, cells := 0, slots := 0, locals := 65 }
theorem in4_X4_isClose : ∀ w ∈ wsX40, w ∈ wsX4_isClose := fun _ h => (List.mem_cons_of_mem _ (List.mem_append_right _ h))
set_option maxHeartbeats 4000000 in
set_option maxRecDepth 100000 in
theorem c_X4_isClose (cy : Nat → ClassId) (a : Nat → Nat) (th : Int32) (sm : Nat) (ln : Nat) (pt : Nat) (sg : Nat) (fi : Int32) (se : Int32) (n : Nat) (o : Nat → Int32) (h : Nat → Int32) (t : Nat → Int32) (s : Nat → Int32) (g : Nat → Int32) (kn : Nat) (lo : Int32) (lf : Int32) (nm : Nat → Int32) (sv : Nat → Int32) (sl : Nat → Int32) (ik : Nat → Int32) (bf : Nat → Nat) (co : Nat → Int32) (go : Nat → Int32) (fo : Nat → Int32) (p : Nat)  (hp : p < n) (hn : n ≤ 6) (ho : mBin o) (hla : mLaid n h t (g 1) co go) : kI yX4_isClose wsX4_isClose rm_X4_isClose cy [.ref (a 0), .int (nI p)] (wM a cy th sm ln pt sg fi se (mSt n o h t s g kn lo lf nm) sv sl ik bf co go fo) (bI (sClose (mLit o) h t s g p = true)) (wM a cy th sm ln pt sg fi se (mSt n o h t s g kn lo lf nm) sv sl ik bf co go fo) := by
  refine kI_of (cc := cX4_isClose) (maxL := 2) (rt := .boolean) (by decide) rfl (kb_nar _) (Nat.le_of_ble_eq_true rfl) ?_
  intro X hR C E
  have C : kC X 2 RX4 cX4_isClose wsX4_isClose cy := C
  refine k_fr (fr2 := [(0, .ref (a 0)), (1, .int (nI p))]) ⟨[0, 1], rfl⟩ ?_
  refine k_aload_n (q := 1) C 0 dX4_isClose_0 rfl rfl ?_
  refine k_iload_n (q := 2) C 1 dX4_isClose_1 rfl rfl ?_
  refine k_callVI (n := 1) (q := 5) (pre := ([] : va_W)) (post := ([] : va_W)) (w2 := (wM a cy th sm ln pt sg fi se (mSt n o h t s g kn lo lf nm) sv sl ik bf co go fo)) (As := [.int (nI p)]) (rest := []) C (c_X4_isPair cy a th sm ln pt sg fi se n o h t s g kn lo lf nm sv sl ik bf co go fo p hp hn ho hla) gX4_isClose_X4_isPair rfl rfl rfl (by decide +kernel) (k_room hR (by decide)) ⟨Nat.zero_le _, Nat.zero_le _⟩ (ci := 4) rfl 0 rfl rfl rfl (Nat.le_of_ble_eq_true rfl) ((List.append_nil _).symm) (List.append_nil _) dX4_isClose_2 rfl ?_
  refine k_ifB_eq (tgt := 29) (q := 8) C dX4_isClose_5 (by decide) rfl ?_ ?_
  · intro c_5
    refine k_iconst (q := 30) (v := 0) C dX4_isClose_29 (by decide) rfl ?_
    exact k_fin E dX4_isClose_30 (by first | exact bI_f (fun q => c_5 (sClose_1 q)) | exact bI_f (fun q => Int32.not_le.mpr c_22 (sClose_2 q)) | exact bI_t (sClose_i c_5 (Int32.not_lt.mp c_22))) (rfl)
  · intro c_5
    refine k_aload_n (q := 9) C 0 dX4_isClose_8 rfl rfl ?_
    refine k_iload_n (q := 10) C 1 dX4_isClose_9 rfl rfl ?_
    refine k_callVI (n := 1) (q := 13) (pre := ([] : va_W)) (post := ([] : va_W)) (w2 := (wM a cy th sm ln pt sg fi se (mSt n o h t s g kn lo lf nm) sv sl ik bf co go fo)) (As := [.int (nI p)]) (rest := []) C (c_X4_distance cy a th sm ln pt sg fi se n o h t s g kn lo lf nm sv sl ik bf co go fo p (by omega)) gX4_isClose_X4_distance rfl rfl rfl (by decide +kernel) (k_room hR (by decide)) ⟨Nat.zero_le _, Nat.zero_le _⟩ (ci := 4) rfl 0 rfl rfl rfl (Nat.le_of_ble_eq_true rfl) ((List.append_nil _).symm) (List.append_nil _) dX4_isClose_10 rfl ?_
    refine k_callSI (n := 1) (q := 16) (pre := ([] : va_W)) (post := (wM a cy th sm ln pt sg fi se (mSt n o h t s g kn lo lf nm) sv sl ik bf co go fo)) (w2 := (wM a cy th sm ln pt sg fi se (mSt n o h t s g kn lo lf nm) sv sl ik bf co go fo)) (As := [.int (sDist h g p (s 0) (s 1))]) (rest := []) C (c_X4_sizeOf (sDist h g p (s 0) (s 1))) gX4_isClose_X4_sizeOf rfl rfl rfl (by decide +kernel) (k_room hR (by decide)) ⟨Nat.zero_le _, Nat.zero_le _⟩  rfl rfl (Nat.le_of_ble_eq_true rfl) (rfl) (rfl) dX4_isClose_13 rfl ?_
    refine k_aload_n (q := 17) C 0 dX4_isClose_16 rfl rfl ?_
    refine k_get (q := 20) (ci := 4) (v := .ref (a 1)) C 0 1 in4_X4_isClose rfl (List.mem_of_getElem? (i := 1) rfl) rfl rfl (by decide) rfl dX4_isClose_17 rfl ?_
    refine k_iconst (q := 21) (v := 3) C dX4_isClose_20 (by decide) rfl ?_
    refine k_iald (q := 22) C 1 rfl (vp_in_nI (n := 3) (by decide) (by decide)) dX4_isClose_21 rfl ?_
    refine k_st (st2 := (.int ((mSt n o h t s g kn lo lf nm) 3) :: _)) (congrArg (fun z => Value.int z :: _) (show (mSt n o h t s g kn lo lf nm) (3 : Int32).toNatClampNeg = (mSt n o h t s g kn lo lf nm) 3 from congrArg (mSt n o h t s g kn lo lf nm) (nI_clamp (n := 3) (by decide)))) ?_
    refine k_st (st2 := (.int (g 3) :: _)) (congrArg (fun z => Value.int z :: _) (show (mSt n o h t s g kn lo lf nm) 3 = g 3 from mSt_g (k := 3) (by decide))) ?_
    refine k_icmp_gt (tgt := 29) (q := 25) C dX4_isClose_22 (by decide) rfl ?_ ?_
    · intro c_22
      refine k_iconst (q := 30) (v := 0) C dX4_isClose_29 (by decide) rfl ?_
      exact k_fin E dX4_isClose_30 (by first | exact bI_f (fun q => c_5 (sClose_1 q)) | exact bI_f (fun q => Int32.not_le.mpr c_22 (sClose_2 q)) | exact bI_t (sClose_i c_5 (Int32.not_lt.mp c_22))) (rfl)
    · intro c_22
      refine k_iconst (q := 26) (v := 1) C dX4_isClose_25 (by decide) rfl ?_
      refine k_goto (q := 30) C dX4_isClose_26 (by decide) ?_
      exact k_fin E dX4_isClose_30 (by first | exact bI_f (fun q => c_5 (sClose_1 q)) | exact bI_f (fun q => Int32.not_le.mpr c_22 (sClose_2 q)) | exact bI_t (sClose_i c_5 (Int32.not_lt.mp c_22))) (rfl)
abbrev rm_X4_seenSpots : Room := { frames := 2, cells := 0, slots := 0, locals := 44 }
theorem in4_X4_seenSpots : ∀ w ∈ wsX40, w ∈ wsX4_seenSpots := fun _ h => (List.mem_cons_of_mem _ (List.mem_append_right _ h))
set_option maxHeartbeats 4000000 in
set_option maxRecDepth 100000 in
theorem lp_X4_seenSpots_4 (cy : Nat → ClassId) (a : Nat → Nat) (th : Int32) (sm : Nat) (ln : Nat) (pt : Nat) (sg : Nat) (fi : Int32) (se : Int32) (n : Nat) (o : Nat → Int32) (h : Nat → Int32) (t : Nat → Int32) (s : Nat → Int32) (g : Nat → Int32) (kn : Nat) (lo : Int32) (lf : Int32) (nm : Nat → Int32) (sv : Nat → Int32) (sl : Nat → Int32) (ik : Nat → Int32) (bf : Nat → Nat) (co : Nat → Int32) (go : Nat → Int32) (fo : Nat → Int32) (z : Int32)  (hn : n ≤ 6) (hla : mLaid n h t z co go) (X : kX) (hR : xR X = rm_X4_seenSpots) (C : kC X 3 RX4 cX4_seenSpots wsX4_seenSpots cy) (E : kEnd X 3 cX4_seenSpots (mSpots o h t g z n) (wM a cy th sm ln pt sg fi se (mSt n o h t s g kn lo lf nm) sv sl ik bf co go fo)) : ∀ (fu : Nat) (k : Nat), n - k < fu → (k ≤ n) → kG X 3 0 0 (wM a cy th sm ln pt sg fi se (mSt n o h t s g kn lo lf nm) sv sl ik bf co go fo) 4 [(0, .ref (a 0)), (1, .int (mSpots o h t g z k)), (2, .int (nI k))] [] := by
  intro fu
  induction fu with
  | zero => intro k hfu; exact absurd hfu (Nat.not_lt_zero _)
  | succ fu ih =>
    intro k hfu hk
    refine k_iload_n (q := 5) C 2 dX4_seenSpots_4 rfl rfl ?_
    refine k_aload_n (q := 6) C 0 dX4_seenSpots_5 rfl rfl ?_
    refine k_get (q := 9) (ci := 4) (v := .ref (a 1)) C 0 1 in4_X4_seenSpots rfl (List.mem_of_getElem? (i := 1) rfl) rfl rfl (by decide) rfl dX4_seenSpots_6 rfl ?_
    refine k_bipush (q := 11) (v := 8) C dX4_seenSpots_9 (by decide +kernel) rfl ?_
    refine k_iald (q := 12) C 1 rfl (vp_in_nI (n := 8) (by decide) (by decide)) dX4_seenSpots_11 rfl ?_
    refine k_st (st2 := (.int ((mSt n o h t s g kn lo lf nm) 8) :: _)) (congrArg (fun z => Value.int z :: _) (show (mSt n o h t s g kn lo lf nm) (8 : Int32).toNatClampNeg = (mSt n o h t s g kn lo lf nm) 8 from congrArg (mSt n o h t s g kn lo lf nm) (nI_clamp (n := 8) (by decide)))) ?_
    refine k_st (st2 := (.int (nI n) :: _)) (congrArg (fun z => Value.int z :: _) (show (mSt n o h t s g kn lo lf nm) 8 = nI n from rfl)) ?_
    refine k_nicmp_ge (a := k) (b := n)  (tgt := 53) (q := 15) C dX4_seenSpots_12 (by decide) rfl (by omega) (by omega) ?_ ?_
    · intro c_12
      obtain rfl : n = k := by omega
      refine k_iload_n (q := 54) C 1 dX4_seenSpots_53 rfl rfl ?_
      exact k_fin E dX4_seenSpots_54 (rfl) (rfl)
    · intro c_12
      refine k_iload_n (q := 16) C 1 dX4_seenSpots_15 rfl rfl ?_
      refine k_aload_n (q := 17) C 0 dX4_seenSpots_16 rfl rfl ?_
      refine k_iconst (q := 18) (v := 0) C dX4_seenSpots_17 (by decide) rfl ?_
      refine k_iload_n (q := 19) C 2 dX4_seenSpots_18 rfl rfl ?_
      refine k_callVI (n := 2) (q := 22) (pre := ([] : va_W)) (post := ([] : va_W)) (w2 := (wM a cy th sm ln pt sg fi se (mSt n o h t s g kn lo lf nm) sv sl ik bf co go fo)) (As := [.int 0, .int (nI k)]) (rest := [.int (mSpots o h t g z k)]) C (c_X4_isSeen cy a th sm ln pt sg fi se n o h t s g kn lo lf nm sv sl ik bf co go fo 0 k z (by decide) (by omega) hn hla) gX4_seenSpots_X4_isSeen rfl rfl rfl (by decide +kernel) (k_room hR (by decide)) ⟨Nat.zero_le _, Nat.zero_le _⟩ (ci := 4) rfl 0 rfl rfl rfl (Nat.le_of_ble_eq_true rfl) ((List.append_nil _).symm) (List.append_nil _) dX4_seenSpots_19 rfl ?_
      refine k_ifB_eq (tgt := 29) (q := 25) C dX4_seenSpots_22 (by decide) rfl ?_ ?_
      · intro c_22
        refine k_iconst (q := 30) (v := 0) C dX4_seenSpots_29 (by decide) rfl ?_
        refine k_aload_n (q := 31) C 0 dX4_seenSpots_30 rfl rfl ?_
        refine k_iconst (q := 32) (v := 1) C dX4_seenSpots_31 (by decide) rfl ?_
        refine k_iload_n (q := 33) C 2 dX4_seenSpots_32 rfl rfl ?_
        refine k_callVI (n := 2) (q := 36) (pre := ([] : va_W)) (post := ([] : va_W)) (w2 := (wM a cy th sm ln pt sg fi se (mSt n o h t s g kn lo lf nm) sv sl ik bf co go fo)) (As := [.int 1, .int (nI k)]) (rest := [.int 0, .int (mSpots o h t g z k)]) C (c_X4_isSeen cy a th sm ln pt sg fi se n o h t s g kn lo lf nm sv sl ik bf co go fo 1 k z (by decide) (by omega) hn hla) gX4_seenSpots_X4_isSeen rfl rfl rfl (by decide +kernel) (k_room hR (by decide)) ⟨Nat.zero_le _, Nat.zero_le _⟩ (ci := 4) rfl 0 rfl rfl rfl (Nat.le_of_ble_eq_true rfl) ((List.append_nil _).symm) (List.append_nil _) dX4_seenSpots_33 rfl ?_
        refine k_ifB_eq (tgt := 43) (q := 39) C dX4_seenSpots_36 (by decide) rfl ?_ ?_
        · intro c_36
          refine k_iconst (q := 44) (v := 0) C dX4_seenSpots_43 (by decide) rfl ?_
          refine k_iadd (q := 45) C dX4_seenSpots_44 rfl ?_
          refine k_iadd (q := 46) C dX4_seenSpots_45 rfl ?_
          refine k_st (st2 := (.int (mSpots o h t g z (k + 1)) :: _)) (congrArg (fun z => Value.int z :: _) (show (mSpots o h t g z k) + (0 + 0) = mSpots o h t g z (k + 1) from by show _ = mSpots o h t g z k + (bI (o 0 = 1 ∧ sSeen h t g z k = true) + bI (o 1 = 1 ∧ sSeen h t g z k = true)); first | rw [← bI_t c_22, ← bI_t c_36] | rw [← bI_t c_22, ← bI_f c_36] | rw [← bI_f c_22, ← bI_t c_36] | rw [← bI_f c_22, ← bI_f c_36])) ?_
          refine k_istore_n (q := 47) (fr2 := [(1, .int (mSpots o h t g z (k + 1))), (0, .ref (a 0)), (2, .int (nI k))]) C dX4_seenSpots_46 (by decide) rfl rfl ?_
          refine k_iinc (q := 50) (v := nI (k + 1)) (fr2 := [(2, .int (nI (k + 1))), (1, .int (mSpots o h t g z (k + 1))), (0, .ref (a 0))]) C 2 dX4_seenSpots_47 rfl (nI_add k 1) (by decide) rfl rfl ?_
          refine k_goto (q := 4) C dX4_seenSpots_50 (by decide) ?_
          refine k_fr (fr2 := [(0, .ref (a 0)), (1, .int (mSpots o h t g z (k + 1))), (2, .int (nI (k + 1)))]) ⟨[2, 1, 0], rfl⟩ ?_
          exact ih (k + 1) (by omega) (by omega)
        · intro c_36
          refine k_iconst (q := 40) (v := 1) C dX4_seenSpots_39 (by decide) rfl ?_
          refine k_goto (q := 44) C dX4_seenSpots_40 (by decide) ?_
          refine k_iadd (q := 45) C dX4_seenSpots_44 rfl ?_
          refine k_iadd (q := 46) C dX4_seenSpots_45 rfl ?_
          refine k_st (st2 := (.int (mSpots o h t g z (k + 1)) :: _)) (congrArg (fun z => Value.int z :: _) (show (mSpots o h t g z k) + (0 + 1) = mSpots o h t g z (k + 1) from by show _ = mSpots o h t g z k + (bI (o 0 = 1 ∧ sSeen h t g z k = true) + bI (o 1 = 1 ∧ sSeen h t g z k = true)); first | rw [← bI_t c_22, ← bI_t c_36] | rw [← bI_t c_22, ← bI_f c_36] | rw [← bI_f c_22, ← bI_t c_36] | rw [← bI_f c_22, ← bI_f c_36])) ?_
          refine k_istore_n (q := 47) (fr2 := [(1, .int (mSpots o h t g z (k + 1))), (0, .ref (a 0)), (2, .int (nI k))]) C dX4_seenSpots_46 (by decide) rfl rfl ?_
          refine k_iinc (q := 50) (v := nI (k + 1)) (fr2 := [(2, .int (nI (k + 1))), (1, .int (mSpots o h t g z (k + 1))), (0, .ref (a 0))]) C 2 dX4_seenSpots_47 rfl (nI_add k 1) (by decide) rfl rfl ?_
          refine k_goto (q := 4) C dX4_seenSpots_50 (by decide) ?_
          refine k_fr (fr2 := [(0, .ref (a 0)), (1, .int (mSpots o h t g z (k + 1))), (2, .int (nI (k + 1)))]) ⟨[2, 1, 0], rfl⟩ ?_
          exact ih (k + 1) (by omega) (by omega)
      · intro c_22
        refine k_iconst (q := 26) (v := 1) C dX4_seenSpots_25 (by decide) rfl ?_
        refine k_goto (q := 30) C dX4_seenSpots_26 (by decide) ?_
        refine k_aload_n (q := 31) C 0 dX4_seenSpots_30 rfl rfl ?_
        refine k_iconst (q := 32) (v := 1) C dX4_seenSpots_31 (by decide) rfl ?_
        refine k_iload_n (q := 33) C 2 dX4_seenSpots_32 rfl rfl ?_
        refine k_callVI (n := 2) (q := 36) (pre := ([] : va_W)) (post := ([] : va_W)) (w2 := (wM a cy th sm ln pt sg fi se (mSt n o h t s g kn lo lf nm) sv sl ik bf co go fo)) (As := [.int 1, .int (nI k)]) (rest := [.int 1, .int (mSpots o h t g z k)]) C (c_X4_isSeen cy a th sm ln pt sg fi se n o h t s g kn lo lf nm sv sl ik bf co go fo 1 k z (by decide) (by omega) hn hla) gX4_seenSpots_X4_isSeen rfl rfl rfl (by decide +kernel) (k_room hR (by decide)) ⟨Nat.zero_le _, Nat.zero_le _⟩ (ci := 4) rfl 0 rfl rfl rfl (Nat.le_of_ble_eq_true rfl) ((List.append_nil _).symm) (List.append_nil _) dX4_seenSpots_33 rfl ?_
        refine k_ifB_eq (tgt := 43) (q := 39) C dX4_seenSpots_36 (by decide) rfl ?_ ?_
        · intro c_36
          refine k_iconst (q := 44) (v := 0) C dX4_seenSpots_43 (by decide) rfl ?_
          refine k_iadd (q := 45) C dX4_seenSpots_44 rfl ?_
          refine k_iadd (q := 46) C dX4_seenSpots_45 rfl ?_
          refine k_st (st2 := (.int (mSpots o h t g z (k + 1)) :: _)) (congrArg (fun z => Value.int z :: _) (show (mSpots o h t g z k) + (1 + 0) = mSpots o h t g z (k + 1) from by show _ = mSpots o h t g z k + (bI (o 0 = 1 ∧ sSeen h t g z k = true) + bI (o 1 = 1 ∧ sSeen h t g z k = true)); first | rw [← bI_t c_22, ← bI_t c_36] | rw [← bI_t c_22, ← bI_f c_36] | rw [← bI_f c_22, ← bI_t c_36] | rw [← bI_f c_22, ← bI_f c_36])) ?_
          refine k_istore_n (q := 47) (fr2 := [(1, .int (mSpots o h t g z (k + 1))), (0, .ref (a 0)), (2, .int (nI k))]) C dX4_seenSpots_46 (by decide) rfl rfl ?_
          refine k_iinc (q := 50) (v := nI (k + 1)) (fr2 := [(2, .int (nI (k + 1))), (1, .int (mSpots o h t g z (k + 1))), (0, .ref (a 0))]) C 2 dX4_seenSpots_47 rfl (nI_add k 1) (by decide) rfl rfl ?_
          refine k_goto (q := 4) C dX4_seenSpots_50 (by decide) ?_
          refine k_fr (fr2 := [(0, .ref (a 0)), (1, .int (mSpots o h t g z (k + 1))), (2, .int (nI (k + 1)))]) ⟨[2, 1, 0], rfl⟩ ?_
          exact ih (k + 1) (by omega) (by omega)
        · intro c_36
          refine k_iconst (q := 40) (v := 1) C dX4_seenSpots_39 (by decide) rfl ?_
          refine k_goto (q := 44) C dX4_seenSpots_40 (by decide) ?_
          refine k_iadd (q := 45) C dX4_seenSpots_44 rfl ?_
          refine k_iadd (q := 46) C dX4_seenSpots_45 rfl ?_
          refine k_st (st2 := (.int (mSpots o h t g z (k + 1)) :: _)) (congrArg (fun z => Value.int z :: _) (show (mSpots o h t g z k) + (1 + 1) = mSpots o h t g z (k + 1) from by show _ = mSpots o h t g z k + (bI (o 0 = 1 ∧ sSeen h t g z k = true) + bI (o 1 = 1 ∧ sSeen h t g z k = true)); first | rw [← bI_t c_22, ← bI_t c_36] | rw [← bI_t c_22, ← bI_f c_36] | rw [← bI_f c_22, ← bI_t c_36] | rw [← bI_f c_22, ← bI_f c_36])) ?_
          refine k_istore_n (q := 47) (fr2 := [(1, .int (mSpots o h t g z (k + 1))), (0, .ref (a 0)), (2, .int (nI k))]) C dX4_seenSpots_46 (by decide) rfl rfl ?_
          refine k_iinc (q := 50) (v := nI (k + 1)) (fr2 := [(2, .int (nI (k + 1))), (1, .int (mSpots o h t g z (k + 1))), (0, .ref (a 0))]) C 2 dX4_seenSpots_47 rfl (nI_add k 1) (by decide) rfl rfl ?_
          refine k_goto (q := 4) C dX4_seenSpots_50 (by decide) ?_
          refine k_fr (fr2 := [(0, .ref (a 0)), (1, .int (mSpots o h t g z (k + 1))), (2, .int (nI (k + 1)))]) ⟨[2, 1, 0], rfl⟩ ?_
          exact ih (k + 1) (by omega) (by omega)
set_option maxHeartbeats 4000000 in
set_option maxRecDepth 100000 in
theorem c_X4_seenSpots (cy : Nat → ClassId) (a : Nat → Nat) (th : Int32) (sm : Nat) (ln : Nat) (pt : Nat) (sg : Nat) (fi : Int32) (se : Int32) (n : Nat) (o : Nat → Int32) (h : Nat → Int32) (t : Nat → Int32) (s : Nat → Int32) (g : Nat → Int32) (kn : Nat) (lo : Int32) (lf : Int32) (nm : Nat → Int32) (sv : Nat → Int32) (sl : Nat → Int32) (ik : Nat → Int32) (bf : Nat → Nat) (co : Nat → Int32) (go : Nat → Int32) (fo : Nat → Int32) (z : Int32)  (hn : n ≤ 6) (hla : mLaid n h t z co go) : kI yX4_seenSpots wsX4_seenSpots rm_X4_seenSpots cy [.ref (a 0)] (wM a cy th sm ln pt sg fi se (mSt n o h t s g kn lo lf nm) sv sl ik bf co go fo) (mSpots o h t g z n) (wM a cy th sm ln pt sg fi se (mSt n o h t s g kn lo lf nm) sv sl ik bf co go fo) := by
  refine kI_of (cc := cX4_seenSpots) (maxL := 3) (rt := .int) (by decide) rfl (rfl) (Nat.le_of_ble_eq_true rfl) ?_
  intro X hR C E
  have C : kC X 3 RX4 cX4_seenSpots wsX4_seenSpots cy := C
  refine k_fr (fr2 := [(0, .ref (a 0))]) ⟨[0], rfl⟩ ?_
  refine k_iconst (q := 1) (v := 0) C dX4_seenSpots_0 (by decide) rfl ?_
  refine k_istore_n (q := 2) (fr2 := [(1, .int 0), (0, .ref (a 0))]) C dX4_seenSpots_1 (by decide) rfl rfl ?_
  refine k_iconst (q := 3) (v := 0) C dX4_seenSpots_2 (by decide) rfl ?_
  refine k_istore_n (q := 4) (fr2 := [(2, .int 0), (1, .int 0), (0, .ref (a 0))]) C dX4_seenSpots_3 (by decide) rfl rfl ?_
  refine k_fr (fr2 := [(0, .ref (a 0)), (1, .int 0), (2, .int 0)]) ⟨[2, 1, 0], rfl⟩ ?_
  exact lp_X4_seenSpots_4 cy a th sm ln pt sg fi se n o h t s g kn lo lf nm sv sl ik bf co go fo z hn hla X hR C E _ 0 (Nat.lt_succ_self _) (by omega)
abbrev rm_X4_meeting : Room := { frames := 0, cells := 0, slots := 0, locals := 0 }
theorem in4_X4_meeting : ∀ w ∈ wsX40, w ∈ wsX4_meeting := fun _ h => (List.mem_cons_of_mem _ (List.mem_append_right _ h))
set_option maxHeartbeats 4000000 in
set_option maxRecDepth 100000 in
theorem c_X4_meeting (cy : Nat → ClassId) (a : Nat → Nat) (th : Int32) (sm : Nat) (ln : Nat) (pt : Nat) (sg : Nat) (fi : Int32) (se : Int32) (n : Nat) (o : Nat → Int32) (h : Nat → Int32) (t : Nat → Int32) (s : Nat → Int32) (g : Nat → Int32) (kn : Nat) (lo : Int32) (lf : Int32) (nm : Nat → Int32) (sv : Nat → Int32) (sl : Nat → Int32) (ik : Nat → Int32) (bf : Nat → Nat) (co : Nat → Int32) (go : Nat → Int32) (fo : Nat → Int32)  (h0 : sOk (s 0)) (h1 : sOk (s 1)) : kI yX4_meeting wsX4_meeting rm_X4_meeting cy [.ref (a 0)] (wM a cy th sm ln pt sg fi se (mSt n o h t s g kn lo lf nm) sv sl ik bf co go fo) (sMeet g (s 0) (s 1)) (wM a cy th sm ln pt sg fi se (mSt n o h t s g kn lo lf nm) sv sl ik bf co go fo) := by
  refine kI_of (cc := cX4_meeting) (maxL := 2) (rt := .int) (by decide) rfl (rfl) (Nat.le_of_ble_eq_true rfl) ?_
  intro X hR C E
  have C : kC X 2 RX4 cX4_meeting wsX4_meeting cy := C
  refine k_fr (fr2 := [(0, .ref (a 0))]) ⟨[0], rfl⟩ ?_
  refine k_aload_n (q := 1) C 0 dX4_meeting_0 rfl rfl ?_
  refine k_get (q := 4) (ci := 4) (v := .ref (a 1)) C 0 1 in4_X4_meeting rfl (List.mem_of_getElem? (i := 1) rfl) rfl rfl (by decide) rfl dX4_meeting_1 rfl ?_
  refine k_iconst (q := 5) (v := 4) C dX4_meeting_4 (by decide) rfl ?_
  refine k_iald (q := 6) C 1 rfl (vp_in_nI (n := 4) (by decide) (by decide)) dX4_meeting_5 rfl ?_
  refine k_st (st2 := (.int ((mSt n o h t s g kn lo lf nm) 4) :: _)) (congrArg (fun z => Value.int z :: _) (show (mSt n o h t s g kn lo lf nm) (4 : Int32).toNatClampNeg = (mSt n o h t s g kn lo lf nm) 4 from congrArg (mSt n o h t s g kn lo lf nm) (nI_clamp (n := 4) (by decide)))) ?_
  refine k_st (st2 := (.int (s 0) :: _)) (congrArg (fun z => Value.int z :: _) (show (mSt n o h t s g kn lo lf nm) 4 = s 0 from mSt_s (k := 0) (by decide))) ?_
  refine k_aload_n (q := 7) C 0 dX4_meeting_6 rfl rfl ?_
  refine k_get (q := 10) (ci := 4) (v := .ref (a 1)) C 0 1 in4_X4_meeting rfl (List.mem_of_getElem? (i := 1) rfl) rfl rfl (by decide) rfl dX4_meeting_7 rfl ?_
  refine k_iconst (q := 11) (v := 5) C dX4_meeting_10 (by decide) rfl ?_
  refine k_iald (q := 12) C 1 rfl (vp_in_nI (n := 5) (by decide) (by decide)) dX4_meeting_11 rfl ?_
  refine k_st (st2 := (.int ((mSt n o h t s g kn lo lf nm) 5) :: _)) (congrArg (fun z => Value.int z :: _) (show (mSt n o h t s g kn lo lf nm) (5 : Int32).toNatClampNeg = (mSt n o h t s g kn lo lf nm) 5 from congrArg (mSt n o h t s g kn lo lf nm) (nI_clamp (n := 5) (by decide)))) ?_
  refine k_st (st2 := (.int (s 1) :: _)) (congrArg (fun z => Value.int z :: _) (show (mSt n o h t s g kn lo lf nm) 5 = s 1 from mSt_s (k := 1) (by decide))) ?_
  refine k_isub (q := 13) C dX4_meeting_12 rfl ?_
  refine k_istore_n (q := 14) (fr2 := [(1, .int ((s 0) - (s 1))), (0, .ref (a 0))]) C dX4_meeting_13 (by decide) rfl rfl ?_
  refine k_iload_n (q := 15) C 0 dX4_meeting_14 rfl rfl ?_
  refine k_if_le (tgt := 32) (q := 18) C dX4_meeting_15 (by decide) rfl ?_ ?_
  · intro c_15
    refine k_ldc (q := 34) (v := -99999) C (List.mem_of_getElem? (i := 2) rfl) dX4_meeting_32 rfl ?_
    exact k_fin E dX4_meeting_34 (by first | (unfold sMeet; rw [if_neg ((mMeet_c h0 h1).mp c_15)]) | (unfold sMeet; rw [if_pos (Classical.byContradiction (fun q => c_15 ((mMeet_c h0 h1).mpr q)))])) (rfl)
  · intro c_15
    refine k_bipush (q := 20) (v := 10) C dX4_meeting_18 (by decide +kernel) rfl ?_
    refine k_aload_n (q := 21) C 1 dX4_meeting_20 rfl rfl ?_
    refine k_get (q := 24) (ci := 4) (v := .ref (a 1)) C 0 1 in4_X4_meeting rfl (List.mem_of_getElem? (i := 1) rfl) rfl rfl (by decide) rfl dX4_meeting_21 rfl ?_
    refine k_iconst (q := 25) (v := 0) C dX4_meeting_24 (by decide) rfl ?_
    refine k_iald (q := 26) C 1 rfl (vp_in_nI (n := 0) (by decide) (by decide)) dX4_meeting_25 rfl ?_
    refine k_st (st2 := (.int ((mSt n o h t s g kn lo lf nm) 0) :: _)) (congrArg (fun z => Value.int z :: _) (show (mSt n o h t s g kn lo lf nm) (0 : Int32).toNatClampNeg = (mSt n o h t s g kn lo lf nm) 0 from congrArg (mSt n o h t s g kn lo lf nm) (nI_clamp (n := 0) (by decide)))) ?_
    refine k_st (st2 := (.int (g 0) :: _)) (congrArg (fun z => Value.int z :: _) (show (mSt n o h t s g kn lo lf nm) 0 = g 0 from mSt_g (k := 0) (by decide))) ?_
    refine k_imul (q := 27) C dX4_meeting_26 rfl ?_
    refine k_iload_n (q := 28) C 0 dX4_meeting_27 rfl rfl ?_
    refine k_idiv (q := 29) C dX4_meeting_28 (fun e => c_15 (by rw [e]; decide)) rfl ?_
    refine k_goto (q := 34) C dX4_meeting_29 (by decide) ?_
    exact k_fin E dX4_meeting_34 (by first | (unfold sMeet; rw [if_neg ((mMeet_c h0 h1).mp c_15)]) | (unfold sMeet; rw [if_pos (Classical.byContradiction (fun q => c_15 ((mMeet_c h0 h1).mpr q)))])) (rfl)
