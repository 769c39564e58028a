abbrev rm_X4_leastOf : Room := { frames := 0, cells := 0, slots := 0, locals := 0 }
set_option maxHeartbeats 4000000 in
set_option maxRecDepth 100000 in
theorem c_X4_leastOf {cy : Nat → ClassId} (j : Nat)  (hj : j < 4) : kI yX4_leastOf wsX4_leastOf rm_X4_leastOf cy [.int (nI j)] ([] : va_W) (mLeast j) ([] : va_W) := by
  refine kI_of (cc := cX4_leastOf) (maxL := 1) (rt := .int) (by decide) rfl (rfl) (Nat.le_of_ble_eq_true rfl) ?_
  intro X hR C E
  have C : kC X 1 RX4 cX4_leastOf wsX4_leastOf cy := C
  refine k_fr (fr2 := [(0, .int (nI j))]) ⟨[0], rfl⟩ ?_
  refine k_iload_n (q := 1) C 0 dX4_leastOf_0 rfl rfl ?_
  refine k_nif_ne (a := j)  (tgt := 9) (q := 4) C dX4_leastOf_1 (by decide) rfl (by omega) ?_ ?_
  · intro c_1
    refine k_iload_n (q := 10) C 0 dX4_leastOf_9 rfl rfl ?_
    refine k_iconst (q := 11) (v := 2) C dX4_leastOf_10 (by decide) rfl ?_
    refine k_nicmp_ne (a := j) (b := 2)  (tgt := 18) (q := 14) C dX4_leastOf_11 (by decide) rfl (by omega) (by decide) ?_ ?_
    · intro c_11
      refine k_iconst (q := 19) (v := 0) C dX4_leastOf_18 (by decide) rfl ?_
      exact k_fin E dX4_leastOf_19 (by first | (rw [mLeast, if_pos c_1]) | (rw [mLeast, if_neg (by omega), if_pos c_11]) | (rw [mLeast, if_neg (by omega), if_neg c_11])) (rfl)
    · intro c_11
      refine k_iconst (q := 15) (v := 1) C dX4_leastOf_14 (by decide) rfl ?_
      refine k_goto (q := 19) C dX4_leastOf_15 (by decide) ?_
      exact k_fin E dX4_leastOf_19 (by first | (rw [mLeast, if_pos c_1]) | (rw [mLeast, if_neg (by omega), if_pos c_11]) | (rw [mLeast, if_neg (by omega), if_neg c_11])) (rfl)
  · intro c_1
    refine k_bipush (q := 6) (v := 50) C dX4_leastOf_4 (by decide +kernel) rfl ?_
    refine k_goto (q := 19) C dX4_leastOf_6 (by decide) ?_
    exact k_fin E dX4_leastOf_19 (by first | (rw [mLeast, if_pos c_1]) | (rw [mLeast, if_neg (by omega), if_pos c_11]) | (rw [mLeast, if_neg (by omega), if_neg c_11])) (rfl)
abbrev rm_X4_mostOf : Room := { frames := 0, cells := 0, slots := 0, locals := 0 }
set_option maxHeartbeats 4000000 in
set_option maxRecDepth 100000 in
theorem c_X4_mostOf {cy : Nat → ClassId} (j : Nat)  (hj : j < 4) : kI yX4_mostOf wsX4_mostOf rm_X4_mostOf cy [.int (nI j)] ([] : va_W) (mMost j) ([] : va_W) := by
  refine kI_of (cc := cX4_mostOf) (maxL := 1) (rt := .int) (by decide) rfl (rfl) (Nat.le_of_ble_eq_true rfl) ?_
  intro X hR C E
  have C : kC X 1 RX4 cX4_mostOf wsX4_mostOf cy := C
  refine k_fr (fr2 := [(0, .int (nI j))]) ⟨[0], rfl⟩ ?_
  refine k_iload_n (q := 1) C 0 dX4_mostOf_0 rfl rfl ?_
  refine k_iconst (q := 2) (v := 2) C dX4_mostOf_1 (by decide) rfl ?_
  refine k_nicmp_ge (a := j) (b := 2)  (tgt := 11) (q := 5) C dX4_mostOf_2 (by decide) rfl (by omega) (by decide) ?_ ?_
  · intro c_2
    refine k_iload_n (q := 12) C 0 dX4_mostOf_11 rfl rfl ?_
    refine k_iconst (q := 13) (v := 2) C dX4_mostOf_12 (by decide) rfl ?_
    refine k_nicmp_ne (a := j) (b := 2)  (tgt := 22) (q := 16) C dX4_mostOf_13 (by decide) rfl (by omega) (by decide) ?_ ?_
    · intro c_13
      refine k_bipush (q := 24) (v := 100) C dX4_mostOf_22 (by decide +kernel) rfl ?_
      exact k_fin E dX4_mostOf_24 (by first | (rw [mMost, if_pos (by omega)]; done) | (rw [mMost, if_neg (by omega), if_pos c_13]; done) | (rw [mMost, if_neg (by omega), if_neg c_13])) (rfl)
    · intro c_13
      refine k_sipush (q := 19) (v := 500) C dX4_mostOf_16 (by decide +kernel) rfl ?_
      refine k_goto (q := 24) C dX4_mostOf_19 (by decide) ?_
      exact k_fin E dX4_mostOf_24 (by first | (rw [mMost, if_pos (by omega)]; done) | (rw [mMost, if_neg (by omega), if_pos c_13]; done) | (rw [mMost, if_neg (by omega), if_neg c_13])) (rfl)
  · intro c_2
    refine k_sipush (q := 8) (v := 1000) C dX4_mostOf_5 (by decide +kernel) rfl ?_
    refine k_goto (q := 24) C dX4_mostOf_8 (by decide) ?_
    exact k_fin E dX4_mostOf_24 (by first | (rw [mMost, if_pos (by omega)]; done) | (rw [mMost, if_neg (by omega), if_pos c_13]; done) | (rw [mMost, if_neg (by omega), if_neg c_13])) (rfl)
abbrev rm_X4_layer : Room := { frames := 2, cells := 0, slots := 0, locals := 46 }
theorem in4_X4_layer : ∀ w ∈ wsX40, w ∈ wsX4_layer := fun _ h => (List.mem_cons_of_mem _ (List.mem_append_right _ h))
set_option maxHeartbeats 4000000 in
set_option maxRecDepth 100000 in
theorem c_X4_layer_e (cy : Nat → ClassId) (a : Nat → Nat) (th : Int32) (sm : Nat) (ln : Nat) (pt : Nat) (sg : Nat) (fi : Int32) (se : Int32) (n : Nat) (o : Nat → Int32) (h : Nat → Int32) (t : Nat → Int32) (s : Nat → Int32) (g : Nat → Int32) (kn : Nat) (lo : Int32) (lf : Int32) (nm : Nat → Int32) (sv : Nat → Int32) (sl : Nat → Int32) (ik : Nat → Int32) (bf : Nat → Nat) (co : Nat → Int32) (go : Nat → Int32) (fo : Nat → Int32) (x : Int32) (y : Int32)  (hn : n ≤ 6) (hw : ¬ mWhy n h x y = 0) : kI yX4_layer wsX4_layer rm_X4_layer cy [.ref (a 0), .int x, .int y] (wM a cy th sm ln pt sg fi se (mSt n o h t s g kn lo lf nm) sv sl ik bf co go fo) 0 (wM a cy (mWhy n h x y) sm ln pt sg fi se (mSt n o h t s g kn lo lf nm) sv sl ik bf co go fo) := by
  refine kI_of (cc := cX4_layer) (maxL := 3) (rt := .int) (by decide) rfl (rfl) (Nat.le_of_ble_eq_true rfl) ?_
  intro X hR C E
  have C : kC X 3 RX4 cX4_layer wsX4_layer cy := C
  refine k_fr (fr2 := [(0, .ref (a 0)), (1, .int x), (2, .int y)]) ⟨[0, 1, 2], rfl⟩ ?_
  refine k_aload_n (q := 1) C 0 dX4_layer_0 rfl rfl ?_
  refine k_aload_n (q := 2) C 0 dX4_layer_1 rfl rfl ?_
  refine k_iload_n (q := 3) C 1 dX4_layer_2 rfl rfl ?_
  refine k_iload_n (q := 4) C 2 dX4_layer_3 rfl rfl ?_
  refine k_callVI (n := 2) (q := 7) (pre := ([] : va_W)) (post := ([] : va_W)) (w2 := (wM a cy th sm ln pt sg fi se (mSt n o h t s g kn lo lf nm) sv sl ik bf co go fo)) (As := [.int x, .int y]) (rest := [.ref (a 0)]) C (c_X4_whyNotLayer cy a th sm ln pt sg fi se n o h t s g kn lo lf nm sv sl ik bf co go fo x y (by omega)) gX4_layer_X4_whyNotLayer rfl rfl rfl (by decide +kernel) (k_room hR (by decide)) ⟨Nat.zero_le _, Nat.zero_le _⟩ (ci := 4) rfl 0 rfl rfl rfl (Nat.le_of_ble_eq_true rfl) ((List.append_nil _).symm) (List.append_nil _) dX4_layer_4 rfl ?_
  refine k_put (q := 10) (ci := 4) (v := .int (mWhy n h x y)) (w2 := (wM a cy (mWhy n h x y) sm ln pt sg fi se (mSt n o h t s g kn lo lf nm) sv sl ik bf co go fo)) C 0 0 in4_X4_layer rfl (List.mem_of_getElem? (i := 1) rfl) rfl tyX4 tyX4_ok nmX4 rfl (rfl) (rfl) rfl (by decide) (Nat.le_of_ble_eq_true rfl) (rfl) dX4_layer_7 rfl ?_
  refine k_aload_n (q := 11) C 0 dX4_layer_10 rfl rfl ?_
  refine k_get (q := 14) (ci := 4) (v := .int (mWhy n h x y)) C 0 0 in4_X4_layer rfl (List.mem_of_getElem? (i := 1) rfl) rfl rfl (by decide) rfl dX4_layer_11 rfl ?_
  refine k_if_eq (tgt := 19) (q := 17) C dX4_layer_14 (by decide) rfl ?_ ?_
  · exact fun c_14 => absurd c_14 hw
  · intro c_14
    refine k_iconst (q := 18) (v := 0) C dX4_layer_17 (by decide) rfl ?_
    exact k_fin E dX4_layer_18 (rfl) (rfl)
set_option maxHeartbeats 4000000 in
set_option maxRecDepth 100000 in
theorem c_X4_layer (cy : Nat → ClassId) (a : Nat → Nat) (th : Int32) (sm : Nat) (ln : Nat) (pt : Nat) (sg : Nat) (fi : Int32) (se : Int32) (n : Nat) (o : Nat → Int32) (h : Nat → Int32) (t : Nat → Int32) (s : Nat → Int32) (g : Nat → Int32) (kn : Nat) (lo : Int32) (lf : Int32) (nm : Nat → Int32) (sv : Nat → Int32) (sl : Nat → Int32) (ik : Nat → Int32) (bf : Nat → Nat) (co : Nat → Int32) (go : Nat → Int32) (fo : Nat → Int32) (x : Int32) (y : Int32)  (hn : n < 6) (hw : mWhy n h x y = 0) (hs : sm ≤ 6) : kI yX4_layer wsX4_layer rm_X4_layer cy [.ref (a 0), .int x, .int y] (wM a cy th sm ln pt sg fi se (mSt n o h t s g kn lo lf nm) sv sl ik bf co go fo) (nI (sPos h x n)) (wM a cy 0 (min (sm + 1) 6) ln pt sg fi se (mSt (n + 1) o (sIns h n (sPos h x n) x) (sIns t n (sPos h x n) y) s g kn lo lf nm) (mSave sv (mSt n o h t s g kn lo lf nm) sm) sl ik bf co go fo) := by
  refine kI_of (cc := cX4_layer) (maxL := 3) (rt := .int) (by decide) rfl (rfl) (Nat.le_of_ble_eq_true rfl) ?_
  intro X hR C E
  have C : kC X 3 RX4 cX4_layer wsX4_layer cy := C
  refine k_fr (fr2 := [(0, .ref (a 0)), (1, .int x), (2, .int y)]) ⟨[0, 1, 2], rfl⟩ ?_
  refine k_aload_n (q := 1) C 0 dX4_layer_0 rfl rfl ?_
  refine k_aload_n (q := 2) C 0 dX4_layer_1 rfl rfl ?_
  refine k_iload_n (q := 3) C 1 dX4_layer_2 rfl rfl ?_
  refine k_iload_n (q := 4) C 2 dX4_layer_3 rfl rfl ?_
  refine k_callVI (n := 2) (q := 7) (pre := ([] : va_W)) (post := ([] : va_W)) (w2 := (wM a cy th sm ln pt sg fi se (mSt n o h t s g kn lo lf nm) sv sl ik bf co go fo)) (As := [.int x, .int y]) (rest := [.ref (a 0)]) C (c_X4_whyNotLayer cy a th sm ln pt sg fi se n o h t s g kn lo lf nm sv sl ik bf co go fo x y (by omega)) gX4_layer_X4_whyNotLayer rfl rfl rfl (by decide +kernel) (k_room hR (by decide)) ⟨Nat.zero_le _, Nat.zero_le _⟩ (ci := 4) rfl 0 rfl rfl rfl (Nat.le_of_ble_eq_true rfl) ((List.append_nil _).symm) (List.append_nil _) dX4_layer_4 rfl ?_
  refine k_put (q := 10) (ci := 4) (v := .int (mWhy n h x y)) (w2 := (wM a cy (mWhy n h x y) sm ln pt sg fi se (mSt n o h t s g kn lo lf nm) sv sl ik bf co go fo)) C 0 0 in4_X4_layer rfl (List.mem_of_getElem? (i := 1) rfl) rfl tyX4 tyX4_ok nmX4 rfl (rfl) (rfl) rfl (by decide) (Nat.le_of_ble_eq_true rfl) (rfl) dX4_layer_7 rfl ?_
  refine k_aload_n (q := 11) C 0 dX4_layer_10 rfl rfl ?_
  refine k_get (q := 14) (ci := 4) (v := .int (mWhy n h x y)) C 0 0 in4_X4_layer rfl (List.mem_of_getElem? (i := 1) rfl) rfl rfl (by decide) rfl dX4_layer_11 rfl ?_
  refine k_if_eq (tgt := 19) (q := 17) C dX4_layer_14 (by decide) rfl ?_ ?_
  · intro c_14
    refine k_aload_n (q := 20) C 0 dX4_layer_19 rfl rfl ?_
    refine k_callVV (n := 0) (q := 23) (pre := ([] : va_W)) (post := ([] : va_W)) (w2 := (wM a cy (mWhy n h x y) (min (sm + 1) 6) ln pt sg fi se (mSt n o h t s g kn lo lf nm) (mSave sv (mSt n o h t s g kn lo lf nm) sm) sl ik bf co go fo)) (As := []) (rest := []) C (c_X4_save cy a (mWhy n h x y) sm ln pt sg fi se (mSt n o h t s g kn lo lf nm) sv sl ik bf co go fo (by omega)) gX4_layer_X4_save rfl rfl rfl (by decide +kernel) (k_room hR (by decide)) ⟨Nat.zero_le _, Nat.zero_le _⟩ (ci := 4) rfl 0 rfl rfl rfl (Nat.le_of_ble_eq_true rfl) ((List.append_nil _).symm) (List.append_nil _) dX4_layer_20 rfl ?_
    refine k_aload_n (q := 24) C 0 dX4_layer_23 rfl rfl ?_
    refine k_iload_n (q := 25) C 1 dX4_layer_24 rfl rfl ?_
    refine k_iload_n (q := 26) C 2 dX4_layer_25 rfl rfl ?_
    refine k_callVI (n := 2) (q := 29) (pre := ([] : va_W)) (post := ([] : va_W)) (w2 := (wM a cy (mWhy n h x y) (min (sm + 1) 6) ln pt sg fi se (mSt (n + 1) o (sIns h n (sPos h x n) x) (sIns t n (sPos h x n) y) s g kn lo lf nm) (mSave sv (mSt n o h t s g kn lo lf nm) sm) sl ik bf co go fo)) (As := [.int x, .int y]) (rest := []) C (c_X4_addLayer cy a (mWhy n h x y) (min (sm + 1) 6) ln pt sg fi se n o h t s g kn lo lf nm (mSave sv (mSt n o h t s g kn lo lf nm) sm) sl ik bf co go fo x y (by omega)) gX4_layer_X4_addLayer rfl rfl rfl (by decide +kernel) (k_room hR (by decide)) ⟨Nat.zero_le _, Nat.zero_le _⟩ (ci := 4) rfl 0 rfl rfl rfl (Nat.le_of_ble_eq_true rfl) ((List.append_nil _).symm) (List.append_nil _) dX4_layer_26 rfl ?_
    exact k_fin E dX4_layer_29 (rfl) (by rw [hw])
  · exact fun c_14 => absurd hw c_14
abbrev rm_X4_clear : Room := { frames := 2, cells := 0, slots := 0, locals := 43 }
theorem in4_X4_clear : ∀ w ∈ wsX40, w ∈ wsX4_clear := fun _ h => (List.mem_cons_of_mem _ (List.mem_append_right _ h))
set_option maxHeartbeats 4000000 in
set_option maxRecDepth 100000 in
theorem c_X4_clear_e (cy : Nat → ClassId) (a : Nat → Nat) (th : Int32) (sm : Nat) (ln : Nat) (pt : Nat) (sg : Nat) (fi : Int32) (se : Int32) (n : Nat) (o : Nat → Int32) (h : Nat → Int32) (t : Nat → Int32) (s : Nat → Int32) (g : Nat → Int32) (kn : Nat) (lo : Int32) (lf : Int32) (nm : Nat → Int32) (sv : Nat → Int32) (sl : Nat → Int32) (ik : Nat → Int32) (bf : Nat → Nat) (co : Nat → Int32) (go : Nat → Int32) (fo : Nat → Int32) (x : Int32)  (hn : n ≤ 6) (hx : ¬ (0 ≤ x ∧ x < nI n)) : kI yX4_clear wsX4_clear rm_X4_clear cy [.ref (a 0), .int x] (wM a cy th sm ln pt sg fi se (mSt n o h t s g kn lo lf nm) sv sl ik bf co go fo) 0 (wM a cy 1 sm ln pt sg fi se (mSt n o h t s g kn lo lf nm) sv sl ik bf co go fo) := by
  refine kI_of (cc := cX4_clear) (maxL := 2) (rt := .int) (by decide) rfl (rfl) (Nat.le_of_ble_eq_true rfl) ?_
  intro X hR C E
  have C : kC X 2 RX4 cX4_clear wsX4_clear cy := C
  refine k_fr (fr2 := [(0, .ref (a 0)), (1, .int x)]) ⟨[0, 1], rfl⟩ ?_
  refine k_aload_n (q := 1) C 0 dX4_clear_0 rfl rfl ?_
  refine k_iconst (q := 2) (v := 0) C dX4_clear_1 (by decide) rfl ?_
  refine k_put (q := 5) (ci := 4) (v := .int 0) (w2 := (wM a cy 0 sm ln pt sg fi se (mSt n o h t s g kn lo lf nm) sv sl ik bf co go fo)) C 0 0 in4_X4_clear rfl (List.mem_of_getElem? (i := 1) rfl) rfl tyX4 tyX4_ok nmX4 rfl (rfl) (rfl) rfl (by decide) (Nat.le_of_ble_eq_true rfl) (rfl) dX4_clear_2 rfl ?_
  refine k_aload_n (q := 6) C 0 dX4_clear_5 rfl rfl ?_
  refine k_iload_n (q := 7) C 1 dX4_clear_6 rfl rfl ?_
  refine k_callVI (n := 1) (q := 10) (pre := ([] : va_W)) (post := ([] : va_W)) (w2 := (wM a cy 0 sm ln pt sg fi se (mSt n o h t s g kn lo lf nm) sv sl ik bf co go fo)) (As := [.int x]) (rest := []) C (c_X4_isLayer cy a 0 sm ln pt sg fi se n o h t s g kn lo lf nm sv sl ik bf co go fo x (by omega)) gX4_clear_X4_isLayer rfl rfl rfl (by decide +kernel) (k_room hR (by decide)) ⟨Nat.zero_le _, Nat.zero_le _⟩ (ci := 4) rfl 0 rfl rfl rfl (Nat.le_of_ble_eq_true rfl) ((List.append_nil _).symm) (List.append_nil _) dX4_clear_7 rfl ?_
  refine k_ifB_ne (tgt := 19) (q := 13) C dX4_clear_10 (by decide) rfl ?_ ?_
  · exact fun c_10 => absurd c_10 hx
  · intro c_10
    refine k_aload_n (q := 14) C 0 dX4_clear_13 rfl rfl ?_
    refine k_iconst (q := 15) (v := 1) C dX4_clear_14 (by decide) rfl ?_
    refine k_callVI (n := 1) (q := 18) (pre := ([] : va_W)) (post := ([] : va_W)) (w2 := (wM a cy 1 sm ln pt sg fi se (mSt n o h t s g kn lo lf nm) sv sl ik bf co go fo)) (As := [.int 1]) (rest := []) C (c_X4_fails cy a 0 sm ln pt sg fi se n o h t s g kn lo lf nm sv sl ik bf co go fo 1) gX4_clear_X4_fails rfl rfl rfl (by decide +kernel) (k_room hR (by decide)) ⟨Nat.zero_le _, Nat.zero_le _⟩ (ci := 4) rfl 0 rfl rfl rfl (Nat.le_of_ble_eq_true rfl) ((List.append_nil _).symm) (List.append_nil _) dX4_clear_15 rfl ?_
    exact k_fin E dX4_clear_18 (rfl) (rfl)
set_option maxHeartbeats 4000000 in
set_option maxRecDepth 100000 in
theorem c_X4_clear (cy : Nat → ClassId) (a : Nat → Nat) (th : Int32) (sm : Nat) (ln : Nat) (pt : Nat) (sg : Nat) (fi : Int32) (se : Int32) (n : Nat) (o : Nat → Int32) (h : Nat → Int32) (t : Nat → Int32) (s : Nat → Int32) (g : Nat → Int32) (kn : Nat) (lo : Int32) (lf : Int32) (nm : Nat → Int32) (sv : Nat → Int32) (sl : Nat → Int32) (ik : Nat → Int32) (bf : Nat → Nat) (co : Nat → Int32) (go : Nat → Int32) (fo : Nat → Int32) (p : Nat)  (hn : n ≤ 6) (hp : p < n) (hs : sm ≤ 6) : kI yX4_clear wsX4_clear rm_X4_clear cy [.ref (a 0), .int (nI p)] (wM a cy th sm ln pt sg fi se (mSt n o h t s g kn lo lf nm) sv sl ik bf co go fo) (h p) (wM a cy 0 (min (sm + 1) 6) ln pt sg fi se (mSt (n - 1) o (sDn h p n) (sDn t p n) s g kn lo lf nm) (mSave sv (mSt n o h t s g kn lo lf nm) sm) sl ik bf co go fo) := by
  refine kI_of (cc := cX4_clear) (maxL := 2) (rt := .int) (by decide) rfl (rfl) (Nat.le_of_ble_eq_true rfl) ?_
  intro X hR C E
  have C : kC X 2 RX4 cX4_clear wsX4_clear cy := C
  refine k_fr (fr2 := [(0, .ref (a 0)), (1, .int (nI p))]) ⟨[0, 1], rfl⟩ ?_
  refine k_aload_n (q := 1) C 0 dX4_clear_0 rfl rfl ?_
  refine k_iconst (q := 2) (v := 0) C dX4_clear_1 (by decide) rfl ?_
  refine k_put (q := 5) (ci := 4) (v := .int 0) (w2 := (wM a cy 0 sm ln pt sg fi se (mSt n o h t s g kn lo lf nm) sv sl ik bf co go fo)) C 0 0 in4_X4_clear rfl (List.mem_of_getElem? (i := 1) rfl) rfl tyX4 tyX4_ok nmX4 rfl (rfl) (rfl) rfl (by decide) (Nat.le_of_ble_eq_true rfl) (rfl) dX4_clear_2 rfl ?_
  refine k_aload_n (q := 6) C 0 dX4_clear_5 rfl rfl ?_
  refine k_iload_n (q := 7) C 1 dX4_clear_6 rfl rfl ?_
  refine k_callVI (n := 1) (q := 10) (pre := ([] : va_W)) (post := ([] : va_W)) (w2 := (wM a cy 0 sm ln pt sg fi se (mSt n o h t s g kn lo lf nm) sv sl ik bf co go fo)) (As := [.int (nI p)]) (rest := []) C (c_X4_isLayer cy a 0 sm ln pt sg fi se n o h t s g kn lo lf nm sv sl ik bf co go fo (nI p) (by omega)) gX4_clear_X4_isLayer rfl rfl rfl (by decide +kernel) (k_room hR (by decide)) ⟨Nat.zero_le _, Nat.zero_le _⟩ (ci := 4) rfl 0 rfl rfl rfl (Nat.le_of_ble_eq_true rfl) ((List.append_nil _).symm) (List.append_nil _) dX4_clear_7 rfl ?_
  refine k_ifB_ne (tgt := 19) (q := 13) C dX4_clear_10 (by decide) rfl ?_ ?_
  · intro c_10
    refine k_aload_n (q := 20) C 0 dX4_clear_19 rfl rfl ?_
    refine k_callVV (n := 0) (q := 23) (pre := ([] : va_W)) (post := ([] : va_W)) (w2 := (wM a cy 0 (min (sm + 1) 6) ln pt sg fi se (mSt n o h t s g kn lo lf nm) (mSave sv (mSt n o h t s g kn lo lf nm) sm) sl ik bf co go fo)) (As := []) (rest := []) C (c_X4_save cy a 0 sm ln pt sg fi se (mSt n o h t s g kn lo lf nm) sv sl ik bf co go fo (by omega)) gX4_clear_X4_save rfl rfl rfl (by decide +kernel) (k_room hR (by decide)) ⟨Nat.zero_le _, Nat.zero_le _⟩ (ci := 4) rfl 0 rfl rfl rfl (Nat.le_of_ble_eq_true rfl) ((List.append_nil _).symm) (List.append_nil _) dX4_clear_20 rfl ?_
    refine k_aload_n (q := 24) C 0 dX4_clear_23 rfl rfl ?_
    refine k_iload_n (q := 25) C 1 dX4_clear_24 rfl rfl ?_
    refine k_callVI (n := 1) (q := 28) (pre := ([] : va_W)) (post := ([] : va_W)) (w2 := (wM a cy 0 (min (sm + 1) 6) ln pt sg fi se (mSt (n - 1) o (sDn h p n) (sDn t p n) s g kn lo lf nm) (mSave sv (mSt n o h t s g kn lo lf nm) sm) sl ik bf co go fo)) (As := [.int (nI p)]) (rest := []) C (c_X4_dropLayer cy a 0 (min (sm + 1) 6) ln pt sg fi se n o h t s g kn lo lf nm (mSave sv (mSt n o h t s g kn lo lf nm) sm) sl ik bf co go fo p (by omega) (by omega)) gX4_clear_X4_dropLayer rfl rfl rfl (by decide +kernel) (k_room hR (by decide)) ⟨Nat.zero_le _, Nat.zero_le _⟩ (ci := 4) rfl 0 rfl rfl rfl (Nat.le_of_ble_eq_true rfl) ((List.append_nil _).symm) (List.append_nil _) dX4_clear_25 rfl ?_
    exact k_fin E dX4_clear_28 (rfl) (rfl)
  · exact fun c_10 => absurd ⟨nI_pos' (by omega), nI_lt (by omega) (by omega)⟩ c_10
abbrev rm_X4_clearThin : Room := { frames := 1, cells := 0, slots := 0, locals := 23 }
theorem in4_X4_clearThin : ∀ w ∈ wsX40, w ∈ wsX4_clearThin := fun _ h => (List.mem_cons_of_mem _ (List.mem_append_right _ h))
set_option maxHeartbeats 4000000 in
set_option maxRecDepth 100000 in
theorem c_X4_clearThin_e (cy : Nat → ClassId) (a : Nat → Nat) (th : Int32) (sm : Nat) (ln : Nat) (pt : Nat) (sg : Nat) (fi : Int32) (se : Int32) (n : Nat) (o : Nat → Int32) (h : Nat → Int32) (t : Nat → Int32) (s : Nat → Int32) (g : Nat → Int32) (kn : Nat) (lo : Int32) (lf : Int32) (nm : Nat → Int32) (sv : Nat → Int32) (sl : Nat → Int32) (ik : Nat → Int32) (bf : Nat → Nat) (co : Nat → Int32) (go : Nat → Int32) (fo : Nat → Int32) (x : Int32)  (hx : ¬ (1 ≤ x ∧ x ≤ 100)) : kI yX4_clearThin wsX4_clearThin rm_X4_clearThin cy [.ref (a 0), .int x] (wM a cy th sm ln pt sg fi se (mSt n o h t s g kn lo lf nm) sv sl ik bf co go fo) 0 (wM a cy 1 sm ln pt sg fi se (mSt n o h t s g kn lo lf nm) sv sl ik bf co go fo) := by
  refine kI_of (cc := cX4_clearThin) (maxL := 4) (rt := .int) (by decide) rfl (rfl) (Nat.le_of_ble_eq_true rfl) ?_
  intro X hR C E
  have C : kC X 4 RX4 cX4_clearThin wsX4_clearThin cy := C
  refine k_fr (fr2 := [(0, .ref (a 0)), (1, .int x)]) ⟨[0, 1], rfl⟩ ?_
  refine k_aload_n (q := 1) C 0 dX4_clearThin_0 rfl rfl ?_
  refine k_iconst (q := 2) (v := 0) C dX4_clearThin_1 (by decide) rfl ?_
  refine k_put (q := 5) (ci := 4) (v := .int 0) (w2 := (wM a cy 0 sm ln pt sg fi se (mSt n o h t s g kn lo lf nm) sv sl ik bf co go fo)) C 0 0 in4_X4_clearThin rfl (List.mem_of_getElem? (i := 1) rfl) rfl tyX4 tyX4_ok nmX4 rfl (rfl) (rfl) rfl (by decide) (Nat.le_of_ble_eq_true rfl) (rfl) dX4_clearThin_2 rfl ?_
  refine k_iload_n (q := 6) C 1 dX4_clearThin_5 rfl rfl ?_
  refine k_iconst (q := 7) (v := 1) C dX4_clearThin_6 (by decide) rfl ?_
  refine k_bipush (q := 9) (v := 100) C dX4_clearThin_7 (by decide +kernel) rfl ?_
  refine k_callSI (n := 3) (q := 12) (pre := ([] : va_W)) (post := (wM a cy 0 sm ln pt sg fi se (mSt n o h t s g kn lo lf nm) sv sl ik bf co go fo)) (w2 := (wM a cy 0 sm ln pt sg fi se (mSt n o h t s g kn lo lf nm) sv sl ik bf co go fo)) (As := [.int x, .int 1, .int 100]) (rest := []) C (c_X4_within x 1 100) gX4_clearThin_X4_within rfl rfl rfl (by decide +kernel) (k_room hR (by decide)) ⟨Nat.zero_le _, Nat.zero_le _⟩  rfl rfl (Nat.le_of_ble_eq_true rfl) (rfl) (rfl) dX4_clearThin_9 rfl ?_
  refine k_ifB_ne (tgt := 21) (q := 15) C dX4_clearThin_12 (by decide) rfl ?_ ?_
  · exact fun c_12 => absurd c_12 hx
  · intro c_12
    refine k_aload_n (q := 16) C 0 dX4_clearThin_15 rfl rfl ?_
    refine k_iconst (q := 17) (v := 1) C dX4_clearThin_16 (by decide) rfl ?_
    refine k_callVI (n := 1) (q := 20) (pre := ([] : va_W)) (post := ([] : va_W)) (w2 := (wM a cy 1 sm ln pt sg fi se (mSt n o h t s g kn lo lf nm) sv sl ik bf co go fo)) (As := [.int 1]) (rest := []) C (c_X4_fails cy a 0 sm ln pt sg fi se n o h t s g kn lo lf nm sv sl ik bf co go fo 1) gX4_clearThin_X4_fails rfl rfl rfl (by decide +kernel) (k_room hR (by decide)) ⟨Nat.zero_le _, Nat.zero_le _⟩ (ci := 4) rfl 0 rfl rfl rfl (Nat.le_of_ble_eq_true rfl) ((List.append_nil _).symm) (List.append_nil _) dX4_clearThin_17 rfl ?_
    exact k_fin E dX4_clearThin_20 (rfl) (rfl)
set_option maxHeartbeats 4000000 in
set_option maxRecDepth 100000 in
theorem lp_X4_clearThin_37 (cy : Nat → ClassId) (a : Nat → Nat) (th : Int32) (sm : Nat) (ln : Nat) (pt : Nat) (sg : Nat) (fi : Int32) (se : Int32) (n : Nat) (o : Nat → Int32) (h : Nat → Int32) (t : Nat → Int32) (s : Nat → Int32) (g : Nat → Int32) (kn : Nat) (lo : Int32) (lf : Int32) (nm : Nat → Int32) (sv : Nat → Int32) (sl : Nat → Int32) (ik : Nat → Int32) (bf : Nat → Nat) (co : Nat → Int32) (go : Nat → Int32) (fo : Nat → Int32) (x : Int32)  (hn : n ≤ 6) (hx : 1 ≤ x ∧ x ≤ 100) (hs : sm ≤ 6) (X : kX) (hR : xR X = rm_X4_clearThin) (C : kC X 4 RX4 cX4_clearThin wsX4_clearThin cy) (E : kEndx X 4 cX4_clearThin (nI (n - sKeep t x n)) (fun (u : (Nat → Int32) × (Nat → Int32)) => (wM a cy 0 (min (sm + 1) 6) ln pt sg fi se (mSt (sKeep t x n) o u.1 u.2 s g kn lo lf nm) (mSave sv (mSt n o h t s g kn lo lf nm) sm) sl ik bf co go fo)) (fun (u : (Nat → Int32) × (Nat → Int32)) => ∀ i, i < sKeep t x n → u.1 i = sPack t x h n i ∧ u.2 i = sPack t x t n i)) : ∀ (fu : Nat) (k : Nat) (N : Nat) (H : Nat → Int32) (T : Nat → Int32), k < fu → (k ≤ n) → (N ≤ n) → (mTh n h t x k N H T) → kG X 4 0 0 (wM a cy 0 (min (sm + 1) 6) ln pt sg fi se (mSt N o H T s g kn lo lf nm) (mSave sv (mSt n o h t s g kn lo lf nm) sm) sl ik bf co go fo) 37 [(0, .ref (a 0)), (1, .int x), (2, .int (nI n)), (3, .int (iI ((k : Int) - 1)))] [] := by
  intro fu
  induction fu with
  | zero => intro k N H T hfu; exact absurd hfu (Nat.not_lt_zero _)
  | succ fu ih =>
    intro k N H T hfu hk hN hM
    refine k_iload_n (q := 38) C 3 dX4_clearThin_37 rfl rfl ?_
    refine k_if_lt (tgt := 66) (q := 41) C dX4_clearThin_38 (by decide) rfl ?_ ?_
    · intro c_38
      have hk0 : k = 0 := by have := (iI_lt (a := (k : Int) - 1) (b := 0) (by omega) (by omega)).mp c_38; omega
      refine k_iload_n (q := 67) C 2 dX4_clearThin_66 rfl rfl ?_
      refine k_aload_n (q := 68) C 0 dX4_clearThin_67 rfl rfl ?_
      refine k_get (q := 71) (ci := 4) (v := .ref (a 1)) C 0 1 in4_X4_clearThin rfl (List.mem_of_getElem? (i := 2) rfl) rfl rfl (by decide) rfl dX4_clearThin_68 rfl ?_
      refine k_bipush (q := 73) (v := 8) C dX4_clearThin_71 (by decide +kernel) rfl ?_
      refine k_iald (q := 74) C 1 rfl (vp_in_nI (n := 8) (by decide) (by decide)) dX4_clearThin_73 rfl ?_
      refine k_st (st2 := (.int ((mSt N o H T s g kn lo lf nm) 8) :: _)) (congrArg (fun z => Value.int z :: _) (show (mSt N o H T s g kn lo lf nm) (8 : Int32).toNatClampNeg = (mSt N o H T s g kn lo lf nm) 8 from congrArg (mSt N o H T s g kn lo lf nm) (nI_clamp (n := 8) (by decide)))) ?_
      refine k_st (st2 := (.int (nI N) :: _)) (congrArg (fun z => Value.int z :: _) (show (mSt N o H T s g kn lo lf nm) 8 = nI N from rfl)) ?_
      refine k_isub (q := 75) C dX4_clearThin_74 rfl ?_
      refine k_st (st2 := (.int (nI (n - N)) :: _)) (congrArg (fun z => Value.int z :: _) (show (nI n) - (nI N) = nI (n - N) from pk_sub (a := n) (b := N) (by omega))) ?_
      exact k_finx E (H, T) dX4_clearThin_75 (by have z := hM.2.1; rw [hk0] at z; congr 2; have z0 : sKeep t x 0 = 0 := rfl; omega) (by have z := hM.2.1; rw [hk0] at z; have z0 : sKeep t x 0 = 0 := rfl; rw [show N = sKeep t x n by omega]) (fun i hi => by have z := hM.2.1; rw [hk0] at z; have z0 : sKeep t x 0 = 0 := rfl; have q := hM.2.2.2 i (by omega) (by omega); rw [hk0, z0, Nat.zero_add] at q; exact q)
    · intro c_38
      have hk0 : 0 < k := by have z : ¬ ((k : Int) - 1 < 0) := fun q => c_38 ((iI_lt (a := (k : Int) - 1) (b := 0) (by omega) (by omega)).mpr q); omega
      have hkN := hM.1
      have e_41_3 : iI ((k : Int) - 1) = nI (k - 1) := by rw [show ((k : Int) - 1) = ((k - 1 : Nat) : Int) by omega]; rfl
      rw [e_41_3]
      refine k_aload_n (q := 42) C 0 dX4_clearThin_41 rfl rfl ?_
      refine k_get (q := 45) (ci := 4) (v := .ref (a 1)) C 0 1 in4_X4_clearThin rfl (List.mem_of_getElem? (i := 2) rfl) rfl rfl (by decide) rfl dX4_clearThin_42 rfl ?_
      refine k_bipush (q := 47) (v := 18) C dX4_clearThin_45 (by decide +kernel) rfl ?_
      refine k_iload_n (q := 48) C 3 dX4_clearThin_47 rfl rfl ?_
      refine k_iadd (q := 49) C dX4_clearThin_48 rfl ?_
      refine k_st (st2 := (.int (nI (18 + (k - 1))) :: _)) (congrArg (fun z => Value.int z :: _) (show 18 + (nI (k - 1)) = nI (18 + (k - 1)) from nI_add 18 (k - 1))) ?_
      refine k_iald (q := 50) C 1 rfl (vp_in_nI (n := 18 + (k - 1)) (by omega) (by decide)) dX4_clearThin_49 rfl ?_
      refine k_st (st2 := (.int ((mSt N o H T s g kn lo lf nm) (18 + (k - 1))) :: _)) (congrArg (fun z => Value.int z :: _) (show (mSt N o H T s g kn lo lf nm) (nI (18 + (k - 1))).toNatClampNeg = (mSt N o H T s g kn lo lf nm) (18 + (k - 1)) from congrArg (mSt N o H T s g kn lo lf nm) (nI_clamp (n := 18 + (k - 1)) (by omega)))) ?_
      refine k_st (st2 := (.int (T (k - 1)) :: _)) (congrArg (fun z => Value.int z :: _) (show (mSt N o H T s g kn lo lf nm) (18 + (k - 1)) = T (k - 1) from mSt_t (k := (k - 1)) (by omega))) ?_
      refine k_st (st2 := (.int (t (k - 1)) :: _)) (congrArg (fun z => Value.int z :: _) (show T (k - 1) = t (k - 1) from (hM.2.2.1 (k - 1) (by omega)).2)) ?_
      refine k_iload_n (q := 51) C 1 dX4_clearThin_50 rfl rfl ?_
      refine k_icmp_gt (tgt := 60) (q := 54) C dX4_clearThin_51 (by decide) rfl ?_ ?_
      · intro c_51
        refine k_iinc (q := 63) (v := iI (((k - 1 : Nat) : Int) - 1)) (fr2 := [(3, .int (iI (((k - 1 : Nat) : Int) - 1))), (0, .ref (a 0)), (1, .int x), (2, .int (nI n))]) C 3 dX4_clearThin_60 rfl ((show iI ((k - 1 : Nat) : Int) + iI (-1) = _ from by rw [iI_add]; rfl)) (by decide) rfl rfl ?_
        refine k_goto (q := 37) C dX4_clearThin_63 (by decide) ?_
        refine k_fr (fr2 := [(0, .ref (a 0)), (1, .int x), (2, .int (nI n)), (3, .int (iI (((k - 1 : Nat) : Int) - 1)))]) ⟨[1, 2, 3, 0], rfl⟩ ?_
        exact ih (k - 1) N H T (by omega) (by omega) (by omega) (by first | exact mTh_keep hk0 hk hM c_51 | exact mTh_drop hk0 hM (Int32.not_lt.mp c_51))
      · intro c_51
        refine k_aload_n (q := 55) C 0 dX4_clearThin_54 rfl rfl ?_
        refine k_iload_n (q := 56) C 3 dX4_clearThin_55 rfl rfl ?_
        refine k_callVI (n := 1) (q := 59) (pre := ([] : va_W)) (post := ([] : va_W)) (w2 := (wM a cy 0 (min (sm + 1) 6) ln pt sg fi se (mSt (N - 1) o (sDn H (k - 1) N) (sDn T (k - 1) N) s g kn lo lf nm) (mSave sv (mSt n o h t s g kn lo lf nm) sm) sl ik bf co go fo)) (As := [.int (nI (k - 1))]) (rest := []) C (c_X4_dropLayer cy a 0 (min (sm + 1) 6) ln pt sg fi se N o H T s g kn lo lf nm (mSave sv (mSt n o h t s g kn lo lf nm) sm) sl ik bf co go fo (k - 1) (by omega) (by omega)) gX4_clearThin_X4_dropLayer rfl rfl rfl (by decide +kernel) (k_room hR (by decide)) ⟨Nat.zero_le _, Nat.zero_le _⟩ (ci := 4) rfl 0 rfl rfl rfl (Nat.le_of_ble_eq_true rfl) ((List.append_nil _).symm) (List.append_nil _) dX4_clearThin_56 rfl ?_
        refine k_pop (q := 60) C dX4_clearThin_59 rfl rfl ?_
        refine k_iinc (q := 63) (v := iI (((k - 1 : Nat) : Int) - 1)) (fr2 := [(3, .int (iI (((k - 1 : Nat) : Int) - 1))), (0, .ref (a 0)), (1, .int x), (2, .int (nI n))]) C 3 dX4_clearThin_60 rfl ((show iI ((k - 1 : Nat) : Int) + iI (-1) = _ from by rw [iI_add]; rfl)) (by decide) rfl rfl ?_
        refine k_goto (q := 37) C dX4_clearThin_63 (by decide) ?_
        refine k_fr (fr2 := [(0, .ref (a 0)), (1, .int x), (2, .int (nI n)), (3, .int (iI (((k - 1 : Nat) : Int) - 1)))]) ⟨[1, 2, 3, 0], rfl⟩ ?_
        exact ih (k - 1) (N - 1) (sDn H (k - 1) N) (sDn T (k - 1) N) (by omega) (by omega) (by omega) (by first | exact mTh_keep hk0 hk hM c_51 | exact mTh_drop hk0 hM (Int32.not_lt.mp c_51))
set_option maxHeartbeats 4000000 in
set_option maxRecDepth 100000 in
theorem c_X4_clearThin (cy : Nat → ClassId) (a : Nat → Nat) (th : Int32) (sm : Nat) (ln : Nat) (pt : Nat) (sg : Nat) (fi : Int32) (se : Int32) (n : Nat) (o : Nat → Int32) (h : Nat → Int32) (t : Nat → Int32) (s : Nat → Int32) (g : Nat → Int32) (kn : Nat) (lo : Int32) (lf : Int32) (nm : Nat → Int32) (sv : Nat → Int32) (sl : Nat → Int32) (ik : Nat → Int32) (bf : Nat → Nat) (co : Nat → Int32) (go : Nat → Int32) (fo : Nat → Int32) (x : Int32)  (hn : n ≤ 6) (hx : 1 ≤ x ∧ x ≤ 100) (hs : sm ≤ 6) : kIx yX4_clearThin wsX4_clearThin rm_X4_clearThin cy [.ref (a 0), .int x] (wM a cy th sm ln pt sg fi se (mSt n o h t s g kn lo lf nm) sv sl ik bf co go fo) (nI (n - sKeep t x n)) (fun (u : (Nat → Int32) × (Nat → Int32)) => (wM a cy 0 (min (sm + 1) 6) ln pt sg fi se (mSt (sKeep t x n) o u.1 u.2 s g kn lo lf nm) (mSave sv (mSt n o h t s g kn lo lf nm) sm) sl ik bf co go fo)) (fun (u : (Nat → Int32) × (Nat → Int32)) => ∀ i, i < sKeep t x n → u.1 i = sPack t x h n i ∧ u.2 i = sPack t x t n i) := by
  refine kIx_of (cc := cX4_clearThin) (maxL := 4) (rt := .int) (by decide) rfl (rfl) (Nat.le_of_ble_eq_true rfl) ?_
  intro X hR C E
  have C : kC X 4 RX4 cX4_clearThin wsX4_clearThin cy := C
  refine k_fr (fr2 := [(0, .ref (a 0)), (1, .int x)]) ⟨[0, 1], rfl⟩ ?_
  refine k_aload_n (q := 1) C 0 dX4_clearThin_0 rfl rfl ?_
  refine k_iconst (q := 2) (v := 0) C dX4_clearThin_1 (by decide) rfl ?_
  refine k_put (q := 5) (ci := 4) (v := .int 0) (w2 := (wM a cy 0 sm ln pt sg fi se (mSt n o h t s g kn lo lf nm) sv sl ik bf co go fo)) C 0 0 in4_X4_clearThin rfl (List.mem_of_getElem? (i := 1) rfl) rfl tyX4 tyX4_ok nmX4 rfl (rfl) (rfl) rfl (by decide) (Nat.le_of_ble_eq_true rfl) (rfl) dX4_clearThin_2 rfl ?_
  refine k_iload_n (q := 6) C 1 dX4_clearThin_5 rfl rfl ?_
  refine k_iconst (q := 7) (v := 1) C dX4_clearThin_6 (by decide) rfl ?_
  refine k_bipush (q := 9) (v := 100) C dX4_clearThin_7 (by decide +kernel) rfl ?_
  refine k_callSI (n := 3) (q := 12) (pre := ([] : va_W)) (post := (wM a cy 0 sm ln pt sg fi se (mSt n o h t s g kn lo lf nm) sv sl ik bf co go fo)) (w2 := (wM a cy 0 sm ln pt sg fi se (mSt n o h t s g kn lo lf nm) sv sl ik bf co go fo)) (As := [.int x, .int 1, .int 100]) (rest := []) C (c_X4_within x 1 100) gX4_clearThin_X4_within rfl rfl rfl (by decide +kernel) (k_room hR (by decide)) ⟨Nat.zero_le _, Nat.zero_le _⟩  rfl rfl (Nat.le_of_ble_eq_true rfl) (rfl) (rfl) dX4_clearThin_9 rfl ?_
  refine k_ifB_ne (tgt := 21) (q := 15) C dX4_clearThin_12 (by decide) rfl ?_ ?_
  · intro c_12
    refine k_aload_n (q := 22) C 0 dX4_clearThin_21 rfl rfl ?_
    refine k_callVV (n := 0) (q := 25) (pre := ([] : va_W)) (post := ([] : va_W)) (w2 := (wM a cy 0 (min (sm + 1) 6) ln pt sg fi se (mSt n o h t s g kn lo lf nm) (mSave sv (mSt n o h t s g kn lo lf nm) sm) sl ik bf co go fo)) (As := []) (rest := []) C (c_X4_save cy a 0 sm ln pt sg fi se (mSt n o h t s g kn lo lf nm) sv sl ik bf co go fo (by omega)) gX4_clearThin_X4_save rfl rfl rfl (by decide +kernel) (k_room hR (by decide)) ⟨Nat.zero_le _, Nat.zero_le _⟩ (ci := 4) rfl 0 rfl rfl rfl (Nat.le_of_ble_eq_true rfl) ((List.append_nil _).symm) (List.append_nil _) dX4_clearThin_22 rfl ?_
    refine k_aload_n (q := 26) C 0 dX4_clearThin_25 rfl rfl ?_
    refine k_get (q := 29) (ci := 4) (v := .ref (a 1)) C 0 1 in4_X4_clearThin rfl (List.mem_of_getElem? (i := 2) rfl) rfl rfl (by decide) rfl dX4_clearThin_26 rfl ?_
    refine k_bipush (q := 31) (v := 8) C dX4_clearThin_29 (by decide +kernel) rfl ?_
    refine k_iald (q := 32) C 1 rfl (vp_in_nI (n := 8) (by decide) (by decide)) dX4_clearThin_31 rfl ?_
    refine k_st (st2 := (.int ((mSt n o h t s g kn lo lf nm) 8) :: _)) (congrArg (fun z => Value.int z :: _) (show (mSt n o h t s g kn lo lf nm) (8 : Int32).toNatClampNeg = (mSt n o h t s g kn lo lf nm) 8 from congrArg (mSt n o h t s g kn lo lf nm) (nI_clamp (n := 8) (by decide)))) ?_
    refine k_st (st2 := (.int (nI n) :: _)) (congrArg (fun z => Value.int z :: _) (show (mSt n o h t s g kn lo lf nm) 8 = nI n from rfl)) ?_
    refine k_istore_n (q := 33) (fr2 := [(2, .int (nI n)), (0, .ref (a 0)), (1, .int x)]) C dX4_clearThin_32 (by decide) rfl rfl ?_
    refine k_iload_n (q := 34) C 0 dX4_clearThin_33 rfl rfl ?_
    refine k_iconst (q := 35) (v := 1) C dX4_clearThin_34 (by decide) rfl ?_
    refine k_isub (q := 36) C dX4_clearThin_35 rfl ?_
    refine k_st (st2 := (.int (iI ((n : Int) - 1)) :: _)) (congrArg (fun z => Value.int z :: _) (show (nI n) - 1 = iI ((n : Int) - 1) from iI_sub n 1)) ?_
    refine k_istore_n (q := 37) (fr2 := [(3, .int (iI ((n : Int) - 1))), (2, .int (nI n)), (0, .ref (a 0)), (1, .int x)]) C dX4_clearThin_36 (by decide) rfl rfl ?_
    refine k_fr (fr2 := [(0, .ref (a 0)), (1, .int x), (2, .int (nI n)), (3, .int (iI ((n : Int) - 1)))]) ⟨[2, 3, 1, 0], rfl⟩ ?_
    exact lp_X4_clearThin_37 cy a th sm ln pt sg fi se n o h t s g kn lo lf nm sv sl ik bf co go fo x hn hx hs X hR C E _ n n h t (Nat.lt_succ_self _) (Nat.le_refl _) (Nat.le_refl _) (mTh_0 n h t x)
  · exact fun c_12 => absurd hx c_12
abbrev rm_X4_aim : Room := { frames := 2, cells := 0, slots := 0, locals := 42 }
theorem in4_X4_aim : ∀ w ∈ wsX40, w ∈ wsX4_aim := fun _ h => (List.mem_cons_of_mem _ (List.mem_append_right _ h))
set_option maxHeartbeats 4000000 in
set_option maxRecDepth 100000 in
theorem c_X4_aim_e (cy : Nat → ClassId) (a : Nat → Nat) (th : Int32) (sm : Nat) (ln : Nat) (pt : Nat) (sg : Nat) (fi : Int32) (se : Int32) (n : Nat) (o : Nat → Int32) (h : Nat → Int32) (t : Nat → Int32) (s : Nat → Int32) (g : Nat → Int32) (kn : Nat) (lo : Int32) (lf : Int32) (nm : Nat → Int32) (sv : Nat → Int32) (sl : Nat → Int32) (ik : Nat → Int32) (bf : Nat → Nat) (co : Nat → Int32) (go : Nat → Int32) (fo : Nat → Int32) (x : Int32) (y : Int32)  (hx : ¬ (0 ≤ x ∧ x ≤ 1)) : kI yX4_aim wsX4_aim rm_X4_aim cy [.ref (a 0), .int x, .int y] (wM a cy th sm ln pt sg fi se (mSt n o h t s g kn lo lf nm) sv sl ik bf co go fo) 0 (wM a cy 1 sm ln pt sg fi se (mSt n o h t s g kn lo lf nm) sv sl ik bf co go fo) := by
  refine kI_of (cc := cX4_aim) (maxL := 3) (rt := .int) (by decide) rfl (rfl) (Nat.le_of_ble_eq_true rfl) ?_
  intro X hR C E
  have C : kC X 3 RX4 cX4_aim wsX4_aim cy := C
  refine k_fr (fr2 := [(0, .ref (a 0)), (1, .int x), (2, .int y)]) ⟨[0, 1, 2], rfl⟩ ?_
  refine k_aload_n (q := 1) C 0 dX4_aim_0 rfl rfl ?_
  refine k_iconst (q := 2) (v := 0) C dX4_aim_1 (by decide) rfl ?_
  refine k_put (q := 5) (ci := 4) (v := .int 0) (w2 := (wM a cy 0 sm ln pt sg fi se (mSt n o h t s g kn lo lf nm) sv sl ik bf co go fo)) C 0 0 in4_X4_aim rfl (List.mem_of_getElem? (i := 1) rfl) rfl tyX4 tyX4_ok nmX4 rfl (rfl) (rfl) rfl (by decide) (Nat.le_of_ble_eq_true rfl) (rfl) dX4_aim_2 rfl ?_
  refine k_iload_n (q := 6) C 1 dX4_aim_5 rfl rfl ?_
  refine k_callSI (n := 1) (q := 9) (pre := ([] : va_W)) (post := (wM a cy 0 sm ln pt sg fi se (mSt n o h t s g kn lo lf nm) sv sl ik bf co go fo)) (w2 := (wM a cy 0 sm ln pt sg fi se (mSt n o h t s g kn lo lf nm) sv sl ik bf co go fo)) (As := [.int x]) (rest := []) C (c_X4_isLight x) gX4_aim_X4_isLight rfl rfl rfl (by decide +kernel) (k_room hR (by decide)) ⟨Nat.zero_le _, Nat.zero_le _⟩  rfl rfl (Nat.le_of_ble_eq_true rfl) (rfl) (rfl) dX4_aim_6 rfl ?_
  refine k_ifB_ne (tgt := 18) (q := 12) C dX4_aim_9 (by decide) rfl ?_ ?_
  · exact fun c_9 => absurd c_9 hx
  · intro c_9
    refine k_aload_n (q := 13) C 0 dX4_aim_12 rfl rfl ?_
    refine k_iconst (q := 14) (v := 1) C dX4_aim_13 (by decide) rfl ?_
    refine k_callVI (n := 1) (q := 17) (pre := ([] : va_W)) (post := ([] : va_W)) (w2 := (wM a cy 1 sm ln pt sg fi se (mSt n o h t s g kn lo lf nm) sv sl ik bf co go fo)) (As := [.int 1]) (rest := []) C (c_X4_fails cy a 0 sm ln pt sg fi se n o h t s g kn lo lf nm sv sl ik bf co go fo 1) gX4_aim_X4_fails rfl rfl rfl (by decide +kernel) (k_room hR (by decide)) ⟨Nat.zero_le _, Nat.zero_le _⟩ (ci := 4) rfl 0 rfl rfl rfl (Nat.le_of_ble_eq_true rfl) ((List.append_nil _).symm) (List.append_nil _) dX4_aim_14 rfl ?_
    exact k_fin E dX4_aim_17 (rfl) (rfl)
set_option maxHeartbeats 4000000 in
set_option maxRecDepth 100000 in
theorem c_X4_aim_e2 (cy : Nat → ClassId) (a : Nat → Nat) (th : Int32) (sm : Nat) (ln : Nat) (pt : Nat) (sg : Nat) (fi : Int32) (se : Int32) (n : Nat) (o : Nat → Int32) (h : Nat → Int32) (t : Nat → Int32) (s : Nat → Int32) (g : Nat → Int32) (kn : Nat) (lo : Int32) (lf : Int32) (nm : Nat → Int32) (sv : Nat → Int32) (sl : Nat → Int32) (ik : Nat → Int32) (bf : Nat → Nat) (co : Nat → Int32) (go : Nat → Int32) (fo : Nat → Int32) (j : Nat) (y : Int32)  (hj : j < 2) (hy : ¬ (-30 ≤ y ∧ y ≤ 30)) : kI yX4_aim wsX4_aim rm_X4_aim cy [.ref (a 0), .int (nI j), .int y] (wM a cy th sm ln pt sg fi se (mSt n o h t s g kn lo lf nm) sv sl ik bf co go fo) 0 (wM a cy 2 sm ln pt sg fi se (mSt n o h t s g kn lo lf nm) sv sl ik bf co go fo) := by
  refine kI_of (cc := cX4_aim) (maxL := 3) (rt := .int) (by decide) rfl (rfl) (Nat.le_of_ble_eq_true rfl) ?_
  intro X hR C E
  have C : kC X 3 RX4 cX4_aim wsX4_aim cy := C
  refine k_fr (fr2 := [(0, .ref (a 0)), (1, .int (nI j)), (2, .int y)]) ⟨[0, 1, 2], rfl⟩ ?_
  refine k_aload_n (q := 1) C 0 dX4_aim_0 rfl rfl ?_
  refine k_iconst (q := 2) (v := 0) C dX4_aim_1 (by decide) rfl ?_
  refine k_put (q := 5) (ci := 4) (v := .int 0) (w2 := (wM a cy 0 sm ln pt sg fi se (mSt n o h t s g kn lo lf nm) sv sl ik bf co go fo)) C 0 0 in4_X4_aim rfl (List.mem_of_getElem? (i := 1) rfl) rfl tyX4 tyX4_ok nmX4 rfl (rfl) (rfl) rfl (by decide) (Nat.le_of_ble_eq_true rfl) (rfl) dX4_aim_2 rfl ?_
  refine k_iload_n (q := 6) C 1 dX4_aim_5 rfl rfl ?_
  refine k_callSI (n := 1) (q := 9) (pre := ([] : va_W)) (post := (wM a cy 0 sm ln pt sg fi se (mSt n o h t s g kn lo lf nm) sv sl ik bf co go fo)) (w2 := (wM a cy 0 sm ln pt sg fi se (mSt n o h t s g kn lo lf nm) sv sl ik bf co go fo)) (As := [.int (nI j)]) (rest := []) C (c_X4_isLight (nI j)) gX4_aim_X4_isLight rfl rfl rfl (by decide +kernel) (k_room hR (by decide)) ⟨Nat.zero_le _, Nat.zero_le _⟩  rfl rfl (Nat.le_of_ble_eq_true rfl) (rfl) (rfl) dX4_aim_6 rfl ?_
  refine k_ifB_ne (tgt := 18) (q := 12) C dX4_aim_9 (by decide) rfl ?_ ?_
  · intro c_9
    refine k_iload_n (q := 19) C 2 dX4_aim_18 rfl rfl ?_
    refine k_bipush (q := 21) (v := -30) C dX4_aim_19 (by decide +kernel) rfl ?_
    refine k_bipush (q := 23) (v := 30) C dX4_aim_21 (by decide +kernel) rfl ?_
    refine k_callSI (n := 3) (q := 26) (pre := ([] : va_W)) (post := (wM a cy 0 sm ln pt sg fi se (mSt n o h t s g kn lo lf nm) sv sl ik bf co go fo)) (w2 := (wM a cy 0 sm ln pt sg fi se (mSt n o h t s g kn lo lf nm) sv sl ik bf co go fo)) (As := [.int y, .int (-30), .int 30]) (rest := []) C (c_X4_within y (-30) 30) gX4_aim_X4_within rfl rfl rfl (by decide +kernel) (k_room hR (by decide)) ⟨Nat.zero_le _, Nat.zero_le _⟩  rfl rfl (Nat.le_of_ble_eq_true rfl) (rfl) (rfl) dX4_aim_23 rfl ?_
    refine k_ifB_ne (tgt := 35) (q := 29) C dX4_aim_26 (by decide) rfl ?_ ?_
    · exact fun c_26 => absurd c_26 hy
    · intro c_26
      refine k_aload_n (q := 30) C 0 dX4_aim_29 rfl rfl ?_
      refine k_iconst (q := 31) (v := 2) C dX4_aim_30 (by decide) rfl ?_
      refine k_callVI (n := 1) (q := 34) (pre := ([] : va_W)) (post := ([] : va_W)) (w2 := (wM a cy 2 sm ln pt sg fi se (mSt n o h t s g kn lo lf nm) sv sl ik bf co go fo)) (As := [.int 2]) (rest := []) C (c_X4_fails cy a 0 sm ln pt sg fi se n o h t s g kn lo lf nm sv sl ik bf co go fo 2) gX4_aim_X4_fails rfl rfl rfl (by decide +kernel) (k_room hR (by decide)) ⟨Nat.zero_le _, Nat.zero_le _⟩ (ci := 4) rfl 0 rfl rfl rfl (Nat.le_of_ble_eq_true rfl) ((List.append_nil _).symm) (List.append_nil _) dX4_aim_31 rfl ?_
      exact k_fin E dX4_aim_34 (rfl) (rfl)
  · exact fun c_9 => absurd (mSlot hj) c_9
set_option maxHeartbeats 4000000 in
set_option maxRecDepth 100000 in
theorem c_X4_aim (cy : Nat → ClassId) (a : Nat → Nat) (th : Int32) (sm : Nat) (ln : Nat) (pt : Nat) (sg : Nat) (fi : Int32) (se : Int32) (n : Nat) (o : Nat → Int32) (h : Nat → Int32) (t : Nat → Int32) (s : Nat → Int32) (g : Nat → Int32) (kn : Nat) (lo : Int32) (lf : Int32) (nm : Nat → Int32) (sv : Nat → Int32) (sl : Nat → Int32) (ik : Nat → Int32) (bf : Nat → Nat) (co : Nat → Int32) (go : Nat → Int32) (fo : Nat → Int32) (j : Nat) (y : Int32)  (hj : j < 2) (hy : (-30 ≤ y ∧ y ≤ 30)) (hs : sm ≤ 6) : kI yX4_aim wsX4_aim rm_X4_aim cy [.ref (a 0), .int (nI j), .int y] (wM a cy th sm ln pt sg fi se (mSt n o h t s g kn lo lf nm) sv sl ik bf co go fo) (s j) (wM a cy 0 (min (sm + 1) 6) ln pt sg fi se (mSt n o h t (upd s j y) g kn lo lf nm) (mSave sv (mSt n o h t s g kn lo lf nm) sm) sl ik bf co go fo) := by
  refine kI_of (cc := cX4_aim) (maxL := 3) (rt := .int) (by decide) rfl (rfl) (Nat.le_of_ble_eq_true rfl) ?_
  intro X hR C E
  have C : kC X 3 RX4 cX4_aim wsX4_aim cy := C
  refine k_fr (fr2 := [(0, .ref (a 0)), (1, .int (nI j)), (2, .int y)]) ⟨[0, 1, 2], rfl⟩ ?_
  refine k_aload_n (q := 1) C 0 dX4_aim_0 rfl rfl ?_
  refine k_iconst (q := 2) (v := 0) C dX4_aim_1 (by decide) rfl ?_
  refine k_put (q := 5) (ci := 4) (v := .int 0) (w2 := (wM a cy 0 sm ln pt sg fi se (mSt n o h t s g kn lo lf nm) sv sl ik bf co go fo)) C 0 0 in4_X4_aim rfl (List.mem_of_getElem? (i := 1) rfl) rfl tyX4 tyX4_ok nmX4 rfl (rfl) (rfl) rfl (by decide) (Nat.le_of_ble_eq_true rfl) (rfl) dX4_aim_2 rfl ?_
  refine k_iload_n (q := 6) C 1 dX4_aim_5 rfl rfl ?_
  refine k_callSI (n := 1) (q := 9) (pre := ([] : va_W)) (post := (wM a cy 0 sm ln pt sg fi se (mSt n o h t s g kn lo lf nm) sv sl ik bf co go fo)) (w2 := (wM a cy 0 sm ln pt sg fi se (mSt n o h t s g kn lo lf nm) sv sl ik bf co go fo)) (As := [.int (nI j)]) (rest := []) C (c_X4_isLight (nI j)) gX4_aim_X4_isLight rfl rfl rfl (by decide +kernel) (k_room hR (by decide)) ⟨Nat.zero_le _, Nat.zero_le _⟩  rfl rfl (Nat.le_of_ble_eq_true rfl) (rfl) (rfl) dX4_aim_6 rfl ?_
  refine k_ifB_ne (tgt := 18) (q := 12) C dX4_aim_9 (by decide) rfl ?_ ?_
  · intro c_9
    refine k_iload_n (q := 19) C 2 dX4_aim_18 rfl rfl ?_
    refine k_bipush (q := 21) (v := -30) C dX4_aim_19 (by decide +kernel) rfl ?_
    refine k_bipush (q := 23) (v := 30) C dX4_aim_21 (by decide +kernel) rfl ?_
    refine k_callSI (n := 3) (q := 26) (pre := ([] : va_W)) (post := (wM a cy 0 sm ln pt sg fi se (mSt n o h t s g kn lo lf nm) sv sl ik bf co go fo)) (w2 := (wM a cy 0 sm ln pt sg fi se (mSt n o h t s g kn lo lf nm) sv sl ik bf co go fo)) (As := [.int y, .int (-30), .int 30]) (rest := []) C (c_X4_within y (-30) 30) gX4_aim_X4_within rfl rfl rfl (by decide +kernel) (k_room hR (by decide)) ⟨Nat.zero_le _, Nat.zero_le _⟩  rfl rfl (Nat.le_of_ble_eq_true rfl) (rfl) (rfl) dX4_aim_23 rfl ?_
    refine k_ifB_ne (tgt := 35) (q := 29) C dX4_aim_26 (by decide) rfl ?_ ?_
    · intro c_26
      refine k_aload_n (q := 36) C 0 dX4_aim_35 rfl rfl ?_
      refine k_callVV (n := 0) (q := 39) (pre := ([] : va_W)) (post := ([] : va_W)) (w2 := (wM a cy 0 (min (sm + 1) 6) ln pt sg fi se (mSt n o h t s g kn lo lf nm) (mSave sv (mSt n o h t s g kn lo lf nm) sm) sl ik bf co go fo)) (As := []) (rest := []) C (c_X4_save cy a 0 sm ln pt sg fi se (mSt n o h t s g kn lo lf nm) sv sl ik bf co go fo (by omega)) gX4_aim_X4_save rfl rfl rfl (by decide +kernel) (k_room hR (by decide)) ⟨Nat.zero_le _, Nat.zero_le _⟩ (ci := 4) rfl 0 rfl rfl rfl (Nat.le_of_ble_eq_true rfl) ((List.append_nil _).symm) (List.append_nil _) dX4_aim_36 rfl ?_
      refine k_aload_n (q := 40) C 0 dX4_aim_39 rfl rfl ?_
      refine k_iload_n (q := 41) C 1 dX4_aim_40 rfl rfl ?_
      refine k_iload_n (q := 42) C 2 dX4_aim_41 rfl rfl ?_
      refine k_callVI (n := 2) (q := 45) (pre := ([] : va_W)) (post := ([] : va_W)) (w2 := (wM a cy 0 (min (sm + 1) 6) ln pt sg fi se (mSt n o h t (upd s j y) g kn lo lf nm) (mSave sv (mSt n o h t s g kn lo lf nm) sm) sl ik bf co go fo)) (As := [.int (nI j), .int y]) (rest := []) C (c_X4_turnTo cy a 0 (min (sm + 1) 6) ln pt sg fi se n o h t s g kn lo lf nm (mSave sv (mSt n o h t s g kn lo lf nm) sm) sl ik bf co go fo j y (by omega)) gX4_aim_X4_turnTo rfl rfl rfl (by decide +kernel) (k_room hR (by decide)) ⟨Nat.zero_le _, Nat.zero_le _⟩ (ci := 4) rfl 0 rfl rfl rfl (Nat.le_of_ble_eq_true rfl) ((List.append_nil _).symm) (List.append_nil _) dX4_aim_42 rfl ?_
      exact k_fin E dX4_aim_45 (rfl) (rfl)
    · exact fun c_26 => absurd hy c_26
  · exact fun c_9 => absurd (mSlot hj) c_9
abbrev rm_X4_turn : Room := { frames := 2, cells := 0, slots := 0, locals := 42 }
theorem in4_X4_turn : ∀ w ∈ wsX40, w ∈ wsX4_turn := fun _ h => (List.mem_cons_of_mem _ (List.mem_append_right _ h))
set_option maxHeartbeats 4000000 in
set_option maxRecDepth 100000 in
theorem c_X4_turn_e (cy : Nat → ClassId) (a : Nat → Nat) (th : Int32) (sm : Nat) (ln : Nat) (pt : Nat) (sg : Nat) (fi : Int32) (se : Int32) (n : Nat) (o : Nat → Int32) (h : Nat → Int32) (t : Nat → Int32) (s : Nat → Int32) (g : Nat → Int32) (kn : Nat) (lo : Int32) (lf : Int32) (nm : Nat → Int32) (sv : Nat → Int32) (sl : Nat → Int32) (ik : Nat → Int32) (bf : Nat → Nat) (co : Nat → Int32) (go : Nat → Int32) (fo : Nat → Int32) (x : Int32)  (hx : ¬ (0 ≤ x ∧ x ≤ 1)) : kI yX4_turn wsX4_turn rm_X4_turn cy [.ref (a 0), .int x] (wM a cy th sm ln pt sg fi se (mSt n o h t s g kn lo lf nm) sv sl ik bf co go fo) 0 (wM a cy 1 sm ln pt sg fi se (mSt n o h t s g kn lo lf nm) sv sl ik bf co go fo) := by
  refine kI_of (cc := cX4_turn) (maxL := 2) (rt := .int) (by decide) rfl (rfl) (Nat.le_of_ble_eq_true rfl) ?_
  intro X hR C E
  have C : kC X 2 RX4 cX4_turn wsX4_turn cy := C
  refine k_fr (fr2 := [(0, .ref (a 0)), (1, .int x)]) ⟨[0, 1], rfl⟩ ?_
  refine k_aload_n (q := 1) C 0 dX4_turn_0 rfl rfl ?_
  refine k_iconst (q := 2) (v := 0) C dX4_turn_1 (by decide) rfl ?_
  refine k_put (q := 5) (ci := 4) (v := .int 0) (w2 := (wM a cy 0 sm ln pt sg fi se (mSt n o h t s g kn lo lf nm) sv sl ik bf co go fo)) C 0 0 in4_X4_turn rfl (List.mem_of_getElem? (i := 1) rfl) rfl tyX4 tyX4_ok nmX4 rfl (rfl) (rfl) rfl (by decide) (Nat.le_of_ble_eq_true rfl) (rfl) dX4_turn_2 rfl ?_
  refine k_iload_n (q := 6) C 1 dX4_turn_5 rfl rfl ?_
  refine k_callSI (n := 1) (q := 9) (pre := ([] : va_W)) (post := (wM a cy 0 sm ln pt sg fi se (mSt n o h t s g kn lo lf nm) sv sl ik bf co go fo)) (w2 := (wM a cy 0 sm ln pt sg fi se (mSt n o h t s g kn lo lf nm) sv sl ik bf co go fo)) (As := [.int x]) (rest := []) C (c_X4_isLight x) gX4_turn_X4_isLight rfl rfl rfl (by decide +kernel) (k_room hR (by decide)) ⟨Nat.zero_le _, Nat.zero_le _⟩  rfl rfl (Nat.le_of_ble_eq_true rfl) (rfl) (rfl) dX4_turn_6 rfl ?_
  refine k_ifB_ne (tgt := 18) (q := 12) C dX4_turn_9 (by decide) rfl ?_ ?_
  · exact fun c_9 => absurd c_9 hx
  · intro c_9
    refine k_aload_n (q := 13) C 0 dX4_turn_12 rfl rfl ?_
    refine k_iconst (q := 14) (v := 1) C dX4_turn_13 (by decide) rfl ?_
    refine k_callVI (n := 1) (q := 17) (pre := ([] : va_W)) (post := ([] : va_W)) (w2 := (wM a cy 1 sm ln pt sg fi se (mSt n o h t s g kn lo lf nm) sv sl ik bf co go fo)) (As := [.int 1]) (rest := []) C (c_X4_fails cy a 0 sm ln pt sg fi se n o h t s g kn lo lf nm sv sl ik bf co go fo 1) gX4_turn_X4_fails rfl rfl rfl (by decide +kernel) (k_room hR (by decide)) ⟨Nat.zero_le _, Nat.zero_le _⟩ (ci := 4) rfl 0 rfl rfl rfl (Nat.le_of_ble_eq_true rfl) ((List.append_nil _).symm) (List.append_nil _) dX4_turn_14 rfl ?_
    exact k_fin E dX4_turn_17 (rfl) (rfl)
set_option maxHeartbeats 4000000 in
set_option maxRecDepth 100000 in
theorem c_X4_turn (cy : Nat → ClassId) (a : Nat → Nat) (th : Int32) (sm : Nat) (ln : Nat) (pt : Nat) (sg : Nat) (fi : Int32) (se : Int32) (n : Nat) (o : Nat → Int32) (h : Nat → Int32) (t : Nat → Int32) (s : Nat → Int32) (g : Nat → Int32) (kn : Nat) (lo : Int32) (lf : Int32) (nm : Nat → Int32) (sv : Nat → Int32) (sl : Nat → Int32) (ik : Nat → Int32) (bf : Nat → Nat) (co : Nat → Int32) (go : Nat → Int32) (fo : Nat → Int32) (j : Nat)  (hj : j < 2) (hs : sm ≤ 6) : kI yX4_turn wsX4_turn rm_X4_turn cy [.ref (a 0), .int (nI j)] (wM a cy th sm ln pt sg fi se (mSt n o h t s g kn lo lf nm) sv sl ik bf co go fo) (1 - o j) (wM a cy 0 (min (sm + 1) 6) ln pt sg fi se (mSt n (upd o j (1 - o j)) h t s g kn lo lf nm) (mSave sv (mSt n o h t s g kn lo lf nm) sm) sl ik bf co go fo) := by
  refine kI_of (cc := cX4_turn) (maxL := 2) (rt := .int) (by decide) rfl (rfl) (Nat.le_of_ble_eq_true rfl) ?_
  intro X hR C E
  have C : kC X 2 RX4 cX4_turn wsX4_turn cy := C
  refine k_fr (fr2 := [(0, .ref (a 0)), (1, .int (nI j))]) ⟨[0, 1], rfl⟩ ?_
  refine k_aload_n (q := 1) C 0 dX4_turn_0 rfl rfl ?_
  refine k_iconst (q := 2) (v := 0) C dX4_turn_1 (by decide) rfl ?_
  refine k_put (q := 5) (ci := 4) (v := .int 0) (w2 := (wM a cy 0 sm ln pt sg fi se (mSt n o h t s g kn lo lf nm) sv sl ik bf co go fo)) C 0 0 in4_X4_turn rfl (List.mem_of_getElem? (i := 1) rfl) rfl tyX4 tyX4_ok nmX4 rfl (rfl) (rfl) rfl (by decide) (Nat.le_of_ble_eq_true rfl) (rfl) dX4_turn_2 rfl ?_
  refine k_iload_n (q := 6) C 1 dX4_turn_5 rfl rfl ?_
  refine k_callSI (n := 1) (q := 9) (pre := ([] : va_W)) (post := (wM a cy 0 sm ln pt sg fi se (mSt n o h t s g kn lo lf nm) sv sl ik bf co go fo)) (w2 := (wM a cy 0 sm ln pt sg fi se (mSt n o h t s g kn lo lf nm) sv sl ik bf co go fo)) (As := [.int (nI j)]) (rest := []) C (c_X4_isLight (nI j)) gX4_turn_X4_isLight rfl rfl rfl (by decide +kernel) (k_room hR (by decide)) ⟨Nat.zero_le _, Nat.zero_le _⟩  rfl rfl (Nat.le_of_ble_eq_true rfl) (rfl) (rfl) dX4_turn_6 rfl ?_
  refine k_ifB_ne (tgt := 18) (q := 12) C dX4_turn_9 (by decide) rfl ?_ ?_
  · intro c_9
    refine k_aload_n (q := 19) C 0 dX4_turn_18 rfl rfl ?_
    refine k_callVV (n := 0) (q := 22) (pre := ([] : va_W)) (post := ([] : va_W)) (w2 := (wM a cy 0 (min (sm + 1) 6) ln pt sg fi se (mSt n o h t s g kn lo lf nm) (mSave sv (mSt n o h t s g kn lo lf nm) sm) sl ik bf co go fo)) (As := []) (rest := []) C (c_X4_save cy a 0 sm ln pt sg fi se (mSt n o h t s g kn lo lf nm) sv sl ik bf co go fo (by omega)) gX4_turn_X4_save rfl rfl rfl (by decide +kernel) (k_room hR (by decide)) ⟨Nat.zero_le _, Nat.zero_le _⟩ (ci := 4) rfl 0 rfl rfl rfl (Nat.le_of_ble_eq_true rfl) ((List.append_nil _).symm) (List.append_nil _) dX4_turn_19 rfl ?_
    refine k_aload_n (q := 23) C 0 dX4_turn_22 rfl rfl ?_
    refine k_get (q := 26) (ci := 4) (v := .ref (a 1)) C 0 1 in4_X4_turn rfl (List.mem_of_getElem? (i := 2) rfl) rfl rfl (by decide) rfl dX4_turn_23 rfl ?_
    refine k_bipush (q := 28) (v := 6) C dX4_turn_26 (by decide +kernel) rfl ?_
    refine k_iload_n (q := 29) C 1 dX4_turn_28 rfl rfl ?_
    refine k_iadd (q := 30) C dX4_turn_29 rfl ?_
    refine k_st (st2 := (.int (nI (6 + j)) :: _)) (congrArg (fun z => Value.int z :: _) (show 6 + (nI j) = nI (6 + j) from nI_add 6 j)) ?_
    refine k_iconst (q := 31) (v := 1) C dX4_turn_30 (by decide) rfl ?_
    refine k_aload_n (q := 32) C 0 dX4_turn_31 rfl rfl ?_
    refine k_get (q := 35) (ci := 4) (v := .ref (a 1)) C 0 1 in4_X4_turn rfl (List.mem_of_getElem? (i := 2) rfl) rfl rfl (by decide) rfl dX4_turn_32 rfl ?_
    refine k_bipush (q := 37) (v := 6) C dX4_turn_35 (by decide +kernel) rfl ?_
    refine k_iload_n (q := 38) C 1 dX4_turn_37 rfl rfl ?_
    refine k_iadd (q := 39) C dX4_turn_38 rfl ?_
    refine k_st (st2 := (.int (nI (6 + j)) :: _)) (congrArg (fun z => Value.int z :: _) (show 6 + (nI j) = nI (6 + j) from nI_add 6 j)) ?_
    refine k_iald (q := 40) C 1 rfl (vp_in_nI (n := 6 + j) (by omega) (by decide)) dX4_turn_39 rfl ?_
    refine k_st (st2 := (.int ((mSt n o h t s g kn lo lf nm) (6 + j)) :: _)) (congrArg (fun z => Value.int z :: _) (show (mSt n o h t s g kn lo lf nm) (nI (6 + j)).toNatClampNeg = (mSt n o h t s g kn lo lf nm) (6 + j) from congrArg (mSt n o h t s g kn lo lf nm) (nI_clamp (n := 6 + j) (by omega)))) ?_
    refine k_st (st2 := (.int (o j) :: _)) (congrArg (fun z => Value.int z :: _) (show (mSt n o h t s g kn lo lf nm) (6 + j) = o j from mSt_o (k := j) (by omega))) ?_
    refine k_isub (q := 41) C dX4_turn_40 rfl ?_
    refine k_iast (q := 42) (w2 := (wM a cy 0 (min (sm + 1) 6) ln pt sg fi se (mSt n (upd o j (1 - (o j))) h t s g kn lo lf nm) (mSave sv (mSt n o h t s g kn lo lf nm) sm) sl ik bf co go fo)) C 1 rfl (vp_in_nI (n := 6 + j) (by omega) (by decide)) (by rw [nI_clamp (n := 6 + j) (by omega)]; exact wM_st (mSt_wo (k := j) (by omega))) dX4_turn_41 rfl ?_
    refine k_aload_n (q := 43) C 0 dX4_turn_42 rfl rfl ?_
    refine k_get (q := 46) (ci := 4) (v := .ref (a 1)) C 0 1 in4_X4_turn rfl (List.mem_of_getElem? (i := 2) rfl) rfl rfl (by decide) rfl dX4_turn_43 rfl ?_
    refine k_bipush (q := 48) (v := 6) C dX4_turn_46 (by decide +kernel) rfl ?_
    refine k_iload_n (q := 49) C 1 dX4_turn_48 rfl rfl ?_
    refine k_iadd (q := 50) C dX4_turn_49 rfl ?_
    refine k_st (st2 := (.int (nI (6 + j)) :: _)) (congrArg (fun z => Value.int z :: _) (show 6 + (nI j) = nI (6 + j) from nI_add 6 j)) ?_
    refine k_iald (q := 51) C 1 rfl (vp_in_nI (n := 6 + j) (by omega) (by decide)) dX4_turn_50 rfl ?_
    refine k_st (st2 := (.int ((mSt n (upd o j (1 - (o j))) h t s g kn lo lf nm) (6 + j)) :: _)) (congrArg (fun z => Value.int z :: _) (show (mSt n (upd o j (1 - (o j))) h t s g kn lo lf nm) (nI (6 + j)).toNatClampNeg = (mSt n (upd o j (1 - (o j))) h t s g kn lo lf nm) (6 + j) from congrArg (mSt n (upd o j (1 - (o j))) h t s g kn lo lf nm) (nI_clamp (n := 6 + j) (by omega)))) ?_
    refine k_st (st2 := (.int ((upd o j (1 - (o j))) j) :: _)) (congrArg (fun z => Value.int z :: _) (show (mSt n (upd o j (1 - (o j))) h t s g kn lo lf nm) (6 + j) = (upd o j (1 - (o j))) j from mSt_o (k := j) (by omega))) ?_
    exact k_fin E dX4_turn_51 (pk_us) (rfl)
  · exact fun c_9 => absurd (mSlot hj) c_9
abbrev rm_X4_set : Room := { frames := 1, cells := 0, slots := 0, locals := 22 }
theorem in4_X4_set : ∀ w ∈ wsX40, w ∈ wsX4_set := fun _ h => (List.mem_cons_of_mem _ (List.mem_append_right _ h))
set_option maxHeartbeats 4000000 in
set_option maxRecDepth 100000 in
theorem c_X4_set_e (cy : Nat → ClassId) (a : Nat → Nat) (th : Int32) (sm : Nat) (ln : Nat) (pt : Nat) (sg : Nat) (fi : Int32) (se : Int32) (n : Nat) (o : Nat → Int32) (h : Nat → Int32) (t : Nat → Int32) (s : Nat → Int32) (g : Nat → Int32) (kn : Nat) (lo : Int32) (lf : Int32) (nm : Nat → Int32) (sv : Nat → Int32) (sl : Nat → Int32) (ik : Nat → Int32) (bf : Nat → Nat) (co : Nat → Int32) (go : Nat → Int32) (fo : Nat → Int32) (x : Int32) (y : Int32)  (hx : ¬ (0 ≤ x ∧ x ≤ 3)) : kI yX4_set wsX4_set rm_X4_set cy [.ref (a 0), .int x, .int y] (wM a cy th sm ln pt sg fi se (mSt n o h t s g kn lo lf nm) sv sl ik bf co go fo) 0 (wM a cy 1 sm ln pt sg fi se (mSt n o h t s g kn lo lf nm) sv sl ik bf co go fo) := by
  refine kI_of (cc := cX4_set) (maxL := 4) (rt := .int) (by decide) rfl (rfl) (Nat.le_of_ble_eq_true rfl) ?_
  intro X hR C E
  have C : kC X 4 RX4 cX4_set wsX4_set cy := C
  refine k_fr (fr2 := [(0, .ref (a 0)), (1, .int x), (2, .int y)]) ⟨[0, 1, 2], rfl⟩ ?_
  refine k_aload_n (q := 1) C 0 dX4_set_0 rfl rfl ?_
  refine k_iconst (q := 2) (v := 0) C dX4_set_1 (by decide) rfl ?_
  refine k_put (q := 5) (ci := 4) (v := .int 0) (w2 := (wM a cy 0 sm ln pt sg fi se (mSt n o h t s g kn lo lf nm) sv sl ik bf co go fo)) C 0 0 in4_X4_set rfl (List.mem_of_getElem? (i := 1) rfl) rfl tyX4 tyX4_ok nmX4 rfl (rfl) (rfl) rfl (by decide) (Nat.le_of_ble_eq_true rfl) (rfl) dX4_set_2 rfl ?_
  refine k_iload_n (q := 6) C 1 dX4_set_5 rfl rfl ?_
  refine k_iconst (q := 7) (v := 0) C dX4_set_6 (by decide) rfl ?_
  refine k_iconst (q := 8) (v := 3) C dX4_set_7 (by decide) rfl ?_
  refine k_callSI (n := 3) (q := 11) (pre := ([] : va_W)) (post := (wM a cy 0 sm ln pt sg fi se (mSt n o h t s g kn lo lf nm) sv sl ik bf co go fo)) (w2 := (wM a cy 0 sm ln pt sg fi se (mSt n o h t s g kn lo lf nm) sv sl ik bf co go fo)) (As := [.int x, .int 0, .int 3]) (rest := []) C (c_X4_within x 0 3) gX4_set_X4_within rfl rfl rfl (by decide +kernel) (k_room hR (by decide)) ⟨Nat.zero_le _, Nat.zero_le _⟩  rfl rfl (Nat.le_of_ble_eq_true rfl) (rfl) (rfl) dX4_set_8 rfl ?_
  refine k_ifB_ne (tgt := 20) (q := 14) C dX4_set_11 (by decide) rfl ?_ ?_
  · exact fun c_11 => absurd c_11 hx
  · intro c_11
    refine k_aload_n (q := 15) C 0 dX4_set_14 rfl rfl ?_
    refine k_iconst (q := 16) (v := 1) C dX4_set_15 (by decide) rfl ?_
    refine k_callVI (n := 1) (q := 19) (pre := ([] : va_W)) (post := ([] : va_W)) (w2 := (wM a cy 1 sm ln pt sg fi se (mSt n o h t s g kn lo lf nm) sv sl ik bf co go fo)) (As := [.int 1]) (rest := []) C (c_X4_fails cy a 0 sm ln pt sg fi se n o h t s g kn lo lf nm sv sl ik bf co go fo 1) gX4_set_X4_fails rfl rfl rfl (by decide +kernel) (k_room hR (by decide)) ⟨Nat.zero_le _, Nat.zero_le _⟩ (ci := 4) rfl 0 rfl rfl rfl (Nat.le_of_ble_eq_true rfl) ((List.append_nil _).symm) (List.append_nil _) dX4_set_16 rfl ?_
    exact k_fin E dX4_set_19 (rfl) (rfl)
set_option maxHeartbeats 4000000 in
set_option maxRecDepth 100000 in
theorem c_X4_set_e2 (cy : Nat → ClassId) (a : Nat → Nat) (th : Int32) (sm : Nat) (ln : Nat) (pt : Nat) (sg : Nat) (fi : Int32) (se : Int32) (n : Nat) (o : Nat → Int32) (h : Nat → Int32) (t : Nat → Int32) (s : Nat → Int32) (g : Nat → Int32) (kn : Nat) (lo : Int32) (lf : Int32) (nm : Nat → Int32) (sv : Nat → Int32) (sl : Nat → Int32) (ik : Nat → Int32) (bf : Nat → Nat) (co : Nat → Int32) (go : Nat → Int32) (fo : Nat → Int32) (j : Nat) (y : Int32)  (hj : j < 4) (hy : ¬ (mLeast j ≤ y ∧ y ≤ mMost j)) : kI yX4_set wsX4_set rm_X4_set cy [.ref (a 0), .int (nI j), .int y] (wM a cy th sm ln pt sg fi se (mSt n o h t s g kn lo lf nm) sv sl ik bf co go fo) 0 (wM a cy 2 sm ln pt sg fi se (mSt n o h t s g kn lo lf nm) sv sl ik bf co go fo) := by
  refine kI_of (cc := cX4_set) (maxL := 4) (rt := .int) (by decide) rfl (rfl) (Nat.le_of_ble_eq_true rfl) ?_
  intro X hR C E
  have C : kC X 4 RX4 cX4_set wsX4_set cy := C
  refine k_fr (fr2 := [(0, .ref (a 0)), (1, .int (nI j)), (2, .int y)]) ⟨[0, 1, 2], rfl⟩ ?_
  refine k_aload_n (q := 1) C 0 dX4_set_0 rfl rfl ?_
  refine k_iconst (q := 2) (v := 0) C dX4_set_1 (by decide) rfl ?_
  refine k_put (q := 5) (ci := 4) (v := .int 0) (w2 := (wM a cy 0 sm ln pt sg fi se (mSt n o h t s g kn lo lf nm) sv sl ik bf co go fo)) C 0 0 in4_X4_set rfl (List.mem_of_getElem? (i := 1) rfl) rfl tyX4 tyX4_ok nmX4 rfl (rfl) (rfl) rfl (by decide) (Nat.le_of_ble_eq_true rfl) (rfl) dX4_set_2 rfl ?_
  refine k_iload_n (q := 6) C 1 dX4_set_5 rfl rfl ?_
  refine k_iconst (q := 7) (v := 0) C dX4_set_6 (by decide) rfl ?_
  refine k_iconst (q := 8) (v := 3) C dX4_set_7 (by decide) rfl ?_
  refine k_callSI (n := 3) (q := 11) (pre := ([] : va_W)) (post := (wM a cy 0 sm ln pt sg fi se (mSt n o h t s g kn lo lf nm) sv sl ik bf co go fo)) (w2 := (wM a cy 0 sm ln pt sg fi se (mSt n o h t s g kn lo lf nm) sv sl ik bf co go fo)) (As := [.int (nI j), .int 0, .int 3]) (rest := []) C (c_X4_within (nI j) 0 3) gX4_set_X4_within rfl rfl rfl (by decide +kernel) (k_room hR (by decide)) ⟨Nat.zero_le _, Nat.zero_le _⟩  rfl rfl (Nat.le_of_ble_eq_true rfl) (rfl) (rfl) dX4_set_8 rfl ?_
  refine k_ifB_ne (tgt := 20) (q := 14) C dX4_set_11 (by decide) rfl ?_ ?_
  · intro c_11
    refine k_iload_n (q := 21) C 2 dX4_set_20 rfl rfl ?_
    refine k_iload_n (q := 22) C 1 dX4_set_21 rfl rfl ?_
    refine k_callSI (n := 1) (q := 25) (pre := ([] : va_W)) (post := (wM a cy 0 sm ln pt sg fi se (mSt n o h t s g kn lo lf nm) sv sl ik bf co go fo)) (w2 := (wM a cy 0 sm ln pt sg fi se (mSt n o h t s g kn lo lf nm) sv sl ik bf co go fo)) (As := [.int (nI j)]) (rest := [.int y]) C (c_X4_leastOf j (by omega)) gX4_set_X4_leastOf rfl rfl rfl (by decide +kernel) (k_room hR (by decide)) ⟨Nat.zero_le _, Nat.zero_le _⟩  rfl rfl (Nat.le_of_ble_eq_true rfl) (rfl) (rfl) dX4_set_22 rfl ?_
    refine k_iload_n (q := 26) C 1 dX4_set_25 rfl rfl ?_
    refine k_callSI (n := 1) (q := 29) (pre := ([] : va_W)) (post := (wM a cy 0 sm ln pt sg fi se (mSt n o h t s g kn lo lf nm) sv sl ik bf co go fo)) (w2 := (wM a cy 0 sm ln pt sg fi se (mSt n o h t s g kn lo lf nm) sv sl ik bf co go fo)) (As := [.int (nI j)]) (rest := [.int (mLeast j), .int y]) C (c_X4_mostOf j (by omega)) gX4_set_X4_mostOf rfl rfl rfl (by decide +kernel) (k_room hR (by decide)) ⟨Nat.zero_le _, Nat.zero_le _⟩  rfl rfl (Nat.le_of_ble_eq_true rfl) (rfl) (rfl) dX4_set_26 rfl ?_
    refine k_callSI (n := 3) (q := 32) (pre := ([] : va_W)) (post := (wM a cy 0 sm ln pt sg fi se (mSt n o h t s g kn lo lf nm) sv sl ik bf co go fo)) (w2 := (wM a cy 0 sm ln pt sg fi se (mSt n o h t s g kn lo lf nm) sv sl ik bf co go fo)) (As := [.int y, .int (mLeast j), .int (mMost j)]) (rest := []) C (c_X4_within y (mLeast j) (mMost j)) gX4_set_X4_within rfl rfl rfl (by decide +kernel) (k_room hR (by decide)) ⟨Nat.zero_le _, Nat.zero_le _⟩  rfl rfl (Nat.le_of_ble_eq_true rfl) (rfl) (rfl) dX4_set_29 rfl ?_
    refine k_ifB_ne (tgt := 41) (q := 35) C dX4_set_32 (by decide) rfl ?_ ?_
    · exact fun c_32 => absurd c_32 hy
    · intro c_32
      refine k_aload_n (q := 36) C 0 dX4_set_35 rfl rfl ?_
      refine k_iconst (q := 37) (v := 2) C dX4_set_36 (by decide) rfl ?_
      refine k_callVI (n := 1) (q := 40) (pre := ([] : va_W)) (post := ([] : va_W)) (w2 := (wM a cy 2 sm ln pt sg fi se (mSt n o h t s g kn lo lf nm) sv sl ik bf co go fo)) (As := [.int 2]) (rest := []) C (c_X4_fails cy a 0 sm ln pt sg fi se n o h t s g kn lo lf nm sv sl ik bf co go fo 2) gX4_set_X4_fails rfl rfl rfl (by decide +kernel) (k_room hR (by decide)) ⟨Nat.zero_le _, Nat.zero_le _⟩ (ci := 4) rfl 0 rfl rfl rfl (Nat.le_of_ble_eq_true rfl) ((List.append_nil _).symm) (List.append_nil _) dX4_set_37 rfl ?_
      exact k_fin E dX4_set_40 (rfl) (rfl)
  · exact fun c_11 => absurd (w03 (by omega)) c_11
set_option maxHeartbeats 4000000 in
set_option maxRecDepth 100000 in
theorem c_X4_set (cy : Nat → ClassId) (a : Nat → Nat) (th : Int32) (sm : Nat) (ln : Nat) (pt : Nat) (sg : Nat) (fi : Int32) (se : Int32) (n : Nat) (o : Nat → Int32) (h : Nat → Int32) (t : Nat → Int32) (s : Nat → Int32) (g : Nat → Int32) (kn : Nat) (lo : Int32) (lf : Int32) (nm : Nat → Int32) (sv : Nat → Int32) (sl : Nat → Int32) (ik : Nat → Int32) (bf : Nat → Nat) (co : Nat → Int32) (go : Nat → Int32) (fo : Nat → Int32) (j : Nat) (y : Int32)  (hj : j < 4) (hy : (mLeast j ≤ y ∧ y ≤ mMost j)) (hs : sm ≤ 6) : kI yX4_set wsX4_set rm_X4_set cy [.ref (a 0), .int (nI j), .int y] (wM a cy th sm ln pt sg fi se (mSt n o h t s g kn lo lf nm) sv sl ik bf co go fo) (g j) (wM a cy 0 (min (sm + 1) 6) ln pt sg fi se (mSt n o h t s (upd g j y) kn lo lf nm) (mSave sv (mSt n o h t s g kn lo lf nm) sm) sl ik bf co go fo) := by
  refine kI_of (cc := cX4_set) (maxL := 4) (rt := .int) (by decide) rfl (rfl) (Nat.le_of_ble_eq_true rfl) ?_
  intro X hR C E
  have C : kC X 4 RX4 cX4_set wsX4_set cy := C
  refine k_fr (fr2 := [(0, .ref (a 0)), (1, .int (nI j)), (2, .int y)]) ⟨[0, 1, 2], rfl⟩ ?_
  refine k_aload_n (q := 1) C 0 dX4_set_0 rfl rfl ?_
  refine k_iconst (q := 2) (v := 0) C dX4_set_1 (by decide) rfl ?_
  refine k_put (q := 5) (ci := 4) (v := .int 0) (w2 := (wM a cy 0 sm ln pt sg fi se (mSt n o h t s g kn lo lf nm) sv sl ik bf co go fo)) C 0 0 in4_X4_set rfl (List.mem_of_getElem? (i := 1) rfl) rfl tyX4 tyX4_ok nmX4 rfl (rfl) (rfl) rfl (by decide) (Nat.le_of_ble_eq_true rfl) (rfl) dX4_set_2 rfl ?_
  refine k_iload_n (q := 6) C 1 dX4_set_5 rfl rfl ?_
  refine k_iconst (q := 7) (v := 0) C dX4_set_6 (by decide) rfl ?_
  refine k_iconst (q := 8) (v := 3) C dX4_set_7 (by decide) rfl ?_
  refine k_callSI (n := 3) (q := 11) (pre := ([] : va_W)) (post := (wM a cy 0 sm ln pt sg fi se (mSt n o h t s g kn lo lf nm) sv sl ik bf co go fo)) (w2 := (wM a cy 0 sm ln pt sg fi se (mSt n o h t s g kn lo lf nm) sv sl ik bf co go fo)) (As := [.int (nI j), .int 0, .int 3]) (rest := []) C (c_X4_within (nI j) 0 3) gX4_set_X4_within rfl rfl rfl (by decide +kernel) (k_room hR (by decide)) ⟨Nat.zero_le _, Nat.zero_le _⟩  rfl rfl (Nat.le_of_ble_eq_true rfl) (rfl) (rfl) dX4_set_8 rfl ?_
  refine k_ifB_ne (tgt := 20) (q := 14) C dX4_set_11 (by decide) rfl ?_ ?_
  · intro c_11
    refine k_iload_n (q := 21) C 2 dX4_set_20 rfl rfl ?_
    refine k_iload_n (q := 22) C 1 dX4_set_21 rfl rfl ?_
    refine k_callSI (n := 1) (q := 25) (pre := ([] : va_W)) (post := (wM a cy 0 sm ln pt sg fi se (mSt n o h t s g kn lo lf nm) sv sl ik bf co go fo)) (w2 := (wM a cy 0 sm ln pt sg fi se (mSt n o h t s g kn lo lf nm) sv sl ik bf co go fo)) (As := [.int (nI j)]) (rest := [.int y]) C (c_X4_leastOf j (by omega)) gX4_set_X4_leastOf rfl rfl rfl (by decide +kernel) (k_room hR (by decide)) ⟨Nat.zero_le _, Nat.zero_le _⟩  rfl rfl (Nat.le_of_ble_eq_true rfl) (rfl) (rfl) dX4_set_22 rfl ?_
    refine k_iload_n (q := 26) C 1 dX4_set_25 rfl rfl ?_
    refine k_callSI (n := 1) (q := 29) (pre := ([] : va_W)) (post := (wM a cy 0 sm ln pt sg fi se (mSt n o h t s g kn lo lf nm) sv sl ik bf co go fo)) (w2 := (wM a cy 0 sm ln pt sg fi se (mSt n o h t s g kn lo lf nm) sv sl ik bf co go fo)) (As := [.int (nI j)]) (rest := [.int (mLeast j), .int y]) C (c_X4_mostOf j (by omega)) gX4_set_X4_mostOf rfl rfl rfl (by decide +kernel) (k_room hR (by decide)) ⟨Nat.zero_le _, Nat.zero_le _⟩  rfl rfl (Nat.le_of_ble_eq_true rfl) (rfl) (rfl) dX4_set_26 rfl ?_
    refine k_callSI (n := 3) (q := 32) (pre := ([] : va_W)) (post := (wM a cy 0 sm ln pt sg fi se (mSt n o h t s g kn lo lf nm) sv sl ik bf co go fo)) (w2 := (wM a cy 0 sm ln pt sg fi se (mSt n o h t s g kn lo lf nm) sv sl ik bf co go fo)) (As := [.int y, .int (mLeast j), .int (mMost j)]) (rest := []) C (c_X4_within y (mLeast j) (mMost j)) gX4_set_X4_within rfl rfl rfl (by decide +kernel) (k_room hR (by decide)) ⟨Nat.zero_le _, Nat.zero_le _⟩  rfl rfl (Nat.le_of_ble_eq_true rfl) (rfl) (rfl) dX4_set_29 rfl ?_
    refine k_ifB_ne (tgt := 41) (q := 35) C dX4_set_32 (by decide) rfl ?_ ?_
    · intro c_32
      refine k_aload_n (q := 42) C 0 dX4_set_41 rfl rfl ?_
      refine k_callVV (n := 0) (q := 45) (pre := ([] : va_W)) (post := ([] : va_W)) (w2 := (wM a cy 0 (min (sm + 1) 6) ln pt sg fi se (mSt n o h t s g kn lo lf nm) (mSave sv (mSt n o h t s g kn lo lf nm) sm) sl ik bf co go fo)) (As := []) (rest := []) C (c_X4_save cy a 0 sm ln pt sg fi se (mSt n o h t s g kn lo lf nm) sv sl ik bf co go fo (by omega)) gX4_set_X4_save rfl rfl rfl (by decide +kernel) (k_room hR (by decide)) ⟨Nat.zero_le _, Nat.zero_le _⟩ (ci := 4) rfl 0 rfl rfl rfl (Nat.le_of_ble_eq_true rfl) ((List.append_nil _).symm) (List.append_nil _) dX4_set_42 rfl ?_
      refine k_aload_n (q := 46) C 0 dX4_set_45 rfl rfl ?_
      refine k_get (q := 49) (ci := 4) (v := .ref (a 1)) C 0 1 in4_X4_set rfl (List.mem_of_getElem? (i := 2) rfl) rfl rfl (by decide) rfl dX4_set_46 rfl ?_
      refine k_iconst (q := 50) (v := 0) C dX4_set_49 (by decide) rfl ?_
      refine k_iload_n (q := 51) C 1 dX4_set_50 rfl rfl ?_
      refine k_iadd (q := 52) C dX4_set_51 rfl ?_
      refine k_st (st2 := (.int (nI (0 + j)) :: _)) (congrArg (fun z => Value.int z :: _) (show 0 + (nI j) = nI (0 + j) from nI_add 0 j)) ?_
      refine k_st (st2 := (.int (nI j) :: _)) (congrArg (fun z => Value.int z :: _) (show nI (0 + j) = nI j from congrArg nI (Nat.zero_add j))) ?_
      refine k_iald (q := 53) C 1 rfl (vp_in_nI (n := j) (by omega) (by decide)) dX4_set_52 rfl ?_
      refine k_st (st2 := (.int ((mSt n o h t s g kn lo lf nm) j) :: _)) (congrArg (fun z => Value.int z :: _) (show (mSt n o h t s g kn lo lf nm) (nI j).toNatClampNeg = (mSt n o h t s g kn lo lf nm) j from congrArg (mSt n o h t s g kn lo lf nm) (nI_clamp (n := j) (by omega)))) ?_
      refine k_st (st2 := (.int (g j) :: _)) (congrArg (fun z => Value.int z :: _) (show (mSt n o h t s g kn lo lf nm) j = g j from mSt_g (k := j) (by omega))) ?_
      refine k_istore_n (q := 54) (fr2 := [(3, .int (g j)), (0, .ref (a 0)), (1, .int (nI j)), (2, .int y)]) C dX4_set_53 (by decide) rfl rfl ?_
      refine k_aload_n (q := 55) C 1 dX4_set_54 rfl rfl ?_
      refine k_get (q := 58) (ci := 4) (v := .ref (a 1)) C 0 1 in4_X4_set rfl (List.mem_of_getElem? (i := 2) rfl) rfl rfl (by decide) rfl dX4_set_55 rfl ?_
      refine k_iconst (q := 59) (v := 0) C dX4_set_58 (by decide) rfl ?_
      refine k_iload_n (q := 60) C 2 dX4_set_59 rfl rfl ?_
      refine k_iadd (q := 61) C dX4_set_60 rfl ?_
      refine k_st (st2 := (.int (nI (0 + j)) :: _)) (congrArg (fun z => Value.int z :: _) (show 0 + (nI j) = nI (0 + j) from nI_add 0 j)) ?_
      refine k_st (st2 := (.int (nI j) :: _)) (congrArg (fun z => Value.int z :: _) (show nI (0 + j) = nI j from congrArg nI (Nat.zero_add j))) ?_
      refine k_iload_n (q := 62) C 3 dX4_set_61 rfl rfl ?_
      refine k_iast (q := 63) (w2 := (wM a cy 0 (min (sm + 1) 6) ln pt sg fi se (mSt n o h t s (upd g j y) kn lo lf nm) (mSave sv (mSt n o h t s g kn lo lf nm) sm) sl ik bf co go fo)) C 1 rfl (vp_in_nI (n := j) (by omega) (by decide)) (by rw [nI_clamp (n := j) (by omega)]; exact wM_st (mSt_wg (k := j) (by omega))) dX4_set_62 rfl ?_
      refine k_iload_n (q := 64) C 0 dX4_set_63 rfl rfl ?_
      exact k_fin E dX4_set_64 (rfl) (rfl)
    · exact fun c_32 => absurd hy c_32
  · exact fun c_11 => absurd (w03 (by omega)) c_11
abbrev rm_X4_scan : Room := { frames := 4, cells := 0, slots := 0, locals := 93 }
theorem in4_X4_scan : ∀ w ∈ wsX40, w ∈ wsX4_scan := fun _ h => (List.mem_cons_of_mem _ (List.mem_append_right _ h))
set_option maxHeartbeats 4000000 in
set_option maxRecDepth 100000 in
theorem c_X4_scan_e (cy : Nat → ClassId) (a : Nat → Nat) (th : Int32) (sm : Nat) (ln : Nat) (pt : Nat) (sg : Nat) (fi : Int32) (se : Int32) (n : Nat) (o : Nat → Int32) (h : Nat → Int32) (t : Nat → Int32) (s : Nat → Int32) (g : Nat → Int32) (kn : Nat) (lo : Int32) (lf : Int32) (nm : Nat → Int32) (sv : Nat → Int32) (sl : Nat → Int32) (ik : Nat → Int32) (bf : Nat → Nat) (co : Nat → Int32) (go : Nat → Int32) (fo : Nat → Int32) (x : Int32) (y : Int32)  (hn : n ≤ 6) (hx : ¬ ((0 ≤ x ∧ x ≤ 1) ∧ (0 ≤ y ∧ y < nI n))) : kI yX4_scan wsX4_scan rm_X4_scan cy [.ref (a 0), .int x, .int y] (wM a cy th sm ln pt sg fi se (mSt n o h t s g kn lo lf nm) sv sl ik bf co go fo) 0 (wM a cy 1 sm ln pt sg fi se (mSt n o h t s g kn lo lf nm) sv sl ik bf co go fo) := by
  refine kI_of (cc := cX4_scan) (maxL := 3) (rt := .int) (by decide) rfl (rfl) (Nat.le_of_ble_eq_true rfl) ?_
  intro X hR C E
  have C : kC X 3 RX4 cX4_scan wsX4_scan cy := C
  refine k_fr (fr2 := [(0, .ref (a 0)), (1, .int x), (2, .int y)]) ⟨[0, 1, 2], rfl⟩ ?_
  refine k_aload_n (q := 1) C 0 dX4_scan_0 rfl rfl ?_
  refine k_iconst (q := 2) (v := 0) C dX4_scan_1 (by decide) rfl ?_
  refine k_put (q := 5) (ci := 4) (v := .int 0) (w2 := (wM a cy 0 sm ln pt sg fi se (mSt n o h t s g kn lo lf nm) sv sl ik bf co go fo)) C 0 0 in4_X4_scan rfl (List.mem_of_getElem? (i := 1) rfl) rfl tyX4 tyX4_ok nmX4 rfl (rfl) (rfl) rfl (by decide) (Nat.le_of_ble_eq_true rfl) (rfl) dX4_scan_2 rfl ?_
  refine k_iload_n (q := 6) C 1 dX4_scan_5 rfl rfl ?_
  refine k_callSI (n := 1) (q := 9) (pre := ([] : va_W)) (post := (wM a cy 0 sm ln pt sg fi se (mSt n o h t s g kn lo lf nm) sv sl ik bf co go fo)) (w2 := (wM a cy 0 sm ln pt sg fi se (mSt n o h t s g kn lo lf nm) sv sl ik bf co go fo)) (As := [.int x]) (rest := []) C (c_X4_isLight x) gX4_scan_X4_isLight rfl rfl rfl (by decide +kernel) (k_room hR (by decide)) ⟨Nat.zero_le _, Nat.zero_le _⟩  rfl rfl (Nat.le_of_ble_eq_true rfl) (rfl) (rfl) dX4_scan_6 rfl ?_
  refine k_ifB_eq (tgt := 20) (q := 12) C dX4_scan_9 (by decide) rfl ?_ ?_
  · intro c_9
    refine k_aload_n (q := 21) C 0 dX4_scan_20 rfl rfl ?_
    refine k_iconst (q := 22) (v := 1) C dX4_scan_21 (by decide) rfl ?_
    refine k_callVI (n := 1) (q := 25) (pre := ([] : va_W)) (post := ([] : va_W)) (w2 := (wM a cy 1 sm ln pt sg fi se (mSt n o h t s g kn lo lf nm) sv sl ik bf co go fo)) (As := [.int 1]) (rest := []) C (c_X4_fails cy a 0 sm ln pt sg fi se n o h t s g kn lo lf nm sv sl ik bf co go fo 1) gX4_scan_X4_fails rfl rfl rfl (by decide +kernel) (k_room hR (by decide)) ⟨Nat.zero_le _, Nat.zero_le _⟩ (ci := 4) rfl 0 rfl rfl rfl (Nat.le_of_ble_eq_true rfl) ((List.append_nil _).symm) (List.append_nil _) dX4_scan_22 rfl ?_
    exact k_fin E dX4_scan_25 (rfl) (rfl)
  · intro c_9
    refine k_aload_n (q := 13) C 0 dX4_scan_12 rfl rfl ?_
    refine k_iload_n (q := 14) C 2 dX4_scan_13 rfl rfl ?_
    refine k_callVI (n := 1) (q := 17) (pre := ([] : va_W)) (post := ([] : va_W)) (w2 := (wM a cy 0 sm ln pt sg fi se (mSt n o h t s g kn lo lf nm) sv sl ik bf co go fo)) (As := [.int y]) (rest := []) C (c_X4_isLayer cy a 0 sm ln pt sg fi se n o h t s g kn lo lf nm sv sl ik bf co go fo y (by omega)) gX4_scan_X4_isLayer rfl rfl rfl (by decide +kernel) (k_room hR (by decide)) ⟨Nat.zero_le _, Nat.zero_le _⟩ (ci := 4) rfl 0 rfl rfl rfl (Nat.le_of_ble_eq_true rfl) ((List.append_nil _).symm) (List.append_nil _) dX4_scan_14 rfl ?_
    refine k_ifB_ne (tgt := 26) (q := 20) C dX4_scan_17 (by decide) rfl ?_ ?_
    · exact fun c_17 => absurd ⟨c_9, c_17⟩ hx
    · intro c_17
      refine k_aload_n (q := 21) C 0 dX4_scan_20 rfl rfl ?_
      refine k_iconst (q := 22) (v := 1) C dX4_scan_21 (by decide) rfl ?_
      refine k_callVI (n := 1) (q := 25) (pre := ([] : va_W)) (post := ([] : va_W)) (w2 := (wM a cy 1 sm ln pt sg fi se (mSt n o h t s g kn lo lf nm) sv sl ik bf co go fo)) (As := [.int 1]) (rest := []) C (c_X4_fails cy a 0 sm ln pt sg fi se n o h t s g kn lo lf nm sv sl ik bf co go fo 1) gX4_scan_X4_fails rfl rfl rfl (by decide +kernel) (k_room hR (by decide)) ⟨Nat.zero_le _, Nat.zero_le _⟩ (ci := 4) rfl 0 rfl rfl rfl (Nat.le_of_ble_eq_true rfl) ((List.append_nil _).symm) (List.append_nil _) dX4_scan_22 rfl ?_
      exact k_fin E dX4_scan_25 (rfl) (rfl)
set_option maxHeartbeats 4000000 in
set_option maxRecDepth 100000 in
theorem c_X4_scan (cy : Nat → ClassId) (a : Nat → Nat) (th : Int32) (sm : Nat) (ln : Nat) (pt : Nat) (sg : Nat) (fi : Int32) (se : Int32) (n : Nat) (o : Nat → Int32) (h : Nat → Int32) (t : Nat → Int32) (s : Nat → Int32) (g : Nat → Int32) (kn : Nat) (lo : Int32) (lf : Int32) (nm : Nat → Int32) (sv : Nat → Int32) (sl : Nat → Int32) (ik : Nat → Int32) (bf : Nat → Nat) (co : Nat → Int32) (go : Nat → Int32) (fo : Nat → Int32) (j : Nat) (p : Nat)  (hn : n ≤ 6) (hj : j < 2) (hp : p < n) (hs : sm ≤ 6) : kI yX4_scan wsX4_scan rm_X4_scan cy [.ref (a 0), .int (nI j), .int (nI p)] (wM a cy th sm ln pt sg fi se (mSt n o h t s g kn lo lf nm) sv sl ik bf co go fo) (mAbs (sDist h g p (upd s j (mB (sFar g h s j p) 61).1 0) (upd s j (mB (sFar g h s j p) 61).1 1))) (wM a cy 0 (min (sm + 1) 6) ln pt sg fi se (mSt n o h t (upd s j (mB (sFar g h s j p) 61).1) g kn lo lf nm) (mSave sv (mSt n o h t s g kn lo lf nm) sm) sl ik bf co go fo) := by
  refine kI_of (cc := cX4_scan) (maxL := 3) (rt := .int) (by decide) rfl (rfl) (Nat.le_of_ble_eq_true rfl) ?_
  intro X hR C E
  have C : kC X 3 RX4 cX4_scan wsX4_scan cy := C
  refine k_fr (fr2 := [(0, .ref (a 0)), (1, .int (nI j)), (2, .int (nI p))]) ⟨[0, 1, 2], rfl⟩ ?_
  refine k_aload_n (q := 1) C 0 dX4_scan_0 rfl rfl ?_
  refine k_iconst (q := 2) (v := 0) C dX4_scan_1 (by decide) rfl ?_
  refine k_put (q := 5) (ci := 4) (v := .int 0) (w2 := (wM a cy 0 sm ln pt sg fi se (mSt n o h t s g kn lo lf nm) sv sl ik bf co go fo)) C 0 0 in4_X4_scan rfl (List.mem_of_getElem? (i := 1) rfl) rfl tyX4 tyX4_ok nmX4 rfl (rfl) (rfl) rfl (by decide) (Nat.le_of_ble_eq_true rfl) (rfl) dX4_scan_2 rfl ?_
  refine k_iload_n (q := 6) C 1 dX4_scan_5 rfl rfl ?_
  refine k_callSI (n := 1) (q := 9) (pre := ([] : va_W)) (post := (wM a cy 0 sm ln pt sg fi se (mSt n o h t s g kn lo lf nm) sv sl ik bf co go fo)) (w2 := (wM a cy 0 sm ln pt sg fi se (mSt n o h t s g kn lo lf nm) sv sl ik bf co go fo)) (As := [.int (nI j)]) (rest := []) C (c_X4_isLight (nI j)) gX4_scan_X4_isLight rfl rfl rfl (by decide +kernel) (k_room hR (by decide)) ⟨Nat.zero_le _, Nat.zero_le _⟩  rfl rfl (Nat.le_of_ble_eq_true rfl) (rfl) (rfl) dX4_scan_6 rfl ?_
  refine k_ifB_eq (tgt := 20) (q := 12) C dX4_scan_9 (by decide) rfl ?_ ?_
  · exact fun c_9 => absurd (mSlot hj) c_9
  · intro c_9
    refine k_aload_n (q := 13) C 0 dX4_scan_12 rfl rfl ?_
    refine k_iload_n (q := 14) C 2 dX4_scan_13 rfl rfl ?_
    refine k_callVI (n := 1) (q := 17) (pre := ([] : va_W)) (post := ([] : va_W)) (w2 := (wM a cy 0 sm ln pt sg fi se (mSt n o h t s g kn lo lf nm) sv sl ik bf co go fo)) (As := [.int (nI p)]) (rest := []) C (c_X4_isLayer cy a 0 sm ln pt sg fi se n o h t s g kn lo lf nm sv sl ik bf co go fo (nI p) (by omega)) gX4_scan_X4_isLayer rfl rfl rfl (by decide +kernel) (k_room hR (by decide)) ⟨Nat.zero_le _, Nat.zero_le _⟩ (ci := 4) rfl 0 rfl rfl rfl (Nat.le_of_ble_eq_true rfl) ((List.append_nil _).symm) (List.append_nil _) dX4_scan_14 rfl ?_
    refine k_ifB_ne (tgt := 26) (q := 20) C dX4_scan_17 (by decide) rfl ?_ ?_
    · intro c_17
      refine k_aload_n (q := 27) C 0 dX4_scan_26 rfl rfl ?_
      refine k_callVV (n := 0) (q := 30) (pre := ([] : va_W)) (post := ([] : va_W)) (w2 := (wM a cy 0 (min (sm + 1) 6) ln pt sg fi se (mSt n o h t s g kn lo lf nm) (mSave sv (mSt n o h t s g kn lo lf nm) sm) sl ik bf co go fo)) (As := []) (rest := []) C (c_X4_save cy a 0 sm ln pt sg fi se (mSt n o h t s g kn lo lf nm) sv sl ik bf co go fo (by omega)) gX4_scan_X4_save rfl rfl rfl (by decide +kernel) (k_room hR (by decide)) ⟨Nat.zero_le _, Nat.zero_le _⟩ (ci := 4) rfl 0 rfl rfl rfl (Nat.le_of_ble_eq_true rfl) ((List.append_nil _).symm) (List.append_nil _) dX4_scan_27 rfl ?_
      refine k_aload_n (q := 31) C 0 dX4_scan_30 rfl rfl ?_
      refine k_get (q := 34) (ci := 4) (v := .ref (a 1)) C 0 1 in4_X4_scan rfl (List.mem_of_getElem? (i := 2) rfl) rfl rfl (by decide) rfl dX4_scan_31 rfl ?_
      refine k_iconst (q := 35) (v := 4) C dX4_scan_34 (by decide) rfl ?_
      refine k_iload_n (q := 36) C 1 dX4_scan_35 rfl rfl ?_
      refine k_iadd (q := 37) C dX4_scan_36 rfl ?_
      refine k_st (st2 := (.int (nI (4 + j)) :: _)) (congrArg (fun z => Value.int z :: _) (show 4 + (nI j) = nI (4 + j) from nI_add 4 j)) ?_
      refine k_aload_n (q := 38) C 0 dX4_scan_37 rfl rfl ?_
      refine k_iload_n (q := 39) C 1 dX4_scan_38 rfl rfl ?_
      refine k_iload_n (q := 40) C 2 dX4_scan_39 rfl rfl ?_
      refine k_callVI (n := 2) (q := 43) (pre := ([] : va_W)) (post := ([] : va_W)) (w2 := (wM a cy 0 (min (sm + 1) 6) ln pt sg fi se (mSt n o h t s g kn lo lf nm) (mSave sv (mSt n o h t s g kn lo lf nm) sm) sl ik bf co go fo)) (As := [.int (nI j), .int (nI p)]) (rest := [.int (nI (4 + j)), .ref (a 1)]) C (c_X4_bestSlope cy a 0 (min (sm + 1) 6) ln pt sg fi se n o h t s g kn lo lf nm (mSave sv (mSt n o h t s g kn lo lf nm) sm) sl ik bf co go fo j p (by omega) (by omega)) gX4_scan_X4_bestSlope rfl rfl rfl (by decide +kernel) (k_room hR (by decide)) ⟨Nat.zero_le _, Nat.zero_le _⟩ (ci := 4) rfl 0 rfl rfl rfl (Nat.le_of_ble_eq_true rfl) ((List.append_nil _).symm) (List.append_nil _) dX4_scan_40 rfl ?_
      refine k_iast (q := 44) (w2 := (wM a cy 0 (min (sm + 1) 6) ln pt sg fi se (mSt n o h t (upd s j ((mB (sFar g h s j p) 61).1)) g kn lo lf nm) (mSave sv (mSt n o h t s g kn lo lf nm) sm) sl ik bf co go fo)) C 1 rfl (vp_in_nI (n := 4 + j) (by omega) (by decide)) (by rw [nI_clamp (n := 4 + j) (by omega)]; exact wM_st (mSt_ws (k := j) (by omega))) dX4_scan_43 rfl ?_
      refine k_aload_n (q := 45) C 0 dX4_scan_44 rfl rfl ?_
      refine k_iload_n (q := 46) C 2 dX4_scan_45 rfl rfl ?_
      refine k_callVI (n := 1) (q := 49) (pre := ([] : va_W)) (post := ([] : va_W)) (w2 := (wM a cy 0 (min (sm + 1) 6) ln pt sg fi se (mSt n o h t (upd s j ((mB (sFar g h s j p) 61).1)) g kn lo lf nm) (mSave sv (mSt n o h t s g kn lo lf nm) sm) sl ik bf co go fo)) (As := [.int (nI p)]) (rest := []) C (c_X4_distance cy a 0 (min (sm + 1) 6) ln pt sg fi se n o h t (upd s j ((mB (sFar g h s j p) 61).1)) g kn lo lf nm (mSave sv (mSt n o h t s g kn lo lf nm) sm) sl ik bf co go fo p (by omega)) gX4_scan_X4_distance rfl rfl rfl (by decide +kernel) (k_room hR (by decide)) ⟨Nat.zero_le _, Nat.zero_le _⟩ (ci := 4) rfl 0 rfl rfl rfl (Nat.le_of_ble_eq_true rfl) ((List.append_nil _).symm) (List.append_nil _) dX4_scan_46 rfl ?_
      refine k_callSI (n := 1) (q := 52) (pre := ([] : va_W)) (post := (wM a cy 0 (min (sm + 1) 6) ln pt sg fi se (mSt n o h t (upd s j ((mB (sFar g h s j p) 61).1)) g kn lo lf nm) (mSave sv (mSt n o h t s g kn lo lf nm) sm) sl ik bf co go fo)) (w2 := (wM a cy 0 (min (sm + 1) 6) ln pt sg fi se (mSt n o h t (upd s j ((mB (sFar g h s j p) 61).1)) g kn lo lf nm) (mSave sv (mSt n o h t s g kn lo lf nm) sm) sl ik bf co go fo)) (As := [.int (sDist h g p ((upd s j ((mB (sFar g h s j p) 61).1)) 0) ((upd s j ((mB (sFar g h s j p) 61).1)) 1))]) (rest := []) C (c_X4_sizeOf (sDist h g p ((upd s j ((mB (sFar g h s j p) 61).1)) 0) ((upd s j ((mB (sFar g h s j p) 61).1)) 1))) gX4_scan_X4_sizeOf rfl rfl rfl (by decide +kernel) (k_room hR (by decide)) ⟨Nat.zero_le _, Nat.zero_le _⟩  rfl rfl (Nat.le_of_ble_eq_true rfl) (rfl) (rfl) dX4_scan_49 rfl ?_
      exact k_fin E dX4_scan_52 (rfl) (rfl)
    · exact fun c_17 => absurd ⟨nI_pos' (by omega), nI_lt (by omega) (by omega)⟩ c_17
abbrev rm_X4_log : Room := { frames := 7, cells := 0, slots := 0, locals := 154 }
theorem in4_X4_log : ∀ w ∈ wsX40, w ∈ wsX4_log := fun _ h => (List.mem_cons_of_mem _ (List.mem_append_right _ h))
set_option maxHeartbeats 4000000 in
set_option maxRecDepth 100000 in
theorem c_X4_log (cy : Nat → ClassId) (a : Nat → Nat) (th : Int32) (sm : Nat) (ln : Nat) (pt : Nat) (sg : Nat) (fi : Int32) (se : Int32) (n : Nat) (o : Nat → Int32) (h : Nat → Int32) (t : Nat → Int32) (s : Nat → Int32) (g : Nat → Int32) (kn : Nat) (lo : Int32) (lf : Int32) (nm : Nat → Int32) (sv : Nat → Int32) (sl : Nat → Int32) (ik : Nat → Int32) (bf : Nat → Nat) (co : Nat → Int32) (go : Nat → Int32) (fo : Nat → Int32)  (hn : n ≤ 6) (ho : mBin o) (h0 : sOk (s 0)) (h1 : sOk (s 1)) (hkn : kn ≤ 8) (hs : sm ≤ 6) : kIx yX4_log wsX4_log rm_X4_log cy [.ref (a 0)] (wM a cy th sm ln pt sg fi se (mSt n o h t s g kn lo lf nm) sv sl ik bf co go fo) (nI (min (kn + 1) 8)) (fun (u : (Nat → Int32) × (Nat → Int32) × (Nat → Int32)) => (wM a cy 0 (min (sm + 1) 6) ln pt sg fi se (mSt n o h t s g (min (kn + 1) 8) (lo + 1) (lf + bI ((mLg h n (sMeet g (s 0) (s 1)) (mC (sClose (mLit o) h t s g) (mD h s g) n)).2.2.2 = true)) (sWrL nm (mLg h n (sMeet g (s 0) (s 1)) (mC (sClose (mLit o) h t s g) (mD h s g) n)))) (mSave sv (mSt n o h t s g kn lo lf nm) sm) sl ik bf u.1 u.2.1 u.2.2)) (fun (u : (Nat → Int32) × (Nat → Int32) × (Nat → Int32)) => True) := by
  refine kIx_of (cc := cX4_log) (maxL := 1) (rt := .int) (by decide) rfl (rfl) (Nat.le_of_ble_eq_true rfl) ?_
  intro X hR C E
  have C : kC X 1 RX4 cX4_log wsX4_log cy := C
  refine k_fr (fr2 := [(0, .ref (a 0))]) ⟨[0], rfl⟩ ?_
  refine k_aload_n (q := 1) C 0 dX4_log_0 rfl rfl ?_
  refine k_iconst (q := 2) (v := 0) C dX4_log_1 (by decide) rfl ?_
  refine k_put (q := 5) (ci := 4) (v := .int 0) (w2 := (wM a cy 0 sm ln pt sg fi se (mSt n o h t s g kn lo lf nm) sv sl ik bf co go fo)) C 0 0 in4_X4_log rfl (List.mem_of_getElem? (i := 1) rfl) rfl tyX4 tyX4_ok nmX4 rfl (rfl) (rfl) rfl (by decide) (Nat.le_of_ble_eq_true rfl) (rfl) dX4_log_2 rfl ?_
  refine k_aload_n (q := 6) C 0 dX4_log_5 rfl rfl ?_
  refine k_callVV (n := 0) (q := 9) (pre := ([] : va_W)) (post := ([] : va_W)) (w2 := (wM a cy 0 (min (sm + 1) 6) ln pt sg fi se (mSt n o h t s g kn lo lf nm) (mSave sv (mSt n o h t s g kn lo lf nm) sm) sl ik bf co go fo)) (As := []) (rest := []) C (c_X4_save cy a 0 sm ln pt sg fi se (mSt n o h t s g kn lo lf nm) sv sl ik bf co go fo (by omega)) gX4_log_X4_save rfl rfl rfl (by decide +kernel) (k_room hR (by decide)) ⟨Nat.zero_le _, Nat.zero_le _⟩ (ci := 4) rfl 0 rfl rfl rfl (Nat.le_of_ble_eq_true rfl) ((List.append_nil _).symm) (List.append_nil _) dX4_log_6 rfl ?_
  refine k_aload_n (q := 10) C 0 dX4_log_9 rfl rfl ?_
  refine k_callVIx (n := 0) (q := 13) (pre := ([] : va_W)) (post := ([] : va_W)) (w2 := (fun u => (wM a cy 0 (min (sm + 1) 6) ln pt sg fi se (mSt n o h t s g (min (kn + 1) 8) (lo + 1) (lf + bI ((mLg h n (sMeet g (s 0) (s 1)) (mC (sClose (mLit o) h t s g) (mD h s g) n)).2.2.2 = true)) (sWrL nm (mLg h n (sMeet g (s 0) (s 1)) (mC (sClose (mLit o) h t s g) (mD h s g) n)))) (mSave sv (mSt n o h t s g kn lo lf nm) sm) sl ik bf (u.1) (u.2.1) (u.2.2)))) (As := []) (rest := []) C (c_X4_logNow cy a 0 (min (sm + 1) 6) ln pt sg fi se n o h t s g kn lo lf nm (mSave sv (mSt n o h t s g kn lo lf nm) sm) sl ik bf co go fo hn ho h0 h1 hkn) gX4_log_X4_logNow rfl rfl rfl (by decide +kernel) (k_room hR (by decide)) ⟨Nat.zero_le _, Nat.zero_le _⟩ (ci := 4) rfl 0 rfl rfl rfl (Nat.le_of_ble_eq_true rfl) ((List.append_nil _).symm) (fun u => List.append_nil _) dX4_log_10 rfl ?_
  rintro ⟨co_10, go_10, fo_10⟩ h_10
  try dsimp only at h_10
  exact k_finx E (co_10, go_10, fo_10) dX4_log_13 (rfl) (rfl) (trivial)
abbrev rm_X4_append : Room := { frames := 1, cells := 0, slots := 0, locals := 22 }
theorem in4_X4_append : ∀ w ∈ wsX40, w ∈ wsX4_append := fun _ h => (List.mem_cons_of_mem _ (List.mem_append_right _ h))
set_option maxHeartbeats 4000000 in
set_option maxRecDepth 100000 in
theorem c_X4_append_e (cy : Nat → ClassId) (a : Nat → Nat) (th : Int32) (sm : Nat) (ln : Nat) (pt : Nat) (sg : Nat) (fi : Int32) (se : Int32) (n : Nat) (o : Nat → Int32) (h : Nat → Int32) (t : Nat → Int32) (s : Nat → Int32) (g : Nat → Int32) (kn : Nat) (lo : Int32) (lf : Int32) (nm : Nat → Int32) (sv : Nat → Int32) (sl : Nat → Int32) (ik : Nat → Int32) (bf : Nat → Nat) (co : Nat → Int32) (go : Nat → Int32) (fo : Nat → Int32) (x : Int32)  (hx : ¬ (33 ≤ x ∧ x ≤ 126)) : kI yX4_append wsX4_append rm_X4_append cy [.ref (a 0), .int x] (wM a cy th sm ln pt sg fi se (mSt n o h t s g kn lo lf nm) sv sl ik bf co go fo) 0 (wM a cy 1 sm ln pt sg fi se (mSt n o h t s g kn lo lf nm) sv sl ik bf co go fo) := by
  refine kI_of (cc := cX4_append) (maxL := 2) (rt := .int) (by decide) rfl (rfl) (Nat.le_of_ble_eq_true rfl) ?_
  intro X hR C E
  have C : kC X 2 RX4 cX4_append wsX4_append cy := C
  refine k_fr (fr2 := [(0, .ref (a 0)), (1, .int x)]) ⟨[0, 1], rfl⟩ ?_
  refine k_aload_n (q := 1) C 0 dX4_append_0 rfl rfl ?_
  refine k_iconst (q := 2) (v := 0) C dX4_append_1 (by decide) rfl ?_
  refine k_put (q := 5) (ci := 4) (v := .int 0) (w2 := (wM a cy 0 sm ln pt sg fi se (mSt n o h t s g kn lo lf nm) sv sl ik bf co go fo)) C 0 0 in4_X4_append rfl (List.mem_of_getElem? (i := 1) rfl) rfl tyX4 tyX4_ok nmX4 rfl (rfl) (rfl) rfl (by decide) (Nat.le_of_ble_eq_true rfl) (rfl) dX4_append_2 rfl ?_
  refine k_iload_n (q := 6) C 1 dX4_append_5 rfl rfl ?_
  refine k_bipush (q := 8) (v := 33) C dX4_append_6 (by decide +kernel) rfl ?_
  refine k_bipush (q := 10) (v := 126) C dX4_append_8 (by decide +kernel) rfl ?_
  refine k_callSI (n := 3) (q := 13) (pre := ([] : va_W)) (post := (wM a cy 0 sm ln pt sg fi se (mSt n o h t s g kn lo lf nm) sv sl ik bf co go fo)) (w2 := (wM a cy 0 sm ln pt sg fi se (mSt n o h t s g kn lo lf nm) sv sl ik bf co go fo)) (As := [.int x, .int 33, .int 126]) (rest := []) C (c_X4_within x 33 126) gX4_append_X4_within rfl rfl rfl (by decide +kernel) (k_room hR (by decide)) ⟨Nat.zero_le _, Nat.zero_le _⟩  rfl rfl (Nat.le_of_ble_eq_true rfl) (rfl) (rfl) dX4_append_10 rfl ?_
  refine k_ifB_ne (tgt := 22) (q := 16) C dX4_append_13 (by decide) rfl ?_ ?_
  · exact fun c_13 => absurd c_13 hx
  · intro c_13
    refine k_aload_n (q := 17) C 0 dX4_append_16 rfl rfl ?_
    refine k_iconst (q := 18) (v := 1) C dX4_append_17 (by decide) rfl ?_
    refine k_callVI (n := 1) (q := 21) (pre := ([] : va_W)) (post := ([] : va_W)) (w2 := (wM a cy 1 sm ln pt sg fi se (mSt n o h t s g kn lo lf nm) sv sl ik bf co go fo)) (As := [.int 1]) (rest := []) C (c_X4_fails cy a 0 sm ln pt sg fi se n o h t s g kn lo lf nm sv sl ik bf co go fo 1) gX4_append_X4_fails rfl rfl rfl (by decide +kernel) (k_room hR (by decide)) ⟨Nat.zero_le _, Nat.zero_le _⟩ (ci := 4) rfl 0 rfl rfl rfl (Nat.le_of_ble_eq_true rfl) ((List.append_nil _).symm) (List.append_nil _) dX4_append_18 rfl ?_
    exact k_fin E dX4_append_21 (rfl) (rfl)
set_option maxHeartbeats 4000000 in
set_option maxRecDepth 100000 in
theorem c_X4_append_e2 (cy : Nat → ClassId) (a : Nat → Nat) (th : Int32) (sm : Nat) (ln : Nat) (pt : Nat) (sg : Nat) (fi : Int32) (se : Int32) (n : Nat) (o : Nat → Int32) (h : Nat → Int32) (t : Nat → Int32) (s : Nat → Int32) (g : Nat → Int32) (kn : Nat) (lo : Int32) (lf : Int32) (nm : Nat → Int32) (sv : Nat → Int32) (sl : Nat → Int32) (ik : Nat → Int32) (bf : Nat → Nat) (co : Nat → Int32) (go : Nat → Int32) (fo : Nat → Int32) (c : Nat)  (hc : 33 ≤ c ∧ c ≤ 126) (hl : ln = 60) : kI yX4_append wsX4_append rm_X4_append cy [.ref (a 0), .int (nI c)] (wM a cy th sm ln pt sg fi se (mSt n o h t s g kn lo lf nm) sv sl ik bf co go fo) 0 (wM a cy 2 sm ln pt sg fi se (mSt n o h t s g kn lo lf nm) sv sl ik bf co go fo) := by
  refine kI_of (cc := cX4_append) (maxL := 2) (rt := .int) (by decide) rfl (rfl) (Nat.le_of_ble_eq_true rfl) ?_
  intro X hR C E
  have C : kC X 2 RX4 cX4_append wsX4_append cy := C
  refine k_fr (fr2 := [(0, .ref (a 0)), (1, .int (nI c))]) ⟨[0, 1], rfl⟩ ?_
  refine k_aload_n (q := 1) C 0 dX4_append_0 rfl rfl ?_
  refine k_iconst (q := 2) (v := 0) C dX4_append_1 (by decide) rfl ?_
  refine k_put (q := 5) (ci := 4) (v := .int 0) (w2 := (wM a cy 0 sm ln pt sg fi se (mSt n o h t s g kn lo lf nm) sv sl ik bf co go fo)) C 0 0 in4_X4_append rfl (List.mem_of_getElem? (i := 1) rfl) rfl tyX4 tyX4_ok nmX4 rfl (rfl) (rfl) rfl (by decide) (Nat.le_of_ble_eq_true rfl) (rfl) dX4_append_2 rfl ?_
  refine k_iload_n (q := 6) C 1 dX4_append_5 rfl rfl ?_
  refine k_bipush (q := 8) (v := 33) C dX4_append_6 (by decide +kernel) rfl ?_
  refine k_bipush (q := 10) (v := 126) C dX4_append_8 (by decide +kernel) rfl ?_
  refine k_callSI (n := 3) (q := 13) (pre := ([] : va_W)) (post := (wM a cy 0 sm ln pt sg fi se (mSt n o h t s g kn lo lf nm) sv sl ik bf co go fo)) (w2 := (wM a cy 0 sm ln pt sg fi se (mSt n o h t s g kn lo lf nm) sv sl ik bf co go fo)) (As := [.int (nI c), .int 33, .int 126]) (rest := []) C (c_X4_within (nI c) 33 126) gX4_append_X4_within rfl rfl rfl (by decide +kernel) (k_room hR (by decide)) ⟨Nat.zero_le _, Nat.zero_le _⟩  rfl rfl (Nat.le_of_ble_eq_true rfl) (rfl) (rfl) dX4_append_10 rfl ?_
  refine k_ifB_ne (tgt := 22) (q := 16) C dX4_append_13 (by decide) rfl ?_ ?_
  · intro c_13
    refine k_aload_n (q := 23) C 0 dX4_append_22 rfl rfl ?_
    refine k_get (q := 26) (ci := 4) (v := .int (nI ln)) C 0 7 in4_X4_append rfl (List.mem_of_getElem? (i := 2) rfl) rfl rfl (by decide) rfl dX4_append_23 rfl ?_
    refine k_bipush (q := 28) (v := 60) C dX4_append_26 (by decide +kernel) rfl ?_
    refine k_nicmp_ne (a := ln) (b := 60)  (tgt := 37) (q := 31) C dX4_append_28 (by decide) rfl (by omega) (by decide) ?_ ?_
    · exact fun c_28 => absurd hl c_28
    · intro c_28
      refine k_aload_n (q := 32) C 0 dX4_append_31 rfl rfl ?_
      refine k_iconst (q := 33) (v := 2) C dX4_append_32 (by decide) rfl ?_
      refine k_callVI (n := 1) (q := 36) (pre := ([] : va_W)) (post := ([] : va_W)) (w2 := (wM a cy 2 sm ln pt sg fi se (mSt n o h t s g kn lo lf nm) sv sl ik bf co go fo)) (As := [.int 2]) (rest := []) C (c_X4_fails cy a 0 sm ln pt sg fi se n o h t s g kn lo lf nm sv sl ik bf co go fo 2) gX4_append_X4_fails rfl rfl rfl (by decide +kernel) (k_room hR (by decide)) ⟨Nat.zero_le _, Nat.zero_le _⟩ (ci := 4) rfl 0 rfl rfl rfl (Nat.le_of_ble_eq_true rfl) ((List.append_nil _).symm) (List.append_nil _) dX4_append_33 rfl ?_
      exact k_fin E dX4_append_36 (rfl) (rfl)
  · exact fun c_13 => absurd ⟨(nI_leI (a := 33) (by decide) (by omega)).mpr hc.1, (nI_leI (b := 126) (by omega) (by decide)).mpr hc.2⟩ c_13
set_option maxHeartbeats 4000000 in
set_option maxRecDepth 100000 in
theorem c_X4_append (cy : Nat → ClassId) (a : Nat → Nat) (th : Int32) (sm : Nat) (ln : Nat) (pt : Nat) (sg : Nat) (fi : Int32) (se : Int32) (n : Nat) (o : Nat → Int32) (h : Nat → Int32) (t : Nat → Int32) (s : Nat → Int32) (g : Nat → Int32) (kn : Nat) (lo : Int32) (lf : Int32) (nm : Nat → Int32) (sv : Nat → Int32) (sl : Nat → Int32) (ik : Nat → Int32) (bf : Nat → Nat) (co : Nat → Int32) (go : Nat → Int32) (fo : Nat → Int32) (c : Nat)  (hc : 33 ≤ c ∧ c ≤ 126) (hl : ln < 60) : kI yX4_append wsX4_append rm_X4_append cy [.ref (a 0), .int (nI c)] (wM a cy th sm ln pt sg fi se (mSt n o h t s g kn lo lf nm) sv sl ik bf co go fo) (nI (ln + 1)) (wM a cy 0 sm (ln + 1) pt sg fi se (mSt n o h t s g kn lo lf nm) sv sl ik (updN bf ln c) co go fo) := by
  refine kI_of (cc := cX4_append) (maxL := 2) (rt := .int) (by decide) rfl (rfl) (Nat.le_of_ble_eq_true rfl) ?_
  intro X hR C E
  have C : kC X 2 RX4 cX4_append wsX4_append cy := C
  refine k_fr (fr2 := [(0, .ref (a 0)), (1, .int (nI c))]) ⟨[0, 1], rfl⟩ ?_
  refine k_aload_n (q := 1) C 0 dX4_append_0 rfl rfl ?_
  refine k_iconst (q := 2) (v := 0) C dX4_append_1 (by decide) rfl ?_
  refine k_put (q := 5) (ci := 4) (v := .int 0) (w2 := (wM a cy 0 sm ln pt sg fi se (mSt n o h t s g kn lo lf nm) sv sl ik bf co go fo)) C 0 0 in4_X4_append rfl (List.mem_of_getElem? (i := 1) rfl) rfl tyX4 tyX4_ok nmX4 rfl (rfl) (rfl) rfl (by decide) (Nat.le_of_ble_eq_true rfl) (rfl) dX4_append_2 rfl ?_
  refine k_iload_n (q := 6) C 1 dX4_append_5 rfl rfl ?_
  refine k_bipush (q := 8) (v := 33) C dX4_append_6 (by decide +kernel) rfl ?_
  refine k_bipush (q := 10) (v := 126) C dX4_append_8 (by decide +kernel) rfl ?_
  refine k_callSI (n := 3) (q := 13) (pre := ([] : va_W)) (post := (wM a cy 0 sm ln pt sg fi se (mSt n o h t s g kn lo lf nm) sv sl ik bf co go fo)) (w2 := (wM a cy 0 sm ln pt sg fi se (mSt n o h t s g kn lo lf nm) sv sl ik bf co go fo)) (As := [.int (nI c), .int 33, .int 126]) (rest := []) C (c_X4_within (nI c) 33 126) gX4_append_X4_within rfl rfl rfl (by decide +kernel) (k_room hR (by decide)) ⟨Nat.zero_le _, Nat.zero_le _⟩  rfl rfl (Nat.le_of_ble_eq_true rfl) (rfl) (rfl) dX4_append_10 rfl ?_
  refine k_ifB_ne (tgt := 22) (q := 16) C dX4_append_13 (by decide) rfl ?_ ?_
  · intro c_13
    refine k_aload_n (q := 23) C 0 dX4_append_22 rfl rfl ?_
    refine k_get (q := 26) (ci := 4) (v := .int (nI ln)) C 0 7 in4_X4_append rfl (List.mem_of_getElem? (i := 2) rfl) rfl rfl (by decide) rfl dX4_append_23 rfl ?_
    refine k_bipush (q := 28) (v := 60) C dX4_append_26 (by decide +kernel) rfl ?_
    refine k_nicmp_ne (a := ln) (b := 60)  (tgt := 37) (q := 31) C dX4_append_28 (by decide) rfl (by omega) (by decide) ?_ ?_
    · intro c_28
      refine k_aload_n (q := 38) C 0 dX4_append_37 rfl rfl ?_
      refine k_get (q := 41) (ci := 4) (v := .ref (a 5)) C 0 6 in4_X4_append rfl (List.mem_of_getElem? (i := 3) rfl) rfl rfl (by decide) rfl dX4_append_38 rfl ?_
      refine k_aload_n (q := 42) C 0 dX4_append_41 rfl rfl ?_
      refine k_get (q := 45) (ci := 4) (v := .int (nI ln)) C 0 7 in4_X4_append rfl (List.mem_of_getElem? (i := 2) rfl) rfl rfl (by decide) rfl dX4_append_42 rfl ?_
      refine k_iload_n (q := 46) C 1 dX4_append_45 rfl rfl ?_
      refine k_iast (q := 47) (w2 := (wM a cy 0 sm ln pt sg fi se (mSt n o h t s g kn lo lf nm) sv sl ik (updN bf ln c) co go fo)) C 5 rfl (vp_in_nI (n := ln) (by omega) (by decide)) (by rw [nI_clamp (n := ln) (by omega)]; exact wM_bf) dX4_append_46 rfl ?_
      refine k_aload_n (q := 48) C 0 dX4_append_47 rfl rfl ?_
      refine k_dup (q := 49) C dX4_append_48 rfl rfl ?_
      refine k_get (q := 52) (ci := 4) (v := .int (nI ln)) C 0 7 in4_X4_append rfl (List.mem_of_getElem? (i := 2) rfl) rfl rfl (by decide) rfl dX4_append_49 rfl ?_
      refine k_iconst (q := 53) (v := 1) C dX4_append_52 (by decide) rfl ?_
      refine k_iadd (q := 54) C dX4_append_53 rfl ?_
      refine k_st (st2 := (.int (nI (ln + 1)) :: _)) (congrArg (fun z => Value.int z :: _) (show (nI ln) + 1 = nI (ln + 1) from nI_add ln 1)) ?_
      refine k_put (q := 57) (ci := 4) (v := .int (nI (ln + 1))) (w2 := (wM a cy 0 sm (ln + 1) pt sg fi se (mSt n o h t s g kn lo lf nm) sv sl ik (updN bf ln c) co go fo)) C 0 7 in4_X4_append rfl (List.mem_of_getElem? (i := 2) rfl) rfl tyX4 tyX4_ok nmX4 rfl (rfl) (rfl) rfl (by decide) (Nat.le_of_ble_eq_true rfl) (rfl) dX4_append_54 rfl ?_
      refine k_aload_n (q := 58) C 0 dX4_append_57 rfl rfl ?_
      refine k_get (q := 61) (ci := 4) (v := .int (nI (ln + 1))) C 0 7 in4_X4_append rfl (List.mem_of_getElem? (i := 2) rfl) rfl rfl (by decide) rfl dX4_append_58 rfl ?_
      exact k_fin E dX4_append_61 (rfl) (rfl)
    · exact fun c_28 => absurd c_28 (by omega)
  · exact fun c_13 => absurd ⟨(nI_leI (a := 33) (by decide) (by omega)).mpr hc.1, (nI_leI (b := 126) (by omega) (by decide)).mpr hc.2⟩ c_13
abbrev rm_X4_clearBuffer : Room := { frames := 0, cells := 0, slots := 0, locals := 0 }
theorem in4_X4_clearBuffer : ∀ w ∈ wsX40, w ∈ wsX4_clearBuffer := fun _ h => (List.mem_cons_of_mem _ (List.mem_append_right _ h))
set_option maxHeartbeats 4000000 in
set_option maxRecDepth 100000 in
theorem c_X4_clearBuffer (cy : Nat → ClassId) (a : Nat → Nat) (th : Int32) (sm : Nat) (ln : Nat) (pt : Nat) (sg : Nat) (fi : Int32) (se : Int32) (n : Nat) (o : Nat → Int32) (h : Nat → Int32) (t : Nat → Int32) (s : Nat → Int32) (g : Nat → Int32) (kn : Nat) (lo : Int32) (lf : Int32) (nm : Nat → Int32) (sv : Nat → Int32) (sl : Nat → Int32) (ik : Nat → Int32) (bf : Nat → Nat) (co : Nat → Int32) (go : Nat → Int32) (fo : Nat → Int32)   : kI yX4_clearBuffer wsX4_clearBuffer rm_X4_clearBuffer cy [.ref (a 0)] (wM a cy th sm ln pt sg fi se (mSt n o h t s g kn lo lf nm) sv sl ik bf co go fo) (nI ln) (wM a cy 0 sm 0 pt sg fi se (mSt n o h t s g kn lo lf nm) sv sl ik bf co go fo) := by
  refine kI_of (cc := cX4_clearBuffer) (maxL := 2) (rt := .int) (by decide) rfl (rfl) (Nat.le_of_ble_eq_true rfl) ?_
  intro X hR C E
  have C : kC X 2 RX4 cX4_clearBuffer wsX4_clearBuffer cy := C
  refine k_fr (fr2 := [(0, .ref (a 0))]) ⟨[0], rfl⟩ ?_
  refine k_aload_n (q := 1) C 0 dX4_clearBuffer_0 rfl rfl ?_
  refine k_iconst (q := 2) (v := 0) C dX4_clearBuffer_1 (by decide) rfl ?_
  refine k_put (q := 5) (ci := 4) (v := .int 0) (w2 := (wM a cy 0 sm ln pt sg fi se (mSt n o h t s g kn lo lf nm) sv sl ik bf co go fo)) C 0 0 in4_X4_clearBuffer rfl (List.mem_of_getElem? (i := 1) rfl) rfl tyX4 tyX4_ok nmX4 rfl (rfl) (rfl) rfl (by decide) (Nat.le_of_ble_eq_true rfl) (rfl) dX4_clearBuffer_2 rfl ?_
  refine k_aload_n (q := 6) C 0 dX4_clearBuffer_5 rfl rfl ?_
  refine k_get (q := 9) (ci := 4) (v := .int (nI ln)) C 0 7 in4_X4_clearBuffer rfl (List.mem_of_getElem? (i := 2) rfl) rfl rfl (by decide) rfl dX4_clearBuffer_6 rfl ?_
  refine k_istore_n (q := 10) (fr2 := [(1, .int (nI ln)), (0, .ref (a 0))]) C dX4_clearBuffer_9 (by decide) rfl rfl ?_
  refine k_aload_n (q := 11) C 1 dX4_clearBuffer_10 rfl rfl ?_
  refine k_iconst (q := 12) (v := 0) C dX4_clearBuffer_11 (by decide) rfl ?_
  refine k_put (q := 15) (ci := 4) (v := .int 0) (w2 := (wM a cy 0 sm 0 pt sg fi se (mSt n o h t s g kn lo lf nm) sv sl ik bf co go fo)) C 0 7 in4_X4_clearBuffer rfl (List.mem_of_getElem? (i := 2) rfl) rfl tyX4 tyX4_ok nmX4 rfl (rfl) (rfl) rfl (by decide) (Nat.le_of_ble_eq_true rfl) (rfl) dX4_clearBuffer_12 rfl ?_
  refine k_iload_n (q := 16) C 0 dX4_clearBuffer_15 rfl rfl ?_
  exact k_fin E dX4_clearBuffer_16 (rfl) (rfl)
abbrev rm_X4_tellsLayer : Room := { frames := 4, cells := 0, slots := 0, locals := 86 }
theorem in4_X4_tellsLayer : ∀ w ∈ wsX40, w ∈ wsX4_tellsLayer := fun _ h => (List.mem_cons_of_mem _ (List.mem_append_right _ h))
set_option maxHeartbeats 4000000 in
set_option maxRecDepth 100000 in
theorem c_X4_tellsLayer (cy : Nat → ClassId) (a : Nat → Nat) (th : Int32) (sm : Nat) (ln : Nat) (pt : Nat) (sg : Nat) (fi : Int32) (se : Int32) (n : Nat) (o : Nat → Int32) (h : Nat → Int32) (t : Nat → Int32) (s : Nat → Int32) (g : Nat → Int32) (kn : Nat) (lo : Int32) (lf : Int32) (nm : Nat → Int32) (sv : Nat → Int32) (sl : Nat → Int32) (ik : Nat → Int32) (bf : Nat → Nat) (co : Nat → Int32) (go : Nat → Int32) (fo : Nat → Int32) (p : Nat) (x : Int32)  (hn : n ≤ 6) (hp : p < n) (ho : mBin o) : kIx yX4_tellsLayer wsX4_tellsLayer rm_X4_tellsLayer cy [.ref (a 0), .int (nI p), .int x] (wM a cy th sm ln pt sg fi se (mSt n o h t s g kn lo lf nm) sv sl ik bf co go fo) (sLy (mLit o) h t s g p x) (fun (u : (Nat → Int32) × (Nat → Int32)) => (wM a cy th sm ln pt sg fi se (mSt n o h t s g kn lo lf nm) sv sl ik bf u.1 u.2 fo)) (fun (u : (Nat → Int32) × (Nat → Int32)) => True) := by
  refine kIx_of (cc := cX4_tellsLayer) (maxL := 3) (rt := .int) (by decide) rfl (rfl) (Nat.le_of_ble_eq_true rfl) ?_
  intro X hR C E
  have C : kC X 3 RX4 cX4_tellsLayer wsX4_tellsLayer cy := C
  refine k_fr (fr2 := [(0, .ref (a 0)), (1, .int (nI p)), (2, .int x)]) ⟨[0, 1, 2], rfl⟩ ?_
  refine k_aload_n (q := 1) C 0 dX4_tellsLayer_0 rfl rfl ?_
  refine k_aload_n (q := 2) C 0 dX4_tellsLayer_1 rfl rfl ?_
  refine k_get (q := 5) (ci := 4) (v := .ref (a 1)) C 0 1 in4_X4_tellsLayer rfl (List.mem_of_getElem? (i := 1) rfl) rfl rfl (by decide) rfl dX4_tellsLayer_2 rfl ?_
  refine k_iconst (q := 6) (v := 1) C dX4_tellsLayer_5 (by decide) rfl ?_
  refine k_iald (q := 7) C 1 rfl (vp_in_nI (n := 1) (by decide) (by decide)) dX4_tellsLayer_6 rfl ?_
  refine k_st (st2 := (.int ((mSt n o h t s g kn lo lf nm) 1) :: _)) (congrArg (fun z => Value.int z :: _) (show (mSt n o h t s g kn lo lf nm) (1 : Int32).toNatClampNeg = (mSt n o h t s g kn lo lf nm) 1 from congrArg (mSt n o h t s g kn lo lf nm) (nI_clamp (n := 1) (by decide)))) ?_
  refine k_st (st2 := (.int (g 1) :: _)) (congrArg (fun z => Value.int z :: _) (show (mSt n o h t s g kn lo lf nm) 1 = g 1 from mSt_g (k := 1) (by decide))) ?_
  refine k_callVVx (n := 1) (q := 10) (pre := ([] : va_W)) (post := ([] : va_W)) (w2 := (fun u => (wM a cy th sm ln pt sg fi se (mSt n o h t s g kn lo lf nm) sv sl ik bf (u.1) (u.2) fo))) (As := [.int (g 1)]) (rest := []) C (c_X4_lay cy a th sm ln pt sg fi se n o h t s g kn lo lf nm sv sl ik bf co go fo (g 1) hn) gX4_tellsLayer_X4_lay rfl rfl rfl (by decide +kernel) (k_room hR (by decide)) ⟨Nat.zero_le _, Nat.zero_le _⟩ (ci := 4) rfl 0 rfl rfl rfl (Nat.le_of_ble_eq_true rfl) ((List.append_nil _).symm) (fun u => List.append_nil _) dX4_tellsLayer_7 rfl ?_
  rintro ⟨co_7, go_7⟩ h_7
  try dsimp only at h_7
  refine k_iload_n (q := 11) C 2 dX4_tellsLayer_10 rfl rfl ?_
  by_cases s_11_0 : x = 0
  · refine k_tabIn (q := 36) (off := 25) C dX4_tellsLayer_11 (by rw [s_11_0]; decide +kernel) (by rw [s_11_0]; decide +kernel) (by rw [s_11_0]; decide +kernel) (by decide) ?_
    refine k_aload_n (q := 37) C 0 dX4_tellsLayer_36 rfl rfl ?_
    refine k_get (q := 40) (ci := 4) (v := .ref (a 1)) C 0 1 in4_X4_tellsLayer rfl (List.mem_of_getElem? (i := 1) rfl) rfl rfl (by decide) rfl dX4_tellsLayer_37 rfl ?_
    refine k_bipush (q := 42) (v := 12) C dX4_tellsLayer_40 (by decide +kernel) rfl ?_
    refine k_iload_n (q := 43) C 1 dX4_tellsLayer_42 rfl rfl ?_
    refine k_iadd (q := 44) C dX4_tellsLayer_43 rfl ?_
    refine k_st (st2 := (.int (nI (12 + p)) :: _)) (congrArg (fun z => Value.int z :: _) (show 12 + (nI p) = nI (12 + p) from nI_add 12 p)) ?_
    refine k_iald (q := 45) C 1 rfl (vp_in_nI (n := 12 + p) (by omega) (by decide)) dX4_tellsLayer_44 rfl ?_
    refine k_st (st2 := (.int ((mSt n o h t s g kn lo lf nm) (12 + p)) :: _)) (congrArg (fun z => Value.int z :: _) (show (mSt n o h t s g kn lo lf nm) (nI (12 + p)).toNatClampNeg = (mSt n o h t s g kn lo lf nm) (12 + p) from congrArg (mSt n o h t s g kn lo lf nm) (nI_clamp (n := 12 + p) (by omega)))) ?_
    refine k_st (st2 := (.int (h p) :: _)) (congrArg (fun z => Value.int z :: _) (show (mSt n o h t s g kn lo lf nm) (12 + p) = h p from mSt_h (k := p) (by omega))) ?_
    exact k_finx E (co_7, go_7) dX4_tellsLayer_45 (by rw [sLy, if_pos s_11_0]) (rfl) (trivial)
  by_cases s_11_1 : x = 1
  · refine k_tabIn (q := 46) (off := 35) C dX4_tellsLayer_11 (by rw [s_11_1]; decide +kernel) (by rw [s_11_1]; decide +kernel) (by rw [s_11_1]; decide +kernel) (by decide) ?_
    refine k_aload_n (q := 47) C 0 dX4_tellsLayer_46 rfl rfl ?_
    refine k_get (q := 50) (ci := 4) (v := .ref (a 1)) C 0 1 in4_X4_tellsLayer rfl (List.mem_of_getElem? (i := 1) rfl) rfl rfl (by decide) rfl dX4_tellsLayer_47 rfl ?_
    refine k_bipush (q := 52) (v := 18) C dX4_tellsLayer_50 (by decide +kernel) rfl ?_
    refine k_iload_n (q := 53) C 1 dX4_tellsLayer_52 rfl rfl ?_
    refine k_iadd (q := 54) C dX4_tellsLayer_53 rfl ?_
    refine k_st (st2 := (.int (nI (18 + p)) :: _)) (congrArg (fun z => Value.int z :: _) (show 18 + (nI p) = nI (18 + p) from nI_add 18 p)) ?_
    refine k_iald (q := 55) C 1 rfl (vp_in_nI (n := 18 + p) (by omega) (by decide)) dX4_tellsLayer_54 rfl ?_
    refine k_st (st2 := (.int ((mSt n o h t s g kn lo lf nm) (18 + p)) :: _)) (congrArg (fun z => Value.int z :: _) (show (mSt n o h t s g kn lo lf nm) (nI (18 + p)).toNatClampNeg = (mSt n o h t s g kn lo lf nm) (18 + p) from congrArg (mSt n o h t s g kn lo lf nm) (nI_clamp (n := 18 + p) (by omega)))) ?_
    refine k_st (st2 := (.int (t p) :: _)) (congrArg (fun z => Value.int z :: _) (show (mSt n o h t s g kn lo lf nm) (18 + p) = t p from mSt_t (k := p) (by omega))) ?_
    exact k_finx E (co_7, go_7) dX4_tellsLayer_55 (by rw [sLy, if_neg s_11_0, if_pos s_11_1]) (rfl) (trivial)
  by_cases s_11_2 : x = 2
  · refine k_tabIn (q := 56) (off := 45) C dX4_tellsLayer_11 (by rw [s_11_2]; decide +kernel) (by rw [s_11_2]; decide +kernel) (by rw [s_11_2]; decide +kernel) (by decide) ?_
    refine k_aload_n (q := 57) C 0 dX4_tellsLayer_56 rfl rfl ?_
    refine k_iload_n (q := 58) C 1 dX4_tellsLayer_57 rfl rfl ?_
    refine k_callVI (n := 1) (q := 61) (pre := ([] : va_W)) (post := ([] : va_W)) (w2 := (wM a cy th sm ln pt sg fi se (mSt n o h t s g kn lo lf nm) sv sl ik bf co_7 go_7 fo)) (As := [.int (nI p)]) (rest := []) C (c_X4_isPair cy a th sm ln pt sg fi se n o h t s g kn lo lf nm sv sl ik bf co_7 go_7 fo p hp hn ho h_7) gX4_tellsLayer_X4_isPair rfl rfl rfl (by decide +kernel) (k_room hR (by decide)) ⟨Nat.zero_le _, Nat.zero_le _⟩ (ci := 4) rfl 0 rfl rfl rfl (Nat.le_of_ble_eq_true rfl) ((List.append_nil _).symm) (List.append_nil _) dX4_tellsLayer_58 rfl ?_
    refine k_ifB_eq (tgt := 72) (q := 64) C dX4_tellsLayer_61 (by decide) rfl ?_ ?_
    · intro c_61
      refine k_ldc (q := 74) (v := -99999) C (List.mem_of_getElem? (i := 2) rfl) dX4_tellsLayer_72 rfl ?_
      exact k_finx E (co_7, go_7) dX4_tellsLayer_74 (by rw [sLy, if_neg s_11_0, if_neg s_11_1, if_pos s_11_2]; first | rw [if_pos c_61] | rw [if_neg c_61]) (rfl) (trivial)
    · intro c_61
      refine k_aload_n (q := 65) C 0 dX4_tellsLayer_64 rfl rfl ?_
      refine k_iload_n (q := 66) C 1 dX4_tellsLayer_65 rfl rfl ?_
      refine k_callVI (n := 1) (q := 69) (pre := ([] : va_W)) (post := ([] : va_W)) (w2 := (wM a cy th sm ln pt sg fi se (mSt n o h t s g kn lo lf nm) sv sl ik bf co_7 go_7 fo)) (As := [.int (nI p)]) (rest := []) C (c_X4_distance cy a th sm ln pt sg fi se n o h t s g kn lo lf nm sv sl ik bf co_7 go_7 fo p (by omega)) gX4_tellsLayer_X4_distance rfl rfl rfl (by decide +kernel) (k_room hR (by decide)) ⟨Nat.zero_le _, Nat.zero_le _⟩ (ci := 4) rfl 0 rfl rfl rfl (Nat.le_of_ble_eq_true rfl) ((List.append_nil _).symm) (List.append_nil _) dX4_tellsLayer_66 rfl ?_
      refine k_goto (q := 74) C dX4_tellsLayer_69 (by decide) ?_
      exact k_finx E (co_7, go_7) dX4_tellsLayer_74 (by rw [sLy, if_neg s_11_0, if_neg s_11_1, if_pos s_11_2]; first | rw [if_pos c_61] | rw [if_neg c_61]) (rfl) (trivial)
  refine k_tabOut (q := 75) C dX4_tellsLayer_11 (by have t_0 := lv_neT (a := 0) s_11_0 (by decide +kernel); have t_1 := lv_neT (a := 1) s_11_1 (by decide +kernel); have t_2 := lv_neT (a := 2) s_11_2 (by decide +kernel); omega) (by decide) ?_
  refine k_aload_n (q := 76) C 0 dX4_tellsLayer_75 rfl rfl ?_
  refine k_iload_n (q := 77) C 1 dX4_tellsLayer_76 rfl rfl ?_
  refine k_callVI (n := 1) (q := 80) (pre := ([] : va_W)) (post := ([] : va_W)) (w2 := (wM a cy th sm ln pt sg fi se (mSt n o h t s g kn lo lf nm) sv sl ik bf co_7 go_7 fo)) (As := [.int (nI p)]) (rest := []) C (c_X4_isClose cy a th sm ln pt sg fi se n o h t s g kn lo lf nm sv sl ik bf co_7 go_7 fo p hp hn ho h_7) gX4_tellsLayer_X4_isClose rfl rfl rfl (by decide +kernel) (k_room hR (by decide)) ⟨Nat.zero_le _, Nat.zero_le _⟩ (ci := 4) rfl 0 rfl rfl rfl (Nat.le_of_ble_eq_true rfl) ((List.append_nil _).symm) (List.append_nil _) dX4_tellsLayer_77 rfl ?_
  refine k_ifB_eq (tgt := 87) (q := 83) C dX4_tellsLayer_80 (by decide) rfl ?_ ?_
  · intro c_80
    refine k_iconst (q := 88) (v := 0) C dX4_tellsLayer_87 (by decide) rfl ?_
    exact k_finx E (co_7, go_7) dX4_tellsLayer_88 (by rw [sLy, if_neg s_11_0, if_neg s_11_1, if_neg s_11_2]; first | exact bI_t c_80 | exact bI_f c_80) (rfl) (trivial)
  · intro c_80
    refine k_iconst (q := 84) (v := 1) C dX4_tellsLayer_83 (by decide) rfl ?_
    refine k_goto (q := 88) C dX4_tellsLayer_84 (by decide) ?_
    exact k_finx E (co_7, go_7) dX4_tellsLayer_88 (by rw [sLy, if_neg s_11_0, if_neg s_11_1, if_neg s_11_2]; first | exact bI_t c_80 | exact bI_f c_80) (rfl) (trivial)
abbrev rm_X4_layerOf : Room := { frames := 5, cells := 0, slots := 0, locals := 108 }
theorem in4_X4_layerOf : ∀ w ∈ wsX40, w ∈ wsX4_layerOf := fun _ h => (List.mem_cons_of_mem _ (List.mem_append_right _ h))
set_option maxHeartbeats 4000000 in
set_option maxRecDepth 100000 in
theorem c_X4_layerOf_e (cy : Nat → ClassId) (a : Nat → Nat) (th : Int32) (sm : Nat) (ln : Nat) (pt : Nat) (sg : Nat) (fi : Int32) (se : Int32) (n : Nat) (o : Nat → Int32) (h : Nat → Int32) (t : Nat → Int32) (s : Nat → Int32) (g : Nat → Int32) (kn : Nat) (lo : Int32) (lf : Int32) (nm : Nat → Int32) (sv : Nat → Int32) (sl : Nat → Int32) (ik : Nat → Int32) (bf : Nat → Nat) (co : Nat → Int32) (go : Nat → Int32) (fo : Nat → Int32) (x : Int32) (y : Int32)  (hn : n ≤ 6) (hx : ¬ (0 ≤ x ∧ x < nI n)) : kI yX4_layerOf wsX4_layerOf rm_X4_layerOf cy [.ref (a 0), .int x, .int y] (wM a cy th sm ln pt sg fi se (mSt n o h t s g kn lo lf nm) sv sl ik bf co go fo) 0 (wM a cy 1 sm ln pt sg fi se (mSt n o h t s g kn lo lf nm) sv sl ik bf co go fo) := by
  refine kI_of (cc := cX4_layerOf) (maxL := 3) (rt := .int) (by decide) rfl (rfl) (Nat.le_of_ble_eq_true rfl) ?_
  intro X hR C E
  have C : kC X 3 RX4 cX4_layerOf wsX4_layerOf cy := C
  refine k_fr (fr2 := [(0, .ref (a 0)), (1, .int x), (2, .int y)]) ⟨[0, 1, 2], rfl⟩ ?_
  refine k_aload_n (q := 1) C 0 dX4_layerOf_0 rfl rfl ?_
  refine k_iconst (q := 2) (v := 0) C dX4_layerOf_1 (by decide) rfl ?_
  refine k_put (q := 5) (ci := 4) (v := .int 0) (w2 := (wM a cy 0 sm ln pt sg fi se (mSt n o h t s g kn lo lf nm) sv sl ik bf co go fo)) C 0 0 in4_X4_layerOf rfl (List.mem_of_getElem? (i := 1) rfl) rfl tyX4 tyX4_ok nmX4 rfl (rfl) (rfl) rfl (by decide) (Nat.le_of_ble_eq_true rfl) (rfl) dX4_layerOf_2 rfl ?_
  refine k_aload_n (q := 6) C 0 dX4_layerOf_5 rfl rfl ?_
  refine k_iload_n (q := 7) C 1 dX4_layerOf_6 rfl rfl ?_
  refine k_callVI (n := 1) (q := 10) (pre := ([] : va_W)) (post := ([] : va_W)) (w2 := (wM a cy 0 sm ln pt sg fi se (mSt n o h t s g kn lo lf nm) sv sl ik bf co go fo)) (As := [.int x]) (rest := []) C (c_X4_isLayer cy a 0 sm ln pt sg fi se n o h t s g kn lo lf nm sv sl ik bf co go fo x (by omega)) gX4_layerOf_X4_isLayer rfl rfl rfl (by decide +kernel) (k_room hR (by decide)) ⟨Nat.zero_le _, Nat.zero_le _⟩ (ci := 4) rfl 0 rfl rfl rfl (Nat.le_of_ble_eq_true rfl) ((List.append_nil _).symm) (List.append_nil _) dX4_layerOf_7 rfl ?_
  refine k_ifB_ne (tgt := 19) (q := 13) C dX4_layerOf_10 (by decide) rfl ?_ ?_
  · exact fun c_10 => absurd c_10 hx
  · intro c_10
    refine k_aload_n (q := 14) C 0 dX4_layerOf_13 rfl rfl ?_
    refine k_iconst (q := 15) (v := 1) C dX4_layerOf_14 (by decide) rfl ?_
    refine k_callVI (n := 1) (q := 18) (pre := ([] : va_W)) (post := ([] : va_W)) (w2 := (wM a cy 1 sm ln pt sg fi se (mSt n o h t s g kn lo lf nm) sv sl ik bf co go fo)) (As := [.int 1]) (rest := []) C (c_X4_fails cy a 0 sm ln pt sg fi se n o h t s g kn lo lf nm sv sl ik bf co go fo 1) gX4_layerOf_X4_fails rfl rfl rfl (by decide +kernel) (k_room hR (by decide)) ⟨Nat.zero_le _, Nat.zero_le _⟩ (ci := 4) rfl 0 rfl rfl rfl (Nat.le_of_ble_eq_true rfl) ((List.append_nil _).symm) (List.append_nil _) dX4_layerOf_15 rfl ?_
    exact k_fin E dX4_layerOf_18 (rfl) (rfl)
set_option maxHeartbeats 4000000 in
set_option maxRecDepth 100000 in
theorem c_X4_layerOf_e2 (cy : Nat → ClassId) (a : Nat → Nat) (th : Int32) (sm : Nat) (ln : Nat) (pt : Nat) (sg : Nat) (fi : Int32) (se : Int32) (n : Nat) (o : Nat → Int32) (h : Nat → Int32) (t : Nat → Int32) (s : Nat → Int32) (g : Nat → Int32) (kn : Nat) (lo : Int32) (lf : Int32) (nm : Nat → Int32) (sv : Nat → Int32) (sl : Nat → Int32) (ik : Nat → Int32) (bf : Nat → Nat) (co : Nat → Int32) (go : Nat → Int32) (fo : Nat → Int32) (p : Nat) (y : Int32)  (hn : n ≤ 6) (hp : p < n) (hy : ¬ (0 ≤ y ∧ y ≤ 3)) : kI yX4_layerOf wsX4_layerOf rm_X4_layerOf cy [.ref (a 0), .int (nI p), .int y] (wM a cy th sm ln pt sg fi se (mSt n o h t s g kn lo lf nm) sv sl ik bf co go fo) 0 (wM a cy 2 sm ln pt sg fi se (mSt n o h t s g kn lo lf nm) sv sl ik bf co go fo) := by
  refine kI_of (cc := cX4_layerOf) (maxL := 3) (rt := .int) (by decide) rfl (rfl) (Nat.le_of_ble_eq_true rfl) ?_
  intro X hR C E
  have C : kC X 3 RX4 cX4_layerOf wsX4_layerOf cy := C
  refine k_fr (fr2 := [(0, .ref (a 0)), (1, .int (nI p)), (2, .int y)]) ⟨[0, 1, 2], rfl⟩ ?_
  refine k_aload_n (q := 1) C 0 dX4_layerOf_0 rfl rfl ?_
  refine k_iconst (q := 2) (v := 0) C dX4_layerOf_1 (by decide) rfl ?_
  refine k_put (q := 5) (ci := 4) (v := .int 0) (w2 := (wM a cy 0 sm ln pt sg fi se (mSt n o h t s g kn lo lf nm) sv sl ik bf co go fo)) C 0 0 in4_X4_layerOf rfl (List.mem_of_getElem? (i := 1) rfl) rfl tyX4 tyX4_ok nmX4 rfl (rfl) (rfl) rfl (by decide) (Nat.le_of_ble_eq_true rfl) (rfl) dX4_layerOf_2 rfl ?_
  refine k_aload_n (q := 6) C 0 dX4_layerOf_5 rfl rfl ?_
  refine k_iload_n (q := 7) C 1 dX4_layerOf_6 rfl rfl ?_
  refine k_callVI (n := 1) (q := 10) (pre := ([] : va_W)) (post := ([] : va_W)) (w2 := (wM a cy 0 sm ln pt sg fi se (mSt n o h t s g kn lo lf nm) sv sl ik bf co go fo)) (As := [.int (nI p)]) (rest := []) C (c_X4_isLayer cy a 0 sm ln pt sg fi se n o h t s g kn lo lf nm sv sl ik bf co go fo (nI p) (by omega)) gX4_layerOf_X4_isLayer rfl rfl rfl (by decide +kernel) (k_room hR (by decide)) ⟨Nat.zero_le _, Nat.zero_le _⟩ (ci := 4) rfl 0 rfl rfl rfl (Nat.le_of_ble_eq_true rfl) ((List.append_nil _).symm) (List.append_nil _) dX4_layerOf_7 rfl ?_
  refine k_ifB_ne (tgt := 19) (q := 13) C dX4_layerOf_10 (by decide) rfl ?_ ?_
  · intro c_10
    refine k_iload_n (q := 20) C 2 dX4_layerOf_19 rfl rfl ?_
    refine k_iconst (q := 21) (v := 0) C dX4_layerOf_20 (by decide) rfl ?_
    refine k_iconst (q := 22) (v := 3) C dX4_layerOf_21 (by decide) rfl ?_
    refine k_callSI (n := 3) (q := 25) (pre := ([] : va_W)) (post := (wM a cy 0 sm ln pt sg fi se (mSt n o h t s g kn lo lf nm) sv sl ik bf co go fo)) (w2 := (wM a cy 0 sm ln pt sg fi se (mSt n o h t s g kn lo lf nm) sv sl ik bf co go fo)) (As := [.int y, .int 0, .int 3]) (rest := []) C (c_X4_within y 0 3) gX4_layerOf_X4_within rfl rfl rfl (by decide +kernel) (k_room hR (by decide)) ⟨Nat.zero_le _, Nat.zero_le _⟩  rfl rfl (Nat.le_of_ble_eq_true rfl) (rfl) (rfl) dX4_layerOf_22 rfl ?_
    refine k_ifB_eq (tgt := 37) (q := 28) C dX4_layerOf_25 (by decide) rfl ?_ ?_
    · intro c_25
      refine k_aload_n (q := 38) C 0 dX4_layerOf_37 rfl rfl ?_
      refine k_iconst (q := 39) (v := 2) C dX4_layerOf_38 (by decide) rfl ?_
      refine k_callVI (n := 1) (q := 42) (pre := ([] : va_W)) (post := ([] : va_W)) (w2 := (wM a cy 2 sm ln pt sg fi se (mSt n o h t s g kn lo lf nm) sv sl ik bf co go fo)) (As := [.int 2]) (rest := []) C (c_X4_fails cy a 0 sm ln pt sg fi se n o h t s g kn lo lf nm sv sl ik bf co go fo 2) gX4_layerOf_X4_fails rfl rfl rfl (by decide +kernel) (k_room hR (by decide)) ⟨Nat.zero_le _, Nat.zero_le _⟩ (ci := 4) rfl 0 rfl rfl rfl (Nat.le_of_ble_eq_true rfl) ((List.append_nil _).symm) (List.append_nil _) dX4_layerOf_39 rfl ?_
      exact k_fin E dX4_layerOf_42 (rfl) (rfl)
    · exact fun c_25 => absurd c_25 hy
  · exact fun c_10 => absurd ⟨nI_pos' (by omega), nI_lt (by omega) (by omega)⟩ c_10
set_option maxHeartbeats 4000000 in
set_option maxRecDepth 100000 in
theorem c_X4_layerOf (cy : Nat → ClassId) (a : Nat → Nat) (th : Int32) (sm : Nat) (ln : Nat) (pt : Nat) (sg : Nat) (fi : Int32) (se : Int32) (n : Nat) (o : Nat → Int32) (h : Nat → Int32) (t : Nat → Int32) (s : Nat → Int32) (g : Nat → Int32) (kn : Nat) (lo : Int32) (lf : Int32) (nm : Nat → Int32) (sv : Nat → Int32) (sl : Nat → Int32) (ik : Nat → Int32) (bf : Nat → Nat) (co : Nat → Int32) (go : Nat → Int32) (fo : Nat → Int32) (p : Nat) (y : Int32)  (hn : n ≤ 6) (hp : p < n) (hy : 0 ≤ y ∧ y ≤ 3) (ho : mBin o) : kIx yX4_layerOf wsX4_layerOf rm_X4_layerOf cy [.ref (a 0), .int (nI p), .int y] (wM a cy th sm ln pt sg fi se (mSt n o h t s g kn lo lf nm) sv sl ik bf co go fo) (sLy (mLit o) h t s g p y) (fun (u : (Nat → Int32) × (Nat → Int32)) => (wM a cy 0 sm ln pt sg fi se (mSt n o h t s g kn lo lf nm) sv sl ik bf u.1 u.2 fo)) (fun (u : (Nat → Int32) × (Nat → Int32)) => True) := by
  refine kIx_of (cc := cX4_layerOf) (maxL := 3) (rt := .int) (by decide) rfl (rfl) (Nat.le_of_ble_eq_true rfl) ?_
  intro X hR C E
  have C : kC X 3 RX4 cX4_layerOf wsX4_layerOf cy := C
  refine k_fr (fr2 := [(0, .ref (a 0)), (1, .int (nI p)), (2, .int y)]) ⟨[0, 1, 2], rfl⟩ ?_
  refine k_aload_n (q := 1) C 0 dX4_layerOf_0 rfl rfl ?_
  refine k_iconst (q := 2) (v := 0) C dX4_layerOf_1 (by decide) rfl ?_
  refine k_put (q := 5) (ci := 4) (v := .int 0) (w2 := (wM a cy 0 sm ln pt sg fi se (mSt n o h t s g kn lo lf nm) sv sl ik bf co go fo)) C 0 0 in4_X4_layerOf rfl (List.mem_of_getElem? (i := 1) rfl) rfl tyX4 tyX4_ok nmX4 rfl (rfl) (rfl) rfl (by decide) (Nat.le_of_ble_eq_true rfl) (rfl) dX4_layerOf_2 rfl ?_
  refine k_aload_n (q := 6) C 0 dX4_layerOf_5 rfl rfl ?_
  refine k_iload_n (q := 7) C 1 dX4_layerOf_6 rfl rfl ?_
  refine k_callVI (n := 1) (q := 10) (pre := ([] : va_W)) (post := ([] : va_W)) (w2 := (wM a cy 0 sm ln pt sg fi se (mSt n o h t s g kn lo lf nm) sv sl ik bf co go fo)) (As := [.int (nI p)]) (rest := []) C (c_X4_isLayer cy a 0 sm ln pt sg fi se n o h t s g kn lo lf nm sv sl ik bf co go fo (nI p) (by omega)) gX4_layerOf_X4_isLayer rfl rfl rfl (by decide +kernel) (k_room hR (by decide)) ⟨Nat.zero_le _, Nat.zero_le _⟩ (ci := 4) rfl 0 rfl rfl rfl (Nat.le_of_ble_eq_true rfl) ((List.append_nil _).symm) (List.append_nil _) dX4_layerOf_7 rfl ?_
  refine k_ifB_ne (tgt := 19) (q := 13) C dX4_layerOf_10 (by decide) rfl ?_ ?_
  · intro c_10
    refine k_iload_n (q := 20) C 2 dX4_layerOf_19 rfl rfl ?_
    refine k_iconst (q := 21) (v := 0) C dX4_layerOf_20 (by decide) rfl ?_
    refine k_iconst (q := 22) (v := 3) C dX4_layerOf_21 (by decide) rfl ?_
    refine k_callSI (n := 3) (q := 25) (pre := ([] : va_W)) (post := (wM a cy 0 sm ln pt sg fi se (mSt n o h t s g kn lo lf nm) sv sl ik bf co go fo)) (w2 := (wM a cy 0 sm ln pt sg fi se (mSt n o h t s g kn lo lf nm) sv sl ik bf co go fo)) (As := [.int y, .int 0, .int 3]) (rest := []) C (c_X4_within y 0 3) gX4_layerOf_X4_within rfl rfl rfl (by decide +kernel) (k_room hR (by decide)) ⟨Nat.zero_le _, Nat.zero_le _⟩  rfl rfl (Nat.le_of_ble_eq_true rfl) (rfl) (rfl) dX4_layerOf_22 rfl ?_
    refine k_ifB_eq (tgt := 37) (q := 28) C dX4_layerOf_25 (by decide) rfl ?_ ?_
    · exact fun c_25 => absurd hy c_25
    · intro c_25
      refine k_aload_n (q := 29) C 0 dX4_layerOf_28 rfl rfl ?_
      refine k_iload_n (q := 30) C 1 dX4_layerOf_29 rfl rfl ?_
      refine k_iload_n (q := 31) C 2 dX4_layerOf_30 rfl rfl ?_
      refine k_callVIx (n := 2) (q := 34) (pre := ([] : va_W)) (post := ([] : va_W)) (w2 := (fun u => (wM a cy 0 sm ln pt sg fi se (mSt n o h t s g kn lo lf nm) sv sl ik bf (u.1) (u.2) fo))) (As := [.int (nI p), .int y]) (rest := []) C (c_X4_tellsLayer cy a 0 sm ln pt sg fi se n o h t s g kn lo lf nm sv sl ik bf co go fo p y hn hp ho) gX4_layerOf_X4_tellsLayer rfl rfl rfl (by decide +kernel) (k_room hR (by decide)) ⟨Nat.zero_le _, Nat.zero_le _⟩ (ci := 4) rfl 0 rfl rfl rfl (Nat.le_of_ble_eq_true rfl) ((List.append_nil _).symm) (fun u => List.append_nil _) dX4_layerOf_31 rfl ?_
      rintro ⟨co_31, go_31⟩ h_31
      try dsimp only at h_31
      refine k_goto (q := 42) C dX4_layerOf_34 (by decide) ?_
      exact k_finx E (co_31, go_31) dX4_layerOf_42 (rfl) (rfl) (trivial)
  · exact fun c_10 => absurd ⟨nI_pos' (by omega), nI_lt (by omega) (by omega)⟩ c_10
abbrev rm_X4_tellsSpot : Room := { frames := 2, cells := 0, slots := 0, locals := 44 }
theorem in4_X4_tellsSpot : ∀ w ∈ wsX40, w ∈ wsX4_tellsSpot := fun _ h => (List.mem_cons_of_mem _ (List.mem_append_right _ h))
set_option maxHeartbeats 4000000 in
set_option maxRecDepth 100000 in
theorem c_X4_tellsSpot (cy : Nat → ClassId) (a : Nat → Nat) (th : Int32) (sm : Nat) (ln : Nat) (pt : Nat) (sg : Nat) (fi : Int32) (se : Int32) (n : Nat) (o : Nat → Int32) (h : Nat → Int32) (t : Nat → Int32) (s : Nat → Int32) (g : Nat → Int32) (kn : Nat) (lo : Int32) (lf : Int32) (nm : Nat → Int32) (sv : Nat → Int32) (sl : Nat → Int32) (ik : Nat → Int32) (bf : Nat → Nat) (co : Nat → Int32) (go : Nat → Int32) (fo : Nat → Int32) (j : Nat) (p : Nat) (x : Int32)  (hn : n ≤ 6) (hj : j < 2) (hp : p < n) (ho : mBin o) : kIx yX4_tellsSpot wsX4_tellsSpot rm_X4_tellsSpot cy [.ref (a 0), .int (nI j), .int (nI p), .int x] (wM a cy th sm ln pt sg fi se (mSt n o h t s g kn lo lf nm) sv sl ik bf co go fo) (mSp o h t s g j p x) (fun (u : (Nat → Int32) × (Nat → Int32)) => (wM a cy th sm ln pt sg fi se (mSt n o h t s g kn lo lf nm) sv sl ik bf u.1 u.2 fo)) (fun (u : (Nat → Int32) × (Nat → Int32)) => True) := by
  refine kIx_of (cc := cX4_tellsSpot) (maxL := 4) (rt := .int) (by decide) rfl (rfl) (Nat.le_of_ble_eq_true rfl) ?_
  intro X hR C E
  have C : kC X 4 RX4 cX4_tellsSpot wsX4_tellsSpot cy := C
  refine k_fr (fr2 := [(0, .ref (a 0)), (1, .int (nI j)), (2, .int (nI p)), (3, .int x)]) ⟨[0, 1, 2, 3], rfl⟩ ?_
  refine k_aload_n (q := 1) C 0 dX4_tellsSpot_0 rfl rfl ?_
  refine k_get (q := 4) (ci := 4) (v := .ref (a 1)) C 0 1 in4_X4_tellsSpot rfl (List.mem_of_getElem? (i := 1) rfl) rfl rfl (by decide) rfl dX4_tellsSpot_1 rfl ?_
  refine k_bipush (q := 6) (v := 6) C dX4_tellsSpot_4 (by decide +kernel) rfl ?_
  refine k_iload_n (q := 7) C 1 dX4_tellsSpot_6 rfl rfl ?_
  refine k_iadd (q := 8) C dX4_tellsSpot_7 rfl ?_
  refine k_st (st2 := (.int (nI (6 + j)) :: _)) (congrArg (fun z => Value.int z :: _) (show 6 + (nI j) = nI (6 + j) from nI_add 6 j)) ?_
  refine k_iald (q := 9) C 1 rfl (vp_in_nI (n := 6 + j) (by omega) (by decide)) dX4_tellsSpot_8 rfl ?_
  refine k_st (st2 := (.int ((mSt n o h t s g kn lo lf nm) (6 + j)) :: _)) (congrArg (fun z => Value.int z :: _) (show (mSt n o h t s g kn lo lf nm) (nI (6 + j)).toNatClampNeg = (mSt n o h t s g kn lo lf nm) (6 + j) from congrArg (mSt n o h t s g kn lo lf nm) (nI_clamp (n := 6 + j) (by omega)))) ?_
  refine k_st (st2 := (.int (o j) :: _)) (congrArg (fun z => Value.int z :: _) (show (mSt n o h t s g kn lo lf nm) (6 + j) = o j from mSt_o (k := j) (by omega))) ?_
  refine k_if_ne (tgt := 15) (q := 12) C dX4_tellsSpot_9 (by decide) rfl ?_ ?_
  · intro c_9
    refine k_aload_n (q := 16) C 0 dX4_tellsSpot_15 rfl rfl ?_
    refine k_aload_n (q := 17) C 0 dX4_tellsSpot_16 rfl rfl ?_
    refine k_get (q := 20) (ci := 4) (v := .ref (a 1)) C 0 1 in4_X4_tellsSpot rfl (List.mem_of_getElem? (i := 1) rfl) rfl rfl (by decide) rfl dX4_tellsSpot_17 rfl ?_
    refine k_iconst (q := 21) (v := 1) C dX4_tellsSpot_20 (by decide) rfl ?_
    refine k_iald (q := 22) C 1 rfl (vp_in_nI (n := 1) (by decide) (by decide)) dX4_tellsSpot_21 rfl ?_
    refine k_st (st2 := (.int ((mSt n o h t s g kn lo lf nm) 1) :: _)) (congrArg (fun z => Value.int z :: _) (show (mSt n o h t s g kn lo lf nm) (1 : Int32).toNatClampNeg = (mSt n o h t s g kn lo lf nm) 1 from congrArg (mSt n o h t s g kn lo lf nm) (nI_clamp (n := 1) (by decide)))) ?_
    refine k_st (st2 := (.int (g 1) :: _)) (congrArg (fun z => Value.int z :: _) (show (mSt n o h t s g kn lo lf nm) 1 = g 1 from mSt_g (k := 1) (by decide))) ?_
    refine k_callVVx (n := 1) (q := 25) (pre := ([] : va_W)) (post := ([] : va_W)) (w2 := (fun u => (wM a cy th sm ln pt sg fi se (mSt n o h t s g kn lo lf nm) sv sl ik bf (u.1) (u.2) fo))) (As := [.int (g 1)]) (rest := []) C (c_X4_lay cy a th sm ln pt sg fi se n o h t s g kn lo lf nm sv sl ik bf co go fo (g 1) hn) gX4_tellsSpot_X4_lay rfl rfl rfl (by decide +kernel) (k_room hR (by decide)) ⟨Nat.zero_le _, Nat.zero_le _⟩ (ci := 4) rfl 0 rfl rfl rfl (Nat.le_of_ble_eq_true rfl) ((List.append_nil _).symm) (fun u => List.append_nil _) dX4_tellsSpot_22 rfl ?_
    rintro ⟨co_22, go_22⟩ h_22
    try dsimp only at h_22
    refine k_iload_n (q := 26) C 3 dX4_tellsSpot_25 rfl rfl ?_
    by_cases s_26_0 : x = 0
    · refine k_tabIn (q := 56) (off := 30) C dX4_tellsSpot_26 (by rw [s_26_0]; decide +kernel) (by rw [s_26_0]; decide +kernel) (by rw [s_26_0]; decide +kernel) (by decide) ?_
      refine k_aload_n (q := 57) C 0 dX4_tellsSpot_56 rfl rfl ?_
      refine k_iload_n (q := 58) C 1 dX4_tellsSpot_57 rfl rfl ?_
      refine k_iload_n (q := 59) C 2 dX4_tellsSpot_58 rfl rfl ?_
      refine k_callVI (n := 2) (q := 62) (pre := ([] : va_W)) (post := ([] : va_W)) (w2 := (wM a cy th sm ln pt sg fi se (mSt n o h t s g kn lo lf nm) sv sl ik bf co_22 go_22 fo)) (As := [.int (nI j), .int (nI p)]) (rest := []) C (c_X4_place cy a th sm ln pt sg fi se n o h t s g kn lo lf nm sv sl ik bf co_22 go_22 fo j p (by omega) (by omega)) gX4_tellsSpot_X4_place rfl rfl rfl (by decide +kernel) (k_room hR (by decide)) ⟨Nat.zero_le _, Nat.zero_le _⟩ (ci := 4) rfl 0 rfl rfl rfl (Nat.le_of_ble_eq_true rfl) ((List.append_nil _).symm) (List.append_nil _) dX4_tellsSpot_59 rfl ?_
      exact k_finx E (co_22, go_22) dX4_tellsSpot_62 (by rw [mSp, if_neg c_9, sSpot, if_pos s_26_0]) (rfl) (trivial)
    by_cases s_26_1 : x = 1
    · refine k_tabIn (q := 63) (off := 37) C dX4_tellsSpot_26 (by rw [s_26_1]; decide +kernel) (by rw [s_26_1]; decide +kernel) (by rw [s_26_1]; decide +kernel) (by decide) ?_
      refine k_aload_n (q := 64) C 0 dX4_tellsSpot_63 rfl rfl ?_
      refine k_iload_n (q := 65) C 1 dX4_tellsSpot_64 rfl rfl ?_
      refine k_iload_n (q := 66) C 2 dX4_tellsSpot_65 rfl rfl ?_
      refine k_callVI (n := 2) (q := 69) (pre := ([] : va_W)) (post := ([] : va_W)) (w2 := (wM a cy th sm ln pt sg fi se (mSt n o h t s g kn lo lf nm) sv sl ik bf co_22 go_22 fo)) (As := [.int (nI j), .int (nI p)]) (rest := []) C (c_X4_brightness cy a th sm ln pt sg fi se n o h t s g kn lo lf nm sv sl ik bf co_22 go_22 fo j p hj (by omega)) gX4_tellsSpot_X4_brightness rfl rfl rfl (by decide +kernel) (k_room hR (by decide)) ⟨Nat.zero_le _, Nat.zero_le _⟩ (ci := 4) rfl 0 rfl rfl rfl (Nat.le_of_ble_eq_true rfl) ((List.append_nil _).symm) (List.append_nil _) dX4_tellsSpot_66 rfl ?_
      refine k_st (st2 := (.int (sBr h t (g 1) p) :: _)) (congrArg (fun z => Value.int z :: _) (show co_22 (6 * j + p) - go_22 (6 * j + p) = sBr h t (g 1) p from by rw [(h_22 j p hj hp).1, (h_22 j p hj hp).2, sGo_s, i32_sub_sub])) ?_
      exact k_finx E (co_22, go_22) dX4_tellsSpot_69 (by rw [mSp, if_neg c_9, sSpot, if_neg s_26_0, if_pos s_26_1]) (rfl) (trivial)
    by_cases s_26_2 : x = 2
    · refine k_tabIn (q := 70) (off := 44) C dX4_tellsSpot_26 (by rw [s_26_2]; decide +kernel) (by rw [s_26_2]; decide +kernel) (by rw [s_26_2]; decide +kernel) (by decide) ?_
      refine k_aload_n (q := 71) C 0 dX4_tellsSpot_70 rfl rfl ?_
      refine k_iload_n (q := 72) C 1 dX4_tellsSpot_71 rfl rfl ?_
      refine k_iload_n (q := 73) C 2 dX4_tellsSpot_72 rfl rfl ?_
      refine k_callVI (n := 2) (q := 76) (pre := ([] : va_W)) (post := ([] : va_W)) (w2 := (wM a cy th sm ln pt sg fi se (mSt n o h t s g kn lo lf nm) sv sl ik bf co_22 go_22 fo)) (As := [.int (nI j), .int (nI p)]) (rest := []) C (c_X4_isSeen cy a th sm ln pt sg fi se n o h t s g kn lo lf nm sv sl ik bf co_22 go_22 fo j p (g 1) hj hp hn h_22) gX4_tellsSpot_X4_isSeen rfl rfl rfl (by decide +kernel) (k_room hR (by decide)) ⟨Nat.zero_le _, Nat.zero_le _⟩ (ci := 4) rfl 0 rfl rfl rfl (Nat.le_of_ble_eq_true rfl) ((List.append_nil _).symm) (List.append_nil _) dX4_tellsSpot_73 rfl ?_
      refine k_ifB_eq (tgt := 83) (q := 79) C dX4_tellsSpot_76 (by decide) rfl ?_ ?_
      · intro c_76
        refine k_iconst (q := 84) (v := 0) C dX4_tellsSpot_83 (by decide) rfl ?_
        exact k_finx E (co_22, go_22) dX4_tellsSpot_84 (by rw [mSp, if_neg c_9, sSpot, if_neg s_26_0, if_neg s_26_1, if_pos s_26_2]; first | exact bI_t c_76.2 | exact bI_f (fun q => c_76 ⟨mOn ho hj c_9, q⟩)) (rfl) (trivial)
      · intro c_76
        refine k_iconst (q := 80) (v := 1) C dX4_tellsSpot_79 (by decide) rfl ?_
        refine k_goto (q := 84) C dX4_tellsSpot_80 (by decide) ?_
        exact k_finx E (co_22, go_22) dX4_tellsSpot_84 (by rw [mSp, if_neg c_9, sSpot, if_neg s_26_0, if_neg s_26_1, if_pos s_26_2]; first | exact bI_t c_76.2 | exact bI_f (fun q => c_76 ⟨mOn ho hj c_9, q⟩)) (rfl) (trivial)
    by_cases s_26_3 : x = 3
    · refine k_tabIn (q := 85) (off := 59) C dX4_tellsSpot_26 (by rw [s_26_3]; decide +kernel) (by rw [s_26_3]; decide +kernel) (by rw [s_26_3]; decide +kernel) (by decide) ?_
      refine k_aload_n (q := 86) C 0 dX4_tellsSpot_85 rfl rfl ?_
      refine k_get (q := 89) (ci := 4) (v := .ref (a 6)) C 0 12 in4_X4_tellsSpot rfl (List.mem_of_getElem? (i := 3) rfl) rfl rfl (by decide) rfl dX4_tellsSpot_86 rfl ?_
      refine k_bipush (q := 91) (v := 6) C dX4_tellsSpot_89 (by decide +kernel) rfl ?_
      refine k_iload_n (q := 92) C 1 dX4_tellsSpot_91 rfl rfl ?_
      refine k_imul (q := 93) C dX4_tellsSpot_92 rfl ?_
      refine k_st (st2 := (.int (nI (6 * j)) :: _)) (congrArg (fun z => Value.int z :: _) (show 6 * (nI j) = nI (6 * j) from pk_mul 6 j)) ?_
      refine k_iload_n (q := 94) C 2 dX4_tellsSpot_93 rfl rfl ?_
      refine k_iadd (q := 95) C dX4_tellsSpot_94 rfl ?_
      refine k_st (st2 := (.int (nI (6 * j + p)) :: _)) (congrArg (fun z => Value.int z :: _) (show (nI (6 * j)) + (nI p) = nI (6 * j + p) from nI_add (6 * j) p)) ?_
      refine k_iald (q := 96) C 6 rfl (vp_in_nI (n := 6 * j + p) (by omega) (by decide)) dX4_tellsSpot_95 rfl ?_
      refine k_st (st2 := (.int (co_22 (6 * j + p)) :: _)) (congrArg (fun z => Value.int z :: _) (show co_22 (nI (6 * j + p)).toNatClampNeg = co_22 (6 * j + p) from congrArg co_22 (nI_clamp (n := 6 * j + p) (by omega)))) ?_
      exact k_finx E (co_22, go_22) dX4_tellsSpot_96 (by rw [mSp, if_neg c_9, sSpot, if_neg s_26_0, if_neg s_26_1, if_neg s_26_2, if_pos s_26_3]; exact (h_22 j p hj hp).1) (rfl) (trivial)
    refine k_tabOut (q := 97) C dX4_tellsSpot_26 (by have t_0 := lv_neT (a := 0) s_26_0 (by decide +kernel); have t_1 := lv_neT (a := 1) s_26_1 (by decide +kernel); have t_2 := lv_neT (a := 2) s_26_2 (by decide +kernel); have t_3 := lv_neT (a := 3) s_26_3 (by decide +kernel); omega) (by decide) ?_
    refine k_aload_n (q := 98) C 0 dX4_tellsSpot_97 rfl rfl ?_
    refine k_get (q := 101) (ci := 4) (v := .ref (a 7)) C 0 13 in4_X4_tellsSpot rfl (List.mem_of_getElem? (i := 4) rfl) rfl rfl (by decide) rfl dX4_tellsSpot_98 rfl ?_
    refine k_bipush (q := 103) (v := 6) C dX4_tellsSpot_101 (by decide +kernel) rfl ?_
    refine k_iload_n (q := 104) C 1 dX4_tellsSpot_103 rfl rfl ?_
    refine k_imul (q := 105) C dX4_tellsSpot_104 rfl ?_
    refine k_st (st2 := (.int (nI (6 * j)) :: _)) (congrArg (fun z => Value.int z :: _) (show 6 * (nI j) = nI (6 * j) from pk_mul 6 j)) ?_
    refine k_iload_n (q := 106) C 2 dX4_tellsSpot_105 rfl rfl ?_
    refine k_iadd (q := 107) C dX4_tellsSpot_106 rfl ?_
    refine k_st (st2 := (.int (nI (6 * j + p)) :: _)) (congrArg (fun z => Value.int z :: _) (show (nI (6 * j)) + (nI p) = nI (6 * j + p) from nI_add (6 * j) p)) ?_
    refine k_iald (q := 108) C 7 rfl (vp_in_nI (n := 6 * j + p) (by omega) (by decide)) dX4_tellsSpot_107 rfl ?_
    refine k_st (st2 := (.int (go_22 (6 * j + p)) :: _)) (congrArg (fun z => Value.int z :: _) (show go_22 (nI (6 * j + p)).toNatClampNeg = go_22 (6 * j + p) from congrArg go_22 (nI_clamp (n := 6 * j + p) (by omega)))) ?_
    exact k_finx E (co_22, go_22) dX4_tellsSpot_108 (by rw [mSp, if_neg c_9, sSpot, if_neg s_26_0, if_neg s_26_1, if_neg s_26_2, if_neg s_26_3]; exact (h_22 j p hj hp).2) (rfl) (trivial)
  · intro c_9
    refine k_ldc (q := 14) (v := -99999) C (List.mem_of_getElem? (i := 2) rfl) dX4_tellsSpot_12 rfl ?_
    exact k_finx E (co, go) dX4_tellsSpot_14 ((if_pos c_9).symm) (rfl) (trivial)
abbrev rm_X4_spot : Room := { frames := 3, cells := 0, slots := 0, locals := 67 }
theorem in4_X4_spot : ∀ w ∈ wsX40, w ∈ wsX4_spot := fun _ h => (List.mem_cons_of_mem _ (List.mem_append_right _ h))
set_option maxHeartbeats 4000000 in
set_option maxRecDepth 100000 in
theorem c_X4_spot_e (cy : Nat → ClassId) (a : Nat → Nat) (th : Int32) (sm : Nat) (ln : Nat) (pt : Nat) (sg : Nat) (fi : Int32) (se : Int32) (n : Nat) (o : Nat → Int32) (h : Nat → Int32) (t : Nat → Int32) (s : Nat → Int32) (g : Nat → Int32) (kn : Nat) (lo : Int32) (lf : Int32) (nm : Nat → Int32) (sv : Nat → Int32) (sl : Nat → Int32) (ik : Nat → Int32) (bf : Nat → Nat) (co : Nat → Int32) (go : Nat → Int32) (fo : Nat → Int32) (x : Int32) (y : Int32) (z : Int32)  (hn : n ≤ 6) (hx : ¬ ((0 ≤ x ∧ x ≤ 1) ∧ (0 ≤ y ∧ y < nI n))) : kI yX4_spot wsX4_spot rm_X4_spot cy [.ref (a 0), .int x, .int y, .int z] (wM a cy th sm ln pt sg fi se (mSt n o h t s g kn lo lf nm) sv sl ik bf co go fo) 0 (wM a cy 1 sm ln pt sg fi se (mSt n o h t s g kn lo lf nm) sv sl ik bf co go fo) := by
  refine kI_of (cc := cX4_spot) (maxL := 4) (rt := .int) (by decide) rfl (rfl) (Nat.le_of_ble_eq_true rfl) ?_
  intro X hR C E
  have C : kC X 4 RX4 cX4_spot wsX4_spot cy := C
  refine k_fr (fr2 := [(0, .ref (a 0)), (1, .int x), (2, .int y), (3, .int z)]) ⟨[0, 1, 2, 3], rfl⟩ ?_
  refine k_aload_n (q := 1) C 0 dX4_spot_0 rfl rfl ?_
  refine k_iconst (q := 2) (v := 0) C dX4_spot_1 (by decide) rfl ?_
  refine k_put (q := 5) (ci := 4) (v := .int 0) (w2 := (wM a cy 0 sm ln pt sg fi se (mSt n o h t s g kn lo lf nm) sv sl ik bf co go fo)) C 0 0 in4_X4_spot rfl (List.mem_of_getElem? (i := 1) rfl) rfl tyX4 tyX4_ok nmX4 rfl (rfl) (rfl) rfl (by decide) (Nat.le_of_ble_eq_true rfl) (rfl) dX4_spot_2 rfl ?_
  refine k_iload_n (q := 6) C 1 dX4_spot_5 rfl rfl ?_
  refine k_callSI (n := 1) (q := 9) (pre := ([] : va_W)) (post := (wM a cy 0 sm ln pt sg fi se (mSt n o h t s g kn lo lf nm) sv sl ik bf co go fo)) (w2 := (wM a cy 0 sm ln pt sg fi se (mSt n o h t s g kn lo lf nm) sv sl ik bf co go fo)) (As := [.int x]) (rest := []) C (c_X4_isLight x) gX4_spot_X4_isLight rfl rfl rfl (by decide +kernel) (k_room hR (by decide)) ⟨Nat.zero_le _, Nat.zero_le _⟩  rfl rfl (Nat.le_of_ble_eq_true rfl) (rfl) (rfl) dX4_spot_6 rfl ?_
  refine k_ifB_eq (tgt := 20) (q := 12) C dX4_spot_9 (by decide) rfl ?_ ?_
  · intro c_9
    refine k_aload_n (q := 21) C 0 dX4_spot_20 rfl rfl ?_
    refine k_iconst (q := 22) (v := 1) C dX4_spot_21 (by decide) rfl ?_
    refine k_callVI (n := 1) (q := 25) (pre := ([] : va_W)) (post := ([] : va_W)) (w2 := (wM a cy 1 sm ln pt sg fi se (mSt n o h t s g kn lo lf nm) sv sl ik bf co go fo)) (As := [.int 1]) (rest := []) C (c_X4_fails cy a 0 sm ln pt sg fi se n o h t s g kn lo lf nm sv sl ik bf co go fo 1) gX4_spot_X4_fails rfl rfl rfl (by decide +kernel) (k_room hR (by decide)) ⟨Nat.zero_le _, Nat.zero_le _⟩ (ci := 4) rfl 0 rfl rfl rfl (Nat.le_of_ble_eq_true rfl) ((List.append_nil _).symm) (List.append_nil _) dX4_spot_22 rfl ?_
    exact k_fin E dX4_spot_25 (rfl) (rfl)
  · intro c_9
    refine k_aload_n (q := 13) C 0 dX4_spot_12 rfl rfl ?_
    refine k_iload_n (q := 14) C 2 dX4_spot_13 rfl rfl ?_
    refine k_callVI (n := 1) (q := 17) (pre := ([] : va_W)) (post := ([] : va_W)) (w2 := (wM a cy 0 sm ln pt sg fi se (mSt n o h t s g kn lo lf nm) sv sl ik bf co go fo)) (As := [.int y]) (rest := []) C (c_X4_isLayer cy a 0 sm ln pt sg fi se n o h t s g kn lo lf nm sv sl ik bf co go fo y (by omega)) gX4_spot_X4_isLayer rfl rfl rfl (by decide +kernel) (k_room hR (by decide)) ⟨Nat.zero_le _, Nat.zero_le _⟩ (ci := 4) rfl 0 rfl rfl rfl (Nat.le_of_ble_eq_true rfl) ((List.append_nil _).symm) (List.append_nil _) dX4_spot_14 rfl ?_
    refine k_ifB_ne (tgt := 26) (q := 20) C dX4_spot_17 (by decide) rfl ?_ ?_
    · exact fun c_17 => absurd ⟨c_9, c_17⟩ hx
    · intro c_17
      refine k_aload_n (q := 21) C 0 dX4_spot_20 rfl rfl ?_
      refine k_iconst (q := 22) (v := 1) C dX4_spot_21 (by decide) rfl ?_
      refine k_callVI (n := 1) (q := 25) (pre := ([] : va_W)) (post := ([] : va_W)) (w2 := (wM a cy 1 sm ln pt sg fi se (mSt n o h t s g kn lo lf nm) sv sl ik bf co go fo)) (As := [.int 1]) (rest := []) C (c_X4_fails cy a 0 sm ln pt sg fi se n o h t s g kn lo lf nm sv sl ik bf co go fo 1) gX4_spot_X4_fails rfl rfl rfl (by decide +kernel) (k_room hR (by decide)) ⟨Nat.zero_le _, Nat.zero_le _⟩ (ci := 4) rfl 0 rfl rfl rfl (Nat.le_of_ble_eq_true rfl) ((List.append_nil _).symm) (List.append_nil _) dX4_spot_22 rfl ?_
      exact k_fin E dX4_spot_25 (rfl) (rfl)
set_option maxHeartbeats 4000000 in
set_option maxRecDepth 100000 in
theorem c_X4_spot_e2 (cy : Nat → ClassId) (a : Nat → Nat) (th : Int32) (sm : Nat) (ln : Nat) (pt : Nat) (sg : Nat) (fi : Int32) (se : Int32) (n : Nat) (o : Nat → Int32) (h : Nat → Int32) (t : Nat → Int32) (s : Nat → Int32) (g : Nat → Int32) (kn : Nat) (lo : Int32) (lf : Int32) (nm : Nat → Int32) (sv : Nat → Int32) (sl : Nat → Int32) (ik : Nat → Int32) (bf : Nat → Nat) (co : Nat → Int32) (go : Nat → Int32) (fo : Nat → Int32) (j : Nat) (p : Nat) (z : Int32)  (hn : n ≤ 6) (hj : j < 2) (hp : p < n) (hz : ¬ (0 ≤ z ∧ z ≤ 4)) : kI yX4_spot wsX4_spot rm_X4_spot cy [.ref (a 0), .int (nI j), .int (nI p), .int z] (wM a cy th sm ln pt sg fi se (mSt n o h t s g kn lo lf nm) sv sl ik bf co go fo) 0 (wM a cy 2 sm ln pt sg fi se (mSt n o h t s g kn lo lf nm) sv sl ik bf co go fo) := by
  refine kI_of (cc := cX4_spot) (maxL := 4) (rt := .int) (by decide) rfl (rfl) (Nat.le_of_ble_eq_true rfl) ?_
  intro X hR C E
  have C : kC X 4 RX4 cX4_spot wsX4_spot cy := C
  refine k_fr (fr2 := [(0, .ref (a 0)), (1, .int (nI j)), (2, .int (nI p)), (3, .int z)]) ⟨[0, 1, 2, 3], rfl⟩ ?_
  refine k_aload_n (q := 1) C 0 dX4_spot_0 rfl rfl ?_
  refine k_iconst (q := 2) (v := 0) C dX4_spot_1 (by decide) rfl ?_
  refine k_put (q := 5) (ci := 4) (v := .int 0) (w2 := (wM a cy 0 sm ln pt sg fi se (mSt n o h t s g kn lo lf nm) sv sl ik bf co go fo)) C 0 0 in4_X4_spot rfl (List.mem_of_getElem? (i := 1) rfl) rfl tyX4 tyX4_ok nmX4 rfl (rfl) (rfl) rfl (by decide) (Nat.le_of_ble_eq_true rfl) (rfl) dX4_spot_2 rfl ?_
  refine k_iload_n (q := 6) C 1 dX4_spot_5 rfl rfl ?_
  refine k_callSI (n := 1) (q := 9) (pre := ([] : va_W)) (post := (wM a cy 0 sm ln pt sg fi se (mSt n o h t s g kn lo lf nm) sv sl ik bf co go fo)) (w2 := (wM a cy 0 sm ln pt sg fi se (mSt n o h t s g kn lo lf nm) sv sl ik bf co go fo)) (As := [.int (nI j)]) (rest := []) C (c_X4_isLight (nI j)) gX4_spot_X4_isLight rfl rfl rfl (by decide +kernel) (k_room hR (by decide)) ⟨Nat.zero_le _, Nat.zero_le _⟩  rfl rfl (Nat.le_of_ble_eq_true rfl) (rfl) (rfl) dX4_spot_6 rfl ?_
  refine k_ifB_eq (tgt := 20) (q := 12) C dX4_spot_9 (by decide) rfl ?_ ?_
  · exact fun c_9 => absurd (mSlot hj) c_9
  · intro c_9
    refine k_aload_n (q := 13) C 0 dX4_spot_12 rfl rfl ?_
    refine k_iload_n (q := 14) C 2 dX4_spot_13 rfl rfl ?_
    refine k_callVI (n := 1) (q := 17) (pre := ([] : va_W)) (post := ([] : va_W)) (w2 := (wM a cy 0 sm ln pt sg fi se (mSt n o h t s g kn lo lf nm) sv sl ik bf co go fo)) (As := [.int (nI p)]) (rest := []) C (c_X4_isLayer cy a 0 sm ln pt sg fi se n o h t s g kn lo lf nm sv sl ik bf co go fo (nI p) (by omega)) gX4_spot_X4_isLayer rfl rfl rfl (by decide +kernel) (k_room hR (by decide)) ⟨Nat.zero_le _, Nat.zero_le _⟩ (ci := 4) rfl 0 rfl rfl rfl (Nat.le_of_ble_eq_true rfl) ((List.append_nil _).symm) (List.append_nil _) dX4_spot_14 rfl ?_
    refine k_ifB_ne (tgt := 26) (q := 20) C dX4_spot_17 (by decide) rfl ?_ ?_
    · intro c_17
      refine k_iload_n (q := 27) C 3 dX4_spot_26 rfl rfl ?_
      refine k_iconst (q := 28) (v := 0) C dX4_spot_27 (by decide) rfl ?_
      refine k_iconst (q := 29) (v := 4) C dX4_spot_28 (by decide) rfl ?_
      refine k_callSI (n := 3) (q := 32) (pre := ([] : va_W)) (post := (wM a cy 0 sm ln pt sg fi se (mSt n o h t s g kn lo lf nm) sv sl ik bf co go fo)) (w2 := (wM a cy 0 sm ln pt sg fi se (mSt n o h t s g kn lo lf nm) sv sl ik bf co go fo)) (As := [.int z, .int 0, .int 4]) (rest := []) C (c_X4_within z 0 4) gX4_spot_X4_within rfl rfl rfl (by decide +kernel) (k_room hR (by decide)) ⟨Nat.zero_le _, Nat.zero_le _⟩  rfl rfl (Nat.le_of_ble_eq_true rfl) (rfl) (rfl) dX4_spot_29 rfl ?_
      refine k_ifB_eq (tgt := 45) (q := 35) C dX4_spot_32 (by decide) rfl ?_ ?_
      · intro c_32
        refine k_aload_n (q := 46) C 0 dX4_spot_45 rfl rfl ?_
        refine k_iconst (q := 47) (v := 2) C dX4_spot_46 (by decide) rfl ?_
        refine k_callVI (n := 1) (q := 50) (pre := ([] : va_W)) (post := ([] : va_W)) (w2 := (wM a cy 2 sm ln pt sg fi se (mSt n o h t s g kn lo lf nm) sv sl ik bf co go fo)) (As := [.int 2]) (rest := []) C (c_X4_fails cy a 0 sm ln pt sg fi se n o h t s g kn lo lf nm sv sl ik bf co go fo 2) gX4_spot_X4_fails rfl rfl rfl (by decide +kernel) (k_room hR (by decide)) ⟨Nat.zero_le _, Nat.zero_le _⟩ (ci := 4) rfl 0 rfl rfl rfl (Nat.le_of_ble_eq_true rfl) ((List.append_nil _).symm) (List.append_nil _) dX4_spot_47 rfl ?_
        exact k_fin E dX4_spot_50 (rfl) (rfl)
      · exact fun c_32 => absurd c_32 hz
    · exact fun c_17 => absurd ⟨nI_pos' (by omega), nI_lt (by omega) (by omega)⟩ c_17
set_option maxHeartbeats 4000000 in
set_option maxRecDepth 100000 in
theorem c_X4_spot (cy : Nat → ClassId) (a : Nat → Nat) (th : Int32) (sm : Nat) (ln : Nat) (pt : Nat) (sg : Nat) (fi : Int32) (se : Int32) (n : Nat) (o : Nat → Int32) (h : Nat → Int32) (t : Nat → Int32) (s : Nat → Int32) (g : Nat → Int32) (kn : Nat) (lo : Int32) (lf : Int32) (nm : Nat → Int32) (sv : Nat → Int32) (sl : Nat → Int32) (ik : Nat → Int32) (bf : Nat → Nat) (co : Nat → Int32) (go : Nat → Int32) (fo : Nat → Int32) (j : Nat) (p : Nat) (z : Int32)  (hn : n ≤ 6) (hj : j < 2) (hp : p < n) (hz : 0 ≤ z ∧ z ≤ 4) (ho : mBin o) : kIx yX4_spot wsX4_spot rm_X4_spot cy [.ref (a 0), .int (nI j), .int (nI p), .int z] (wM a cy th sm ln pt sg fi se (mSt n o h t s g kn lo lf nm) sv sl ik bf co go fo) (mSp o h t s g j p z) (fun (u : (Nat → Int32) × (Nat → Int32)) => (wM a cy 0 sm ln pt sg fi se (mSt n o h t s g kn lo lf nm) sv sl ik bf u.1 u.2 fo)) (fun (u : (Nat → Int32) × (Nat → Int32)) => True) := by
  refine kIx_of (cc := cX4_spot) (maxL := 4) (rt := .int) (by decide) rfl (rfl) (Nat.le_of_ble_eq_true rfl) ?_
  intro X hR C E
  have C : kC X 4 RX4 cX4_spot wsX4_spot cy := C
  refine k_fr (fr2 := [(0, .ref (a 0)), (1, .int (nI j)), (2, .int (nI p)), (3, .int z)]) ⟨[0, 1, 2, 3], rfl⟩ ?_
  refine k_aload_n (q := 1) C 0 dX4_spot_0 rfl rfl ?_
  refine k_iconst (q := 2) (v := 0) C dX4_spot_1 (by decide) rfl ?_
  refine k_put (q := 5) (ci := 4) (v := .int 0) (w2 := (wM a cy 0 sm ln pt sg fi se (mSt n o h t s g kn lo lf nm) sv sl ik bf co go fo)) C 0 0 in4_X4_spot rfl (List.mem_of_getElem? (i := 1) rfl) rfl tyX4 tyX4_ok nmX4 rfl (rfl) (rfl) rfl (by decide) (Nat.le_of_ble_eq_true rfl) (rfl) dX4_spot_2 rfl ?_
  refine k_iload_n (q := 6) C 1 dX4_spot_5 rfl rfl ?_
  refine k_callSI (n := 1) (q := 9) (pre := ([] : va_W)) (post := (wM a cy 0 sm ln pt sg fi se (mSt n o h t s g kn lo lf nm) sv sl ik bf co go fo)) (w2 := (wM a cy 0 sm ln pt sg fi se (mSt n o h t s g kn lo lf nm) sv sl ik bf co go fo)) (As := [.int (nI j)]) (rest := []) C (c_X4_isLight (nI j)) gX4_spot_X4_isLight rfl rfl rfl (by decide +kernel) (k_room hR (by decide)) ⟨Nat.zero_le _, Nat.zero_le _⟩  rfl rfl (Nat.le_of_ble_eq_true rfl) (rfl) (rfl) dX4_spot_6 rfl ?_
  refine k_ifB_eq (tgt := 20) (q := 12) C dX4_spot_9 (by decide) rfl ?_ ?_
  · exact fun c_9 => absurd (mSlot hj) c_9
  · intro c_9
    refine k_aload_n (q := 13) C 0 dX4_spot_12 rfl rfl ?_
    refine k_iload_n (q := 14) C 2 dX4_spot_13 rfl rfl ?_
    refine k_callVI (n := 1) (q := 17) (pre := ([] : va_W)) (post := ([] : va_W)) (w2 := (wM a cy 0 sm ln pt sg fi se (mSt n o h t s g kn lo lf nm) sv sl ik bf co go fo)) (As := [.int (nI p)]) (rest := []) C (c_X4_isLayer cy a 0 sm ln pt sg fi se n o h t s g kn lo lf nm sv sl ik bf co go fo (nI p) (by omega)) gX4_spot_X4_isLayer rfl rfl rfl (by decide +kernel) (k_room hR (by decide)) ⟨Nat.zero_le _, Nat.zero_le _⟩ (ci := 4) rfl 0 rfl rfl rfl (Nat.le_of_ble_eq_true rfl) ((List.append_nil _).symm) (List.append_nil _) dX4_spot_14 rfl ?_
    refine k_ifB_ne (tgt := 26) (q := 20) C dX4_spot_17 (by decide) rfl ?_ ?_
    · intro c_17
      refine k_iload_n (q := 27) C 3 dX4_spot_26 rfl rfl ?_
      refine k_iconst (q := 28) (v := 0) C dX4_spot_27 (by decide) rfl ?_
      refine k_iconst (q := 29) (v := 4) C dX4_spot_28 (by decide) rfl ?_
      refine k_callSI (n := 3) (q := 32) (pre := ([] : va_W)) (post := (wM a cy 0 sm ln pt sg fi se (mSt n o h t s g kn lo lf nm) sv sl ik bf co go fo)) (w2 := (wM a cy 0 sm ln pt sg fi se (mSt n o h t s g kn lo lf nm) sv sl ik bf co go fo)) (As := [.int z, .int 0, .int 4]) (rest := []) C (c_X4_within z 0 4) gX4_spot_X4_within rfl rfl rfl (by decide +kernel) (k_room hR (by decide)) ⟨Nat.zero_le _, Nat.zero_le _⟩  rfl rfl (Nat.le_of_ble_eq_true rfl) (rfl) (rfl) dX4_spot_29 rfl ?_
      refine k_ifB_eq (tgt := 45) (q := 35) C dX4_spot_32 (by decide) rfl ?_ ?_
      · exact fun c_32 => absurd hz c_32
      · intro c_32
        refine k_aload_n (q := 36) C 0 dX4_spot_35 rfl rfl ?_
        refine k_iload_n (q := 37) C 1 dX4_spot_36 rfl rfl ?_
        refine k_iload_n (q := 38) C 2 dX4_spot_37 rfl rfl ?_
        refine k_iload_n (q := 39) C 3 dX4_spot_38 rfl rfl ?_
        refine k_callVIx (n := 3) (q := 42) (pre := ([] : va_W)) (post := ([] : va_W)) (w2 := (fun u => (wM a cy 0 sm ln pt sg fi se (mSt n o h t s g kn lo lf nm) sv sl ik bf (u.1) (u.2) fo))) (As := [.int (nI j), .int (nI p), .int z]) (rest := []) C (c_X4_tellsSpot cy a 0 sm ln pt sg fi se n o h t s g kn lo lf nm sv sl ik bf co go fo j p z hn hj hp ho) gX4_spot_X4_tellsSpot rfl rfl rfl (by decide +kernel) (k_room hR (by decide)) ⟨Nat.zero_le _, Nat.zero_le _⟩ (ci := 4) rfl 0 rfl rfl rfl (Nat.le_of_ble_eq_true rfl) ((List.append_nil _).symm) (fun u => List.append_nil _) dX4_spot_39 rfl ?_
        rintro ⟨co_39, go_39⟩ h_39
        try dsimp only at h_39
        refine k_goto (q := 50) C dX4_spot_42 (by decide) ?_
        exact k_finx E (co_39, go_39) dX4_spot_50 (rfl) (rfl) (trivial)
    · exact fun c_17 => absurd ⟨nI_pos' (by omega), nI_lt (by omega) (by omega)⟩ c_17
abbrev rm_X4_reading : Room := { frames := 6, cells := 0, slots := 0, locals := 132 }
theorem in4_X4_reading : ∀ w ∈ wsX40, w ∈ wsX4_reading := fun _ h => (List.mem_cons_of_mem _ (List.mem_append_right _ h))
set_option maxHeartbeats 4000000 in
set_option maxRecDepth 100000 in
theorem c_X4_reading_e (cy : Nat → ClassId) (a : Nat → Nat) (th : Int32) (sm : Nat) (ln : Nat) (pt : Nat) (sg : Nat) (fi : Int32) (se : Int32) (n : Nat) (o : Nat → Int32) (h : Nat → Int32) (t : Nat → Int32) (s : Nat → Int32) (g : Nat → Int32) (kn : Nat) (lo : Int32) (lf : Int32) (nm : Nat → Int32) (sv : Nat → Int32) (sl : Nat → Int32) (ik : Nat → Int32) (bf : Nat → Nat) (co : Nat → Int32) (go : Nat → Int32) (fo : Nat → Int32) (x : Int32)  (hx : ¬ (0 ≤ x ∧ x ≤ 3)) : kI yX4_reading wsX4_reading rm_X4_reading cy [.ref (a 0), .int x] (wM a cy th sm ln pt sg fi se (mSt n o h t s g kn lo lf nm) sv sl ik bf co go fo) 0 (wM a cy 1 sm ln pt sg fi se (mSt n o h t s g kn lo lf nm) sv sl ik bf co go fo) := by
  refine kI_of (cc := cX4_reading) (maxL := 2) (rt := .int) (by decide) rfl (rfl) (Nat.le_of_ble_eq_true rfl) ?_
  intro X hR C E
  have C : kC X 2 RX4 cX4_reading wsX4_reading cy := C
  refine k_fr (fr2 := [(0, .ref (a 0)), (1, .int x)]) ⟨[0, 1], rfl⟩ ?_
  refine k_aload_n (q := 1) C 0 dX4_reading_0 rfl rfl ?_
  refine k_iconst (q := 2) (v := 0) C dX4_reading_1 (by decide) rfl ?_
  refine k_put (q := 5) (ci := 4) (v := .int 0) (w2 := (wM a cy 0 sm ln pt sg fi se (mSt n o h t s g kn lo lf nm) sv sl ik bf co go fo)) C 0 0 in4_X4_reading rfl (List.mem_of_getElem? (i := 1) rfl) rfl tyX4 tyX4_ok nmX4 rfl (rfl) (rfl) rfl (by decide) (Nat.le_of_ble_eq_true rfl) (rfl) dX4_reading_2 rfl ?_
  refine k_iload_n (q := 6) C 1 dX4_reading_5 rfl rfl ?_
  refine k_iconst (q := 7) (v := 0) C dX4_reading_6 (by decide) rfl ?_
  refine k_iconst (q := 8) (v := 3) C dX4_reading_7 (by decide) rfl ?_
  refine k_callSI (n := 3) (q := 11) (pre := ([] : va_W)) (post := (wM a cy 0 sm ln pt sg fi se (mSt n o h t s g kn lo lf nm) sv sl ik bf co go fo)) (w2 := (wM a cy 0 sm ln pt sg fi se (mSt n o h t s g kn lo lf nm) sv sl ik bf co go fo)) (As := [.int x, .int 0, .int 3]) (rest := []) C (c_X4_within x 0 3) gX4_reading_X4_within rfl rfl rfl (by decide +kernel) (k_room hR (by decide)) ⟨Nat.zero_le _, Nat.zero_le _⟩  rfl rfl (Nat.le_of_ble_eq_true rfl) (rfl) (rfl) dX4_reading_8 rfl ?_
  refine k_ifB_ne (tgt := 20) (q := 14) C dX4_reading_11 (by decide) rfl ?_ ?_
  · exact fun c_11 => absurd c_11 hx
  · intro c_11
    refine k_aload_n (q := 15) C 0 dX4_reading_14 rfl rfl ?_
    refine k_iconst (q := 16) (v := 1) C dX4_reading_15 (by decide) rfl ?_
    refine k_callVI (n := 1) (q := 19) (pre := ([] : va_W)) (post := ([] : va_W)) (w2 := (wM a cy 1 sm ln pt sg fi se (mSt n o h t s g kn lo lf nm) sv sl ik bf co go fo)) (As := [.int 1]) (rest := []) C (c_X4_fails cy a 0 sm ln pt sg fi se n o h t s g kn lo lf nm sv sl ik bf co go fo 1) gX4_reading_X4_fails rfl rfl rfl (by decide +kernel) (k_room hR (by decide)) ⟨Nat.zero_le _, Nat.zero_le _⟩ (ci := 4) rfl 0 rfl rfl rfl (Nat.le_of_ble_eq_true rfl) ((List.append_nil _).symm) (List.append_nil _) dX4_reading_16 rfl ?_
    exact k_fin E dX4_reading_19 (rfl) (rfl)
set_option maxHeartbeats 4000000 in
set_option maxRecDepth 100000 in
theorem c_X4_reading (cy : Nat → ClassId) (a : Nat → Nat) (th : Int32) (sm : Nat) (ln : Nat) (pt : Nat) (sg : Nat) (fi : Int32) (se : Int32) (n : Nat) (o : Nat → Int32) (h : Nat → Int32) (t : Nat → Int32) (s : Nat → Int32) (g : Nat → Int32) (kn : Nat) (lo : Int32) (lf : Int32) (nm : Nat → Int32) (sv : Nat → Int32) (sl : Nat → Int32) (ik : Nat → Int32) (bf : Nat → Nat) (co : Nat → Int32) (go : Nat → Int32) (fo : Nat → Int32) (w : Nat)  (hw : w ≤ 3) (hn : n ≤ 6) (ho : mBin o) (h0 : sOk (s 0)) (h1 : sOk (s 1)) : kIx yX4_reading wsX4_reading rm_X4_reading cy [.ref (a 0), .int (nI w)] (wM a cy th sm ln pt sg fi se (mSt n o h t s g kn lo lf nm) sv sl ik bf co go fo) (mRn h n (sMeet g (s 0) (s 1)) (mC (sClose (mLit o) h t s g) (mD h s g) n) w) (fun (u : (Nat → Int32) × (Nat → Int32) × (Nat → Int32)) => (wM a cy 0 sm ln pt sg fi se (mSt n o h t s g kn lo lf nm) sv sl ik bf u.1 u.2.1 u.2.2)) (fun (u : (Nat → Int32) × (Nat → Int32) × (Nat → Int32)) => True) := by
  refine kIx_of (cc := cX4_reading) (maxL := 2) (rt := .int) (by decide) rfl (rfl) (Nat.le_of_ble_eq_true rfl) ?_
  intro X hR C E
  have C : kC X 2 RX4 cX4_reading wsX4_reading cy := C
  refine k_fr (fr2 := [(0, .ref (a 0)), (1, .int (nI w))]) ⟨[0, 1], rfl⟩ ?_
  refine k_aload_n (q := 1) C 0 dX4_reading_0 rfl rfl ?_
  refine k_iconst (q := 2) (v := 0) C dX4_reading_1 (by decide) rfl ?_
  refine k_put (q := 5) (ci := 4) (v := .int 0) (w2 := (wM a cy 0 sm ln pt sg fi se (mSt n o h t s g kn lo lf nm) sv sl ik bf co go fo)) C 0 0 in4_X4_reading rfl (List.mem_of_getElem? (i := 1) rfl) rfl tyX4 tyX4_ok nmX4 rfl (rfl) (rfl) rfl (by decide) (Nat.le_of_ble_eq_true rfl) (rfl) dX4_reading_2 rfl ?_
  refine k_iload_n (q := 6) C 1 dX4_reading_5 rfl rfl ?_
  refine k_iconst (q := 7) (v := 0) C dX4_reading_6 (by decide) rfl ?_
  refine k_iconst (q := 8) (v := 3) C dX4_reading_7 (by decide) rfl ?_
  refine k_callSI (n := 3) (q := 11) (pre := ([] : va_W)) (post := (wM a cy 0 sm ln pt sg fi se (mSt n o h t s g kn lo lf nm) sv sl ik bf co go fo)) (w2 := (wM a cy 0 sm ln pt sg fi se (mSt n o h t s g kn lo lf nm) sv sl ik bf co go fo)) (As := [.int (nI w), .int 0, .int 3]) (rest := []) C (c_X4_within (nI w) 0 3) gX4_reading_X4_within rfl rfl rfl (by decide +kernel) (k_room hR (by decide)) ⟨Nat.zero_le _, Nat.zero_le _⟩  rfl rfl (Nat.le_of_ble_eq_true rfl) (rfl) (rfl) dX4_reading_8 rfl ?_
  refine k_ifB_ne (tgt := 20) (q := 14) C dX4_reading_11 (by decide) rfl ?_ ?_
  · intro c_11
    refine k_aload_n (q := 21) C 0 dX4_reading_20 rfl rfl ?_
    refine k_callVIx (n := 0) (q := 24) (pre := ([] : va_W)) (post := ([] : va_W)) (w2 := (fun u => (wM a cy 0 sm ln pt sg fi se (mSt n o h t s g kn lo lf nm) sv sl ik bf (u.1) (u.2.1) (u.2.2)))) (As := []) (rest := []) C (c_X4_read cy a 0 sm ln pt sg fi se n o h t s g kn lo lf nm sv sl ik bf co go fo hn ho h0 h1) gX4_reading_X4_read rfl rfl rfl (by decide +kernel) (k_room hR (by decide)) ⟨Nat.zero_le _, Nat.zero_le _⟩ (ci := 4) rfl 0 rfl rfl rfl (Nat.le_of_ble_eq_true rfl) ((List.append_nil _).symm) (fun u => List.append_nil _) dX4_reading_21 rfl ?_
    rintro ⟨co_21, go_21, fo_21⟩ h_21
    try dsimp only at h_21
    refine k_ifB_eq (tgt := 36) (q := 27) C dX4_reading_24 (by decide) rfl ?_ ?_
    · intro c_24
      have hno : sMeet g (s 0) (s 1) = -99999 ∨ mC (sClose (mLit o) h t s g) (mD h s g) n = -99999 := Classical.byContradiction (fun q => c_24 ⟨fun z => q (Or.inl z), fun z => q (Or.inr z)⟩)
      refine k_ldc (q := 38) (v := -99999) C (List.mem_of_getElem? (i := 3) rfl) dX4_reading_36 rfl ?_
      exact k_finx E (co_21, go_21, fo_21) dX4_reading_38 (by first | exact (mRn_n hno).symm | exact mFo hw hp hn c_24.1 ep h_21) (rfl) (trivial)
    · intro c_24
      obtain ⟨p, hp, ep⟩ := (mC_ex _ _ _).resolve_left c_24.2
      refine k_aload_n (q := 28) C 0 dX4_reading_27 rfl rfl ?_
      refine k_get (q := 31) (ci := 4) (v := .ref (a 8)) C 0 14 in4_X4_reading rfl (List.mem_of_getElem? (i := 2) rfl) rfl rfl (by decide) rfl dX4_reading_28 rfl ?_
      refine k_iload_n (q := 32) C 1 dX4_reading_31 rfl rfl ?_
      refine k_iald (q := 33) C 8 rfl (vp_in_nI (n := w) (by omega) (by decide)) dX4_reading_32 rfl ?_
      refine k_st (st2 := (.int (fo_21 w) :: _)) (congrArg (fun z => Value.int z :: _) (show fo_21 (nI w).toNatClampNeg = fo_21 w from congrArg fo_21 (nI_clamp (n := w) (by omega)))) ?_
      refine k_goto (q := 38) C dX4_reading_33 (by decide) ?_
      exact k_finx E (co_21, go_21, fo_21) dX4_reading_38 (by first | exact (mRn_n hno).symm | exact mFo hw hp hn c_24.1 ep h_21) (rfl) (trivial)
  · exact fun c_11 => absurd (w03 hw) c_11
abbrev rm_X4_night : Room := { frames := 1, cells := 0, slots := 0, locals := 22 }
theorem in4_X4_night : ∀ w ∈ wsX40, w ∈ wsX4_night := fun _ h => (List.mem_cons_of_mem _ (List.mem_append_right _ h))
set_option maxHeartbeats 4000000 in
set_option maxRecDepth 100000 in
theorem c_X4_night_e (cy : Nat → ClassId) (a : Nat → Nat) (th : Int32) (sm : Nat) (ln : Nat) (pt : Nat) (sg : Nat) (fi : Int32) (se : Int32) (n : Nat) (o : Nat → Int32) (h : Nat → Int32) (t : Nat → Int32) (s : Nat → Int32) (g : Nat → Int32) (kn : Nat) (lo : Int32) (lf : Int32) (nm : Nat → Int32) (sv : Nat → Int32) (sl : Nat → Int32) (ik : Nat → Int32) (bf : Nat → Nat) (co : Nat → Int32) (go : Nat → Int32) (fo : Nat → Int32) (x : Int32) (y : Int32)  (hx : x < 0 ∨ ¬ (0 ≤ y ∧ y ≤ 3)) : kI yX4_night wsX4_night rm_X4_night cy [.ref (a 0), .int x, .int y] (wM a cy th sm ln pt sg fi se (mSt n o h t s g kn lo lf nm) sv sl ik bf co go fo) 0 (wM a cy 1 sm ln pt sg fi se (mSt n o h t s g kn lo lf nm) sv sl ik bf co go fo) := by
  refine kI_of (cc := cX4_night) (maxL := 3) (rt := .int) (by decide) rfl (rfl) (Nat.le_of_ble_eq_true rfl) ?_
  intro X hR C E
  have C : kC X 3 RX4 cX4_night wsX4_night cy := C
  refine k_fr (fr2 := [(0, .ref (a 0)), (1, .int x), (2, .int y)]) ⟨[0, 1, 2], rfl⟩ ?_
  refine k_aload_n (q := 1) C 0 dX4_night_0 rfl rfl ?_
  refine k_iconst (q := 2) (v := 0) C dX4_night_1 (by decide) rfl ?_
  refine k_put (q := 5) (ci := 4) (v := .int 0) (w2 := (wM a cy 0 sm ln pt sg fi se (mSt n o h t s g kn lo lf nm) sv sl ik bf co go fo)) C 0 0 in4_X4_night rfl (List.mem_of_getElem? (i := 1) rfl) rfl tyX4 tyX4_ok nmX4 rfl (rfl) (rfl) rfl (by decide) (Nat.le_of_ble_eq_true rfl) (rfl) dX4_night_2 rfl ?_
  refine k_iload_n (q := 6) C 1 dX4_night_5 rfl rfl ?_
  refine k_if_lt (tgt := 18) (q := 9) C dX4_night_6 (by decide) rfl ?_ ?_
  · intro c_6
    refine k_aload_n (q := 19) C 0 dX4_night_18 rfl rfl ?_
    refine k_iconst (q := 20) (v := 1) C dX4_night_19 (by decide) rfl ?_
    refine k_callVI (n := 1) (q := 23) (pre := ([] : va_W)) (post := ([] : va_W)) (w2 := (wM a cy 1 sm ln pt sg fi se (mSt n o h t s g kn lo lf nm) sv sl ik bf co go fo)) (As := [.int 1]) (rest := []) C (c_X4_fails cy a 0 sm ln pt sg fi se n o h t s g kn lo lf nm sv sl ik bf co go fo 1) gX4_night_X4_fails rfl rfl rfl (by decide +kernel) (k_room hR (by decide)) ⟨Nat.zero_le _, Nat.zero_le _⟩ (ci := 4) rfl 0 rfl rfl rfl (Nat.le_of_ble_eq_true rfl) ((List.append_nil _).symm) (List.append_nil _) dX4_night_20 rfl ?_
    exact k_fin E dX4_night_23 (rfl) (rfl)
  · intro c_6
    refine k_iload_n (q := 10) C 2 dX4_night_9 rfl rfl ?_
    refine k_iconst (q := 11) (v := 0) C dX4_night_10 (by decide) rfl ?_
    refine k_iconst (q := 12) (v := 3) C dX4_night_11 (by decide) rfl ?_
    refine k_callSI (n := 3) (q := 15) (pre := ([] : va_W)) (post := (wM a cy 0 sm ln pt sg fi se (mSt n o h t s g kn lo lf nm) sv sl ik bf co go fo)) (w2 := (wM a cy 0 sm ln pt sg fi se (mSt n o h t s g kn lo lf nm) sv sl ik bf co go fo)) (As := [.int y, .int 0, .int 3]) (rest := []) C (c_X4_within y 0 3) gX4_night_X4_within rfl rfl rfl (by decide +kernel) (k_room hR (by decide)) ⟨Nat.zero_le _, Nat.zero_le _⟩  rfl rfl (Nat.le_of_ble_eq_true rfl) (rfl) (rfl) dX4_night_12 rfl ?_
    refine k_ifB_ne (tgt := 24) (q := 18) C dX4_night_15 (by decide) rfl ?_ ?_
    · exact fun c_15 => hx.elim (fun q => absurd q c_6) (fun q => absurd c_15 q)
    · intro c_15
      refine k_aload_n (q := 19) C 0 dX4_night_18 rfl rfl ?_
      refine k_iconst (q := 20) (v := 1) C dX4_night_19 (by decide) rfl ?_
      refine k_callVI (n := 1) (q := 23) (pre := ([] : va_W)) (post := ([] : va_W)) (w2 := (wM a cy 1 sm ln pt sg fi se (mSt n o h t s g kn lo lf nm) sv sl ik bf co go fo)) (As := [.int 1]) (rest := []) C (c_X4_fails cy a 0 sm ln pt sg fi se n o h t s g kn lo lf nm sv sl ik bf co go fo 1) gX4_night_X4_fails rfl rfl rfl (by decide +kernel) (k_room hR (by decide)) ⟨Nat.zero_le _, Nat.zero_le _⟩ (ci := 4) rfl 0 rfl rfl rfl (Nat.le_of_ble_eq_true rfl) ((List.append_nil _).symm) (List.append_nil _) dX4_night_20 rfl ?_
      exact k_fin E dX4_night_23 (rfl) (rfl)
set_option maxHeartbeats 4000000 in
set_option maxRecDepth 100000 in
theorem c_X4_night (cy : Nat → ClassId) (a : Nat → Nat) (th : Int32) (sm : Nat) (ln : Nat) (pt : Nat) (sg : Nat) (fi : Int32) (se : Int32) (n : Nat) (o : Nat → Int32) (h : Nat → Int32) (t : Nat → Int32) (s : Nat → Int32) (g : Nat → Int32) (kn : Nat) (lo : Int32) (lf : Int32) (nm : Nat → Int32) (sv : Nat → Int32) (sl : Nat → Int32) (ik : Nat → Int32) (bf : Nat → Nat) (co : Nat → Int32) (go : Nat → Int32) (fo : Nat → Int32) (j : Nat) (w : Nat)  (hj : j < 2 ^ 31) (hw : w ≤ 3) (hkn : kn ≤ 8) : kI yX4_night wsX4_night rm_X4_night cy [.ref (a 0), .int (nI j), .int (nI w)] (wM a cy th sm ln pt sg fi se (mSt n o h t s g kn lo lf nm) sv sl ik bf co go fo) (sNight kn nm j w) (wM a cy 0 sm ln pt sg fi se (mSt n o h t s g kn lo lf nm) sv sl ik bf co go fo) := by
  refine kI_of (cc := cX4_night) (maxL := 3) (rt := .int) (by decide) rfl (rfl) (Nat.le_of_ble_eq_true rfl) ?_
  intro X hR C E
  have C : kC X 3 RX4 cX4_night wsX4_night cy := C
  refine k_fr (fr2 := [(0, .ref (a 0)), (1, .int (nI j)), (2, .int (nI w))]) ⟨[0, 1, 2], rfl⟩ ?_
  refine k_aload_n (q := 1) C 0 dX4_night_0 rfl rfl ?_
  refine k_iconst (q := 2) (v := 0) C dX4_night_1 (by decide) rfl ?_
  refine k_put (q := 5) (ci := 4) (v := .int 0) (w2 := (wM a cy 0 sm ln pt sg fi se (mSt n o h t s g kn lo lf nm) sv sl ik bf co go fo)) C 0 0 in4_X4_night rfl (List.mem_of_getElem? (i := 1) rfl) rfl tyX4 tyX4_ok nmX4 rfl (rfl) (rfl) rfl (by decide) (Nat.le_of_ble_eq_true rfl) (rfl) dX4_night_2 rfl ?_
  refine k_iload_n (q := 6) C 1 dX4_night_5 rfl rfl ?_
  refine k_if_lt (tgt := 18) (q := 9) C dX4_night_6 (by decide) rfl ?_ ?_
  · exact fun c_6 => absurd c_6 (nI_pos hj)
  · intro c_6
    refine k_iload_n (q := 10) C 2 dX4_night_9 rfl rfl ?_
    refine k_iconst (q := 11) (v := 0) C dX4_night_10 (by decide) rfl ?_
    refine k_iconst (q := 12) (v := 3) C dX4_night_11 (by decide) rfl ?_
    refine k_callSI (n := 3) (q := 15) (pre := ([] : va_W)) (post := (wM a cy 0 sm ln pt sg fi se (mSt n o h t s g kn lo lf nm) sv sl ik bf co go fo)) (w2 := (wM a cy 0 sm ln pt sg fi se (mSt n o h t s g kn lo lf nm) sv sl ik bf co go fo)) (As := [.int (nI w), .int 0, .int 3]) (rest := []) C (c_X4_within (nI w) 0 3) gX4_night_X4_within rfl rfl rfl (by decide +kernel) (k_room hR (by decide)) ⟨Nat.zero_le _, Nat.zero_le _⟩  rfl rfl (Nat.le_of_ble_eq_true rfl) (rfl) (rfl) dX4_night_12 rfl ?_
    refine k_ifB_ne (tgt := 24) (q := 18) C dX4_night_15 (by decide) rfl ?_ ?_
    · intro c_15
      refine k_iload_n (q := 25) C 1 dX4_night_24 rfl rfl ?_
      refine k_aload_n (q := 26) C 0 dX4_night_25 rfl rfl ?_
      refine k_get (q := 29) (ci := 4) (v := .ref (a 1)) C 0 1 in4_X4_night rfl (List.mem_of_getElem? (i := 2) rfl) rfl rfl (by decide) rfl dX4_night_26 rfl ?_
      refine k_bipush (q := 31) (v := 9) C dX4_night_29 (by decide +kernel) rfl ?_
      refine k_iald (q := 32) C 1 rfl (vp_in_nI (n := 9) (by decide) (by decide)) dX4_night_31 rfl ?_
      refine k_st (st2 := (.int ((mSt n o h t s g kn lo lf nm) 9) :: _)) (congrArg (fun z => Value.int z :: _) (show (mSt n o h t s g kn lo lf nm) (9 : Int32).toNatClampNeg = (mSt n o h t s g kn lo lf nm) 9 from congrArg (mSt n o h t s g kn lo lf nm) (nI_clamp (n := 9) (by decide)))) ?_
      refine k_st (st2 := (.int (nI kn) :: _)) (congrArg (fun z => Value.int z :: _) (show (mSt n o h t s g kn lo lf nm) 9 = nI kn from rfl)) ?_
      refine k_nicmp_ge (a := j) (b := kn)  (tgt := 51) (q := 35) C dX4_night_32 (by decide) rfl (by omega) (by omega) ?_ ?_
      · intro c_32
        refine k_ldc (q := 53) (v := -99999) C (List.mem_of_getElem? (i := 3) rfl) dX4_night_51 rfl ?_
        exact k_fin E dX4_night_53 (by first | (rw [sNight, if_pos (by omega)]) | (rw [sNight, if_neg (by omega)])) (rfl)
      · intro c_32
        have hj8 : j < 8 := by omega
        refine k_aload_n (q := 36) C 0 dX4_night_35 rfl rfl ?_
        refine k_get (q := 39) (ci := 4) (v := .ref (a 1)) C 0 1 in4_X4_night rfl (List.mem_of_getElem? (i := 2) rfl) rfl rfl (by decide) rfl dX4_night_36 rfl ?_
        refine k_bipush (q := 41) (v := 24) C dX4_night_39 (by decide +kernel) rfl ?_
        refine k_iconst (q := 42) (v := 4) C dX4_night_41 (by decide) rfl ?_
        refine k_iload_n (q := 43) C 1 dX4_night_42 rfl rfl ?_
        refine k_imul (q := 44) C dX4_night_43 rfl ?_
        refine k_st (st2 := (.int (nI (4 * j)) :: _)) (congrArg (fun z => Value.int z :: _) (show 4 * (nI j) = nI (4 * j) from pk_mul 4 j)) ?_
        refine k_iadd (q := 45) C dX4_night_44 rfl ?_
        refine k_st (st2 := (.int (nI (24 + (4 * j))) :: _)) (congrArg (fun z => Value.int z :: _) (show 24 + (nI (4 * j)) = nI (24 + (4 * j)) from nI_add 24 (4 * j))) ?_
        refine k_iload_n (q := 46) C 2 dX4_night_45 rfl rfl ?_
        refine k_iadd (q := 47) C dX4_night_46 rfl ?_
        refine k_st (st2 := (.int (nI (24 + (4 * j) + w)) :: _)) (congrArg (fun z => Value.int z :: _) (show (nI (24 + (4 * j))) + (nI w) = nI (24 + (4 * j) + w) from nI_add (24 + (4 * j)) w)) ?_
        refine k_st (st2 := (.int (nI (24 + (4 * j + w))) :: _)) (congrArg (fun z => Value.int z :: _) (show nI (24 + (4 * j) + w) = nI (24 + (4 * j + w)) from congrArg nI (by omega))) ?_
        refine k_iald (q := 48) C 1 rfl (vp_in_nI (n := 24 + (4 * j + w)) (by omega) (by decide)) dX4_night_47 rfl ?_
        refine k_st (st2 := (.int ((mSt n o h t s g kn lo lf nm) (24 + (4 * j + w))) :: _)) (congrArg (fun z => Value.int z :: _) (show (mSt n o h t s g kn lo lf nm) (nI (24 + (4 * j + w))).toNatClampNeg = (mSt n o h t s g kn lo lf nm) (24 + (4 * j + w)) from congrArg (mSt n o h t s g kn lo lf nm) (nI_clamp (n := 24 + (4 * j + w)) (by omega)))) ?_
        refine k_st (st2 := (.int (nm (4 * j + w)) :: _)) (congrArg (fun z => Value.int z :: _) (show (mSt n o h t s g kn lo lf nm) (24 + (4 * j + w)) = nm (4 * j + w) from mSt_m (k := (4 * j + w)))) ?_
        refine k_goto (q := 53) C dX4_night_48 (by decide) ?_
        exact k_fin E dX4_night_53 (by first | (rw [sNight, if_pos (by omega)]) | (rw [sNight, if_neg (by omega)])) (rfl)
    · exact fun c_15 => absurd (w03 hw) c_15
abbrev rm_X4_pairs : Room := { frames := 4, cells := 0, slots := 0, locals := 86 }
theorem in4_X4_pairs : ∀ w ∈ wsX40, w ∈ wsX4_pairs := fun _ h => (List.mem_cons_of_mem _ (List.mem_append_right _ h))
set_option maxHeartbeats 4000000 in
set_option maxRecDepth 100000 in
theorem lp_X4_pairs_4 (cy : Nat → ClassId) (a : Nat → Nat) (th : Int32) (sm : Nat) (ln : Nat) (pt : Nat) (sg : Nat) (fi : Int32) (se : Int32) (n : Nat) (o : Nat → Int32) (h : Nat → Int32) (t : Nat → Int32) (s : Nat → Int32) (g : Nat → Int32) (kn : Nat) (lo : Int32) (lf : Int32) (nm : Nat → Int32) (sv : Nat → Int32) (sl : Nat → Int32) (ik : Nat → Int32) (bf : Nat → Nat) (co : Nat → Int32) (go : Nat → Int32) (fo : Nat → Int32) (b : Bool)  (hn : n ≤ 6) (ho : mBin o) (hla : mLaid n h t (g 1) co go) (X : kX) (hR : xR X = rm_X4_pairs) (C : kC X 4 RX4 cX4_pairs wsX4_pairs cy) (E : kEnd X 4 cX4_pairs (nI (sCnt (mCnt2 b (mLit o) h t s g) n)) (wM a cy th sm ln pt sg fi se (mSt n o h t s g kn lo lf nm) sv sl ik bf co go fo)) : ∀ (fu : Nat) (k : Nat), n - k < fu → (k ≤ n) → kG X 4 0 0 (wM a cy th sm ln pt sg fi se (mSt n o h t s g kn lo lf nm) sv sl ik bf co go fo) 4 [(0, .ref (a 0)), (1, .int (bI (b = true))), (2, .int (nI (sCnt (mCnt2 b (mLit o) h t s g) k))), (3, .int (nI k))] [] := by
  intro fu
  induction fu with
  | zero => intro k hfu; exact absurd hfu (Nat.not_lt_zero _)
  | succ fu ih =>
    intro k hfu hk
    have hcl := sCnt_le (mCnt2 b (mLit o) h t s g) k
    refine k_iload_n (q := 5) C 3 dX4_pairs_4 rfl rfl ?_
    refine k_aload_n (q := 6) C 0 dX4_pairs_5 rfl rfl ?_
    refine k_get (q := 9) (ci := 4) (v := .ref (a 1)) C 0 1 in4_X4_pairs rfl (List.mem_of_getElem? (i := 1) rfl) rfl rfl (by decide) rfl dX4_pairs_6 rfl ?_
    refine k_bipush (q := 11) (v := 8) C dX4_pairs_9 (by decide +kernel) rfl ?_
    refine k_iald (q := 12) C 1 rfl (vp_in_nI (n := 8) (by decide) (by decide)) dX4_pairs_11 rfl ?_
    refine k_st (st2 := (.int ((mSt n o h t s g kn lo lf nm) 8) :: _)) (congrArg (fun z => Value.int z :: _) (show (mSt n o h t s g kn lo lf nm) (8 : Int32).toNatClampNeg = (mSt n o h t s g kn lo lf nm) 8 from congrArg (mSt n o h t s g kn lo lf nm) (nI_clamp (n := 8) (by decide)))) ?_
    refine k_st (st2 := (.int (nI n) :: _)) (congrArg (fun z => Value.int z :: _) (show (mSt n o h t s g kn lo lf nm) 8 = nI n from rfl)) ?_
    refine k_nicmp_ge (a := k) (b := n)  (tgt := 52) (q := 15) C dX4_pairs_12 (by decide) rfl (by omega) (by omega) ?_ ?_
    · intro c_12
      obtain rfl : n = k := by omega
      refine k_iload_n (q := 53) C 2 dX4_pairs_52 rfl rfl ?_
      exact k_fin E dX4_pairs_53 (rfl) (rfl)
    · intro c_12
      refine k_iload_n (q := 16) C 2 dX4_pairs_15 rfl rfl ?_
      refine k_iload_n (q := 17) C 1 dX4_pairs_16 rfl rfl ?_
      refine k_ifB_eq (tgt := 31) (q := 20) C dX4_pairs_17 (by decide) rfl ?_ ?_
      · intro c_17
        refine k_aload_n (q := 32) C 0 dX4_pairs_31 rfl rfl ?_
        refine k_iload_n (q := 33) C 3 dX4_pairs_32 rfl rfl ?_
        refine k_callVI (n := 1) (q := 36) (pre := ([] : va_W)) (post := ([] : va_W)) (w2 := (wM a cy th sm ln pt sg fi se (mSt n o h t s g kn lo lf nm) sv sl ik bf co go fo)) (As := [.int (nI k)]) (rest := [.int (nI (sCnt (mCnt2 b (mLit o) h t s g) k))]) C (c_X4_isPair cy a th sm ln pt sg fi se n o h t s g kn lo lf nm sv sl ik bf co go fo k c_12 hn ho hla) gX4_pairs_X4_isPair rfl rfl rfl (by decide +kernel) (k_room hR (by decide)) ⟨Nat.zero_le _, Nat.zero_le _⟩ (ci := 4) rfl 0 rfl rfl rfl (Nat.le_of_ble_eq_true rfl) ((List.append_nil _).symm) (List.append_nil _) dX4_pairs_33 rfl ?_
        refine k_ifB_eq (tgt := 43) (q := 39) C dX4_pairs_36 (by decide) rfl ?_ ?_
        · intro c_36
          refine k_iconst (q := 44) (v := 0) C dX4_pairs_43 (by decide) rfl ?_
          refine k_iadd (q := 45) C dX4_pairs_44 rfl ?_
          refine k_st (st2 := (.int (nI (sCnt (mCnt2 b (mLit o) h t s g) k + 0)) :: _)) (congrArg (fun z => Value.int z :: _) (show (nI (sCnt (mCnt2 b (mLit o) h t s g) k)) + 0 = nI (sCnt (mCnt2 b (mLit o) h t s g) k + 0) from nI_add (sCnt (mCnt2 b (mLit o) h t s g) k) 0)) ?_
          refine k_istore_n (q := 46) (fr2 := [(2, .int (nI (sCnt (mCnt2 b (mLit o) h t s g) k + 0))), (0, .ref (a 0)), (1, .int (bI (b = true))), (3, .int (nI k))]) C dX4_pairs_45 (by decide) rfl rfl ?_
          refine k_iinc (q := 49) (v := nI (k + 1)) (fr2 := [(3, .int (nI (k + 1))), (2, .int (nI (sCnt (mCnt2 b (mLit o) h t s g) k + 0))), (0, .ref (a 0)), (1, .int (bI (b = true)))]) C 3 dX4_pairs_46 rfl (nI_add k 1) (by decide) rfl rfl ?_
          refine k_goto (q := 4) C dX4_pairs_49 (by decide) ?_
          refine k_fr (fr2 := [(0, .ref (a 0)), (1, .int (bI (b = true))), (2, .int (nI (sCnt (mCnt2 b (mLit o) h t s g) k + 0))), (3, .int (nI (k + 1)))]) ⟨[2, 3, 1, 0], rfl⟩ ?_
          have K := ih (k + 1) (by omega) (by omega)
          first | rw [sCnt_y (show mCnt2 b (mLit o) h t s g k = true by first | (unfold mCnt2; rw [if_pos c_17]; exact c_25) | (unfold mCnt2; rw [if_neg c_17]; exact c_36))] at K | rw [sCnt_n (show ¬ mCnt2 b (mLit o) h t s g k = true by first | (unfold mCnt2; rw [if_pos c_17]; exact c_25) | (unfold mCnt2; rw [if_neg c_17]; exact c_36))] at K
          exact K
        · intro c_36
          refine k_iconst (q := 40) (v := 1) C dX4_pairs_39 (by decide) rfl ?_
          refine k_goto (q := 44) C dX4_pairs_40 (by decide) ?_
          refine k_iadd (q := 45) C dX4_pairs_44 rfl ?_
          refine k_st (st2 := (.int (nI (sCnt (mCnt2 b (mLit o) h t s g) k + 1)) :: _)) (congrArg (fun z => Value.int z :: _) (show (nI (sCnt (mCnt2 b (mLit o) h t s g) k)) + 1 = nI (sCnt (mCnt2 b (mLit o) h t s g) k + 1) from nI_add (sCnt (mCnt2 b (mLit o) h t s g) k) 1)) ?_
          refine k_istore_n (q := 46) (fr2 := [(2, .int (nI (sCnt (mCnt2 b (mLit o) h t s g) k + 1))), (0, .ref (a 0)), (1, .int (bI (b = true))), (3, .int (nI k))]) C dX4_pairs_45 (by decide) rfl rfl ?_
          refine k_iinc (q := 49) (v := nI (k + 1)) (fr2 := [(3, .int (nI (k + 1))), (2, .int (nI (sCnt (mCnt2 b (mLit o) h t s g) k + 1))), (0, .ref (a 0)), (1, .int (bI (b = true)))]) C 3 dX4_pairs_46 rfl (nI_add k 1) (by decide) rfl rfl ?_
          refine k_goto (q := 4) C dX4_pairs_49 (by decide) ?_
          refine k_fr (fr2 := [(0, .ref (a 0)), (1, .int (bI (b = true))), (2, .int (nI (sCnt (mCnt2 b (mLit o) h t s g) k + 1))), (3, .int (nI (k + 1)))]) ⟨[2, 3, 1, 0], rfl⟩ ?_
          have K := ih (k + 1) (by omega) (by omega)
          first | rw [sCnt_y (show mCnt2 b (mLit o) h t s g k = true by first | (unfold mCnt2; rw [if_pos c_17]; exact c_25) | (unfold mCnt2; rw [if_neg c_17]; exact c_36))] at K | rw [sCnt_n (show ¬ mCnt2 b (mLit o) h t s g k = true by first | (unfold mCnt2; rw [if_pos c_17]; exact c_25) | (unfold mCnt2; rw [if_neg c_17]; exact c_36))] at K
          exact K
      · intro c_17
        refine k_aload_n (q := 21) C 0 dX4_pairs_20 rfl rfl ?_
        refine k_iload_n (q := 22) C 3 dX4_pairs_21 rfl rfl ?_
        refine k_callVI (n := 1) (q := 25) (pre := ([] : va_W)) (post := ([] : va_W)) (w2 := (wM a cy th sm ln pt sg fi se (mSt n o h t s g kn lo lf nm) sv sl ik bf co go fo)) (As := [.int (nI k)]) (rest := [.int (nI (sCnt (mCnt2 b (mLit o) h t s g) k))]) C (c_X4_isClose cy a th sm ln pt sg fi se n o h t s g kn lo lf nm sv sl ik bf co go fo k c_12 hn ho hla) gX4_pairs_X4_isClose rfl rfl rfl (by decide +kernel) (k_room hR (by decide)) ⟨Nat.zero_le _, Nat.zero_le _⟩ (ci := 4) rfl 0 rfl rfl rfl (Nat.le_of_ble_eq_true rfl) ((List.append_nil _).symm) (List.append_nil _) dX4_pairs_22 rfl ?_
        refine k_ifB_eq (tgt := 43) (q := 28) C dX4_pairs_25 (by decide) rfl ?_ ?_
        · intro c_25
          refine k_iconst (q := 44) (v := 0) C dX4_pairs_43 (by decide) rfl ?_
          refine k_iadd (q := 45) C dX4_pairs_44 rfl ?_
          refine k_st (st2 := (.int (nI (sCnt (mCnt2 b (mLit o) h t s g) k + 0)) :: _)) (congrArg (fun z => Value.int z :: _) (show (nI (sCnt (mCnt2 b (mLit o) h t s g) k)) + 0 = nI (sCnt (mCnt2 b (mLit o) h t s g) k + 0) from nI_add (sCnt (mCnt2 b (mLit o) h t s g) k) 0)) ?_
          refine k_istore_n (q := 46) (fr2 := [(2, .int (nI (sCnt (mCnt2 b (mLit o) h t s g) k + 0))), (0, .ref (a 0)), (1, .int (bI (b = true))), (3, .int (nI k))]) C dX4_pairs_45 (by decide) rfl rfl ?_
          refine k_iinc (q := 49) (v := nI (k + 1)) (fr2 := [(3, .int (nI (k + 1))), (2, .int (nI (sCnt (mCnt2 b (mLit o) h t s g) k + 0))), (0, .ref (a 0)), (1, .int (bI (b = true)))]) C 3 dX4_pairs_46 rfl (nI_add k 1) (by decide) rfl rfl ?_
          refine k_goto (q := 4) C dX4_pairs_49 (by decide) ?_
          refine k_fr (fr2 := [(0, .ref (a 0)), (1, .int (bI (b = true))), (2, .int (nI (sCnt (mCnt2 b (mLit o) h t s g) k + 0))), (3, .int (nI (k + 1)))]) ⟨[2, 3, 1, 0], rfl⟩ ?_
          have K := ih (k + 1) (by omega) (by omega)
          first | rw [sCnt_y (show mCnt2 b (mLit o) h t s g k = true by first | (unfold mCnt2; rw [if_pos c_17]; exact c_25) | (unfold mCnt2; rw [if_neg c_17]; exact c_36))] at K | rw [sCnt_n (show ¬ mCnt2 b (mLit o) h t s g k = true by first | (unfold mCnt2; rw [if_pos c_17]; exact c_25) | (unfold mCnt2; rw [if_neg c_17]; exact c_36))] at K
          exact K
        · intro c_25
          refine k_goto (q := 39) C dX4_pairs_28 (by decide) ?_
          refine k_iconst (q := 40) (v := 1) C dX4_pairs_39 (by decide) rfl ?_
          refine k_goto (q := 44) C dX4_pairs_40 (by decide) ?_
          refine k_iadd (q := 45) C dX4_pairs_44 rfl ?_
          refine k_st (st2 := (.int (nI (sCnt (mCnt2 b (mLit o) h t s g) k + 1)) :: _)) (congrArg (fun z => Value.int z :: _) (show (nI (sCnt (mCnt2 b (mLit o) h t s g) k)) + 1 = nI (sCnt (mCnt2 b (mLit o) h t s g) k + 1) from nI_add (sCnt (mCnt2 b (mLit o) h t s g) k) 1)) ?_
          refine k_istore_n (q := 46) (fr2 := [(2, .int (nI (sCnt (mCnt2 b (mLit o) h t s g) k + 1))), (0, .ref (a 0)), (1, .int (bI (b = true))), (3, .int (nI k))]) C dX4_pairs_45 (by decide) rfl rfl ?_
          refine k_iinc (q := 49) (v := nI (k + 1)) (fr2 := [(3, .int (nI (k + 1))), (2, .int (nI (sCnt (mCnt2 b (mLit o) h t s g) k + 1))), (0, .ref (a 0)), (1, .int (bI (b = true)))]) C 3 dX4_pairs_46 rfl (nI_add k 1) (by decide) rfl rfl ?_
          refine k_goto (q := 4) C dX4_pairs_49 (by decide) ?_
          refine k_fr (fr2 := [(0, .ref (a 0)), (1, .int (bI (b = true))), (2, .int (nI (sCnt (mCnt2 b (mLit o) h t s g) k + 1))), (3, .int (nI (k + 1)))]) ⟨[2, 3, 1, 0], rfl⟩ ?_
          have K := ih (k + 1) (by omega) (by omega)
          first | rw [sCnt_y (show mCnt2 b (mLit o) h t s g k = true by first | (unfold mCnt2; rw [if_pos c_17]; exact c_25) | (unfold mCnt2; rw [if_neg c_17]; exact c_36))] at K | rw [sCnt_n (show ¬ mCnt2 b (mLit o) h t s g k = true by first | (unfold mCnt2; rw [if_pos c_17]; exact c_25) | (unfold mCnt2; rw [if_neg c_17]; exact c_36))] at K
          exact K
set_option maxHeartbeats 4000000 in
set_option maxRecDepth 100000 in
theorem c_X4_pairs (cy : Nat → ClassId) (a : Nat → Nat) (th : Int32) (sm : Nat) (ln : Nat) (pt : Nat) (sg : Nat) (fi : Int32) (se : Int32) (n : Nat) (o : Nat → Int32) (h : Nat → Int32) (t : Nat → Int32) (s : Nat → Int32) (g : Nat → Int32) (kn : Nat) (lo : Int32) (lf : Int32) (nm : Nat → Int32) (sv : Nat → Int32) (sl : Nat → Int32) (ik : Nat → Int32) (bf : Nat → Nat) (co : Nat → Int32) (go : Nat → Int32) (fo : Nat → Int32) (b : Bool)  (hn : n ≤ 6) (ho : mBin o) (hla : mLaid n h t (g 1) co go) : kI yX4_pairs wsX4_pairs rm_X4_pairs cy [.ref (a 0), .int (bI (b = true))] (wM a cy th sm ln pt sg fi se (mSt n o h t s g kn lo lf nm) sv sl ik bf co go fo) (nI (sCnt (mCnt2 b (mLit o) h t s g) n)) (wM a cy th sm ln pt sg fi se (mSt n o h t s g kn lo lf nm) sv sl ik bf co go fo) := by
  refine kI_of (cc := cX4_pairs) (maxL := 4) (rt := .int) (by decide) rfl (rfl) (Nat.le_of_ble_eq_true rfl) ?_
  intro X hR C E
  have C : kC X 4 RX4 cX4_pairs wsX4_pairs cy := C
  refine k_fr (fr2 := [(0, .ref (a 0)), (1, .int (bI (b = true)))]) ⟨[0, 1], rfl⟩ ?_
  refine k_iconst (q := 1) (v := 0) C dX4_pairs_0 (by decide) rfl ?_
  refine k_istore_n (q := 2) (fr2 := [(2, .int 0), (0, .ref (a 0)), (1, .int (bI (b = true)))]) C dX4_pairs_1 (by decide) rfl rfl ?_
  refine k_iconst (q := 3) (v := 0) C dX4_pairs_2 (by decide) rfl ?_
  refine k_istore_n (q := 4) (fr2 := [(3, .int 0), (2, .int 0), (0, .ref (a 0)), (1, .int (bI (b = true)))]) C dX4_pairs_3 (by decide) rfl rfl ?_
  refine k_fr (fr2 := [(0, .ref (a 0)), (1, .int (bI (b = true))), (2, .int 0), (3, .int 0)]) ⟨[2, 3, 1, 0], rfl⟩ ?_
  exact lp_X4_pairs_4 cy a th sm ln pt sg fi se n o h t s g kn lo lf nm sv sl ik bf co go fo b hn ho hla X hR C E _ 0 (Nat.lt_succ_self _) (by omega)
