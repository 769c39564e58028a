abbrev rm_X2_pairLayers : Room := { frames := 2, cells := 0, slots := 0, locals := 50 }
theorem in2_X2_pairLayers : ∀ w ∈ wsX20, w ∈ wsX2_pairLayers := fun _ h => (List.mem_cons_of_mem _ (List.mem_append_right _ h))
set_option maxHeartbeats 4000000 in
set_option maxRecDepth 100000 in
theorem c_X2_pairLayers (cy : Nat → ClassId) (a : Nat → Nat) (n : Nat) (lit : Int32) (h : Nat → Int32) (t : Nat → Int32) (s : Nat → Int32) (g : Nat → Int32) (kn : Nat) (lo : Int32) (lf : Int32) (nm : Nat → Int32)  (hn : n ≤ 6) : kI yX2_pairLayers wsX2_pairLayers rm_X2_pairLayers cy [.ref (a 0)] (wSky a cy n lit h t s g kn lo lf nm) (nI (sPm lit h t g n)) (wSky a cy n lit h t s g kn lo lf nm) := by
  refine kI_of (cc := cX2_pairLayers) (maxL := 1) (rt := .int) (by decide) rfl (rfl) (Nat.le_of_ble_eq_true rfl) ?_
  intro X hR C E
  have C : kC X 1 RX2 cX2_pairLayers wsX2_pairLayers cy := C
  refine k_fr (fr2 := [(0, .ref (a 0))]) ⟨[0], rfl⟩ ?_
  refine k_aload_n (q := 1) C 0 dX2_pairLayers_0 rfl rfl ?_
  refine k_get (q := 4) (ci := 2) (v := .int lit) C 0 5 in2_X2_pairLayers rfl (List.mem_of_getElem? (i := 1) rfl) rfl rfl (by decide) rfl dX2_pairLayers_1 rfl ?_
  refine k_iconst (q := 5) (v := 3) C dX2_pairLayers_4 (by decide) rfl ?_
  refine k_icmp_ne (tgt := 21) (q := 8) C dX2_pairLayers_5 (by decide) rfl ?_ ?_
  · intro c_5
    refine k_iconst (q := 22) (v := 0) C dX2_pairLayers_21 (by decide) rfl ?_
    exact k_fin E dX2_pairLayers_22 (by first | (simp only [sPm, if_pos c_5]; done) | (simp only [sPm, if_neg c_5]; rfl)) (rfl)
  · intro c_5
    refine k_aload_n (q := 9) C 0 dX2_pairLayers_8 rfl rfl ?_
    refine k_aload_n (q := 10) C 0 dX2_pairLayers_9 rfl rfl ?_
    refine k_get (q := 13) (ci := 2) (v := .ref (a 4)) C 0 4 in2_X2_pairLayers rfl (List.mem_of_getElem? (i := 2) rfl) rfl rfl (by decide) rfl dX2_pairLayers_10 rfl ?_
    refine k_iconst (q := 14) (v := 1) C dX2_pairLayers_13 (by decide) rfl ?_
    refine k_iald (q := 15) C 4 rfl (vp_in_nI (n := 1) (by decide) (by decide)) dX2_pairLayers_14 rfl ?_
    refine k_st (st2 := (.int (g 1) :: _)) (congrArg (fun z => Value.int z :: _) (show g (1 : Int32).toNatClampNeg = g 1 from congrArg g (nI_clamp (n := 1) (by decide)))) ?_
    refine k_callVI (n := 1) (q := 18) (pre := ([] : va_W)) (post := ([] : va_W)) (w2 := (wSky a cy n lit h t s g kn lo lf nm)) (As := [.int (g 1)]) (rest := []) C (c_X2_seenLayers cy a n lit h t s g kn lo lf nm (g 1) (by omega)) gX2_pairLayers_X2_seenLayers rfl rfl rfl (by decide +kernel) (k_room hR (by decide)) ⟨Nat.zero_le _, Nat.zero_le _⟩ (ci := 2) rfl 0 rfl rfl rfl (Nat.le_of_ble_eq_true rfl) ((List.append_nil _).symm) (List.append_nil _) dX2_pairLayers_15 rfl ?_
    refine k_goto (q := 22) C dX2_pairLayers_18 (by decide) ?_
    exact k_fin E dX2_pairLayers_22 (by first | (simp only [sPm, if_pos c_5]; done) | (simp only [sPm, if_neg c_5]; rfl)) (rfl)
abbrev rm_X2_hasPair : Room := { frames := 3, cells := 0, slots := 0, locals := 70 }
theorem in2_X2_hasPair : ∀ w ∈ wsX20, w ∈ wsX2_hasPair := fun _ h => (List.mem_cons_of_mem _ (List.mem_append_right _ h))
set_option maxHeartbeats 4000000 in
set_option maxRecDepth 100000 in
theorem c_X2_hasPair (cy : Nat → ClassId) (a : Nat → Nat) (n : Nat) (lit : Int32) (h : Nat → Int32) (t : Nat → Int32) (s : Nat → Int32) (g : Nat → Int32) (kn : Nat) (lo : Int32) (lf : Int32) (nm : Nat → Int32) (p : Nat)  (hn : n ≤ 6) (hp : p < n) : kI yX2_hasPair wsX2_hasPair rm_X2_hasPair cy [.ref (a 0), .int (nI p)] (wSky a cy n lit h t s g kn lo lf nm) (bI (sPair lit h t g p = true)) (wSky a cy n lit h t s g kn lo lf nm) := by
  refine kI_of (cc := cX2_hasPair) (maxL := 2) (rt := .boolean) (by decide) rfl (kb_nar _) (Nat.le_of_ble_eq_true rfl) ?_
  intro X hR C E
  have C : kC X 2 RX2 cX2_hasPair wsX2_hasPair cy := C
  refine k_fr (fr2 := [(0, .ref (a 0)), (1, .int (nI p))]) ⟨[0, 1], rfl⟩ ?_
  refine k_aload_n (q := 1) C 0 dX2_hasPair_0 rfl rfl ?_
  refine k_callVI (n := 0) (q := 4) (pre := ([] : va_W)) (post := ([] : va_W)) (w2 := (wSky a cy n lit h t s g kn lo lf nm)) (As := []) (rest := []) C (c_X2_pairLayers cy a n lit h t s g kn lo lf nm (by omega)) gX2_hasPair_X2_pairLayers rfl rfl rfl (by decide +kernel) (k_room hR (by decide)) ⟨Nat.zero_le _, Nat.zero_le _⟩ (ci := 2) rfl 0 rfl rfl rfl (Nat.le_of_ble_eq_true rfl) ((List.append_nil _).symm) (List.append_nil _) dX2_hasPair_1 rfl ?_
  refine k_iload_n (q := 5) C 1 dX2_hasPair_4 rfl rfl ?_
  refine k_ishr (q := 6) C dX2_hasPair_5 rfl ?_
  refine k_iconst (q := 7) (v := 1) C dX2_hasPair_6 (by decide) rfl ?_
  refine k_iand (q := 8) C dX2_hasPair_7 rfl ?_
  refine k_iconst (q := 9) (v := 1) C dX2_hasPair_8 (by decide) rfl ?_
  refine k_icmp_ne (tgt := 16) (q := 12) C dX2_hasPair_9 (by decide) rfl ?_ ?_
  · intro c_9
    refine k_iconst (q := 17) (v := 0) C dX2_hasPair_16 (by decide) rfl ?_
    exact k_fin E dX2_hasPair_17 (by first | exact bI_t ((sPair_iff hn hp).mp c_9) | exact bI_f (fun q => c_9 ((sPair_iff hn hp).mpr q))) (rfl)
  · intro c_9
    refine k_iconst (q := 13) (v := 1) C dX2_hasPair_12 (by decide) rfl ?_
    refine k_goto (q := 17) C dX2_hasPair_13 (by decide) ?_
    exact k_fin E dX2_hasPair_17 (by first | exact bI_t ((sPair_iff hn hp).mp c_9) | exact bI_f (fun q => c_9 ((sPair_iff hn hp).mpr q))) (rfl)
abbrev rm_X2_hasClosePair : Room := { frames := 4, cells := 0, slots := 0, locals := 91 }
theorem in2_X2_hasClosePair : ∀ w ∈ wsX20, w ∈ wsX2_hasClosePair := fun _ h => (List.mem_cons_of_mem _ (List.mem_append_right _ h))
set_option maxHeartbeats 4000000 in
set_option maxRecDepth 100000 in
theorem c_X2_hasClosePair (cy : Nat → ClassId) (a : Nat → Nat) (n : Nat) (lit : Int32) (h : Nat → Int32) (t : Nat → Int32) (s : Nat → Int32) (g : Nat → Int32) (kn : Nat) (lo : Int32) (lf : Int32) (nm : Nat → Int32) (p : Nat)  (hn : n ≤ 6) (hp : p < n) : kI yX2_hasClosePair wsX2_hasClosePair rm_X2_hasClosePair cy [.ref (a 0), .int (nI p)] (wSky a cy n lit h t s g kn lo lf nm) (bI (sClose lit h t s g p = true)) (wSky a cy n lit h t s g kn lo lf nm) := by
  refine kI_of (cc := cX2_hasClosePair) (maxL := 2) (rt := .boolean) (by decide) rfl (kb_nar _) (Nat.le_of_ble_eq_true rfl) ?_
  intro X hR C E
  have C : kC X 2 RX2 cX2_hasClosePair wsX2_hasClosePair cy := C
  refine k_fr (fr2 := [(0, .ref (a 0)), (1, .int (nI p))]) ⟨[0, 1], rfl⟩ ?_
  refine k_aload_n (q := 1) C 0 dX2_hasClosePair_0 rfl rfl ?_
  refine k_iload_n (q := 2) C 1 dX2_hasClosePair_1 rfl rfl ?_
  refine k_callVI (n := 1) (q := 5) (pre := ([] : va_W)) (post := ([] : va_W)) (w2 := (wSky a cy n lit h t s g kn lo lf nm)) (As := [.int (nI p)]) (rest := []) C (c_X2_hasPair cy a n lit h t s g kn lo lf nm p (by omega) (by omega)) gX2_hasClosePair_X2_hasPair rfl rfl rfl (by decide +kernel) (k_room hR (by decide)) ⟨Nat.zero_le _, Nat.zero_le _⟩ (ci := 2) rfl 0 rfl rfl rfl (Nat.le_of_ble_eq_true rfl) ((List.append_nil _).symm) (List.append_nil _) dX2_hasClosePair_2 rfl ?_
  refine k_ifB_eq (tgt := 29) (q := 8) C dX2_hasClosePair_5 (by decide) rfl ?_ ?_
  · intro c_5
    refine k_iconst (q := 30) (v := 0) C dX2_hasClosePair_29 (by decide) rfl ?_
    exact k_fin E dX2_hasClosePair_30 (by first | exact bI_f (fun q => c_5 (sClose_1 q)) | exact bI_f (fun q => Int32.not_le.mpr c_22 (sClose_2 q)) | exact bI_t (sClose_i c_5 (Int32.not_lt.mp c_22))) (rfl)
  · intro c_5
    refine k_aload_n (q := 9) C 0 dX2_hasClosePair_8 rfl rfl ?_
    refine k_iload_n (q := 10) C 1 dX2_hasClosePair_9 rfl rfl ?_
    refine k_callVI (n := 1) (q := 13) (pre := ([] : va_W)) (post := ([] : va_W)) (w2 := (wSky a cy n lit h t s g kn lo lf nm)) (As := [.int (nI p)]) (rest := []) C (c_X2_distance cy a n lit h t s g kn lo lf nm p (by omega)) gX2_hasClosePair_X2_distance rfl rfl rfl (by decide +kernel) (k_room hR (by decide)) ⟨Nat.zero_le _, Nat.zero_le _⟩ (ci := 2) rfl 0 rfl rfl rfl (Nat.le_of_ble_eq_true rfl) ((List.append_nil _).symm) (List.append_nil _) dX2_hasClosePair_10 rfl ?_
    refine k_mabs (q := 16) C (List.mem_of_getElem? (i := 1) rfl) (List.mem_of_getElem? (i := 2) rfl) (List.mem_of_getElem? (i := 3) rfl) (List.mem_of_getElem? (i := 4) rfl) (k_roomM hR (by decide)) (Nat.le_of_ble_eq_true rfl) dX2_hasClosePair_13 rfl ?_
    refine k_aload_n (q := 17) C 0 dX2_hasClosePair_16 rfl rfl ?_
    refine k_get (q := 20) (ci := 2) (v := .ref (a 4)) C 0 4 in2_X2_hasClosePair rfl (List.mem_of_getElem? (i := 5) rfl) rfl rfl (by decide) rfl dX2_hasClosePair_17 rfl ?_
    refine k_iconst (q := 21) (v := 3) C dX2_hasClosePair_20 (by decide) rfl ?_
    refine k_iald (q := 22) C 4 rfl (vp_in_nI (n := 3) (by decide) (by decide)) dX2_hasClosePair_21 rfl ?_
    refine k_st (st2 := (.int (g 3) :: _)) (congrArg (fun z => Value.int z :: _) (show g (3 : Int32).toNatClampNeg = g 3 from congrArg g (nI_clamp (n := 3) (by decide)))) ?_
    refine k_icmp_gt (tgt := 29) (q := 25) C dX2_hasClosePair_22 (by decide) rfl ?_ ?_
    · intro c_22
      refine k_iconst (q := 30) (v := 0) C dX2_hasClosePair_29 (by decide) rfl ?_
      exact k_fin E dX2_hasClosePair_30 (by first | exact bI_f (fun q => c_5 (sClose_1 q)) | exact bI_f (fun q => Int32.not_le.mpr c_22 (sClose_2 q)) | exact bI_t (sClose_i c_5 (Int32.not_lt.mp c_22))) (rfl)
    · intro c_22
      refine k_iconst (q := 26) (v := 1) C dX2_hasClosePair_25 (by decide) rfl ?_
      refine k_goto (q := 30) C dX2_hasClosePair_26 (by decide) ?_
      exact k_fin E dX2_hasClosePair_30 (by first | exact bI_f (fun q => c_5 (sClose_1 q)) | exact bI_f (fun q => Int32.not_le.mpr c_22 (sClose_2 q)) | exact bI_t (sClose_i c_5 (Int32.not_lt.mp c_22))) (rfl)
abbrev rm_X2_closePairs : Room := { frames := 5, cells := 0, slots := 0, locals := 112 }
theorem in2_X2_closePairs : ∀ w ∈ wsX20, w ∈ wsX2_closePairs := fun _ h => (List.mem_cons_of_mem _ (List.mem_append_right _ h))
set_option maxHeartbeats 4000000 in
set_option maxRecDepth 100000 in
theorem lp_X2_closePairs_4 (cy : Nat → ClassId) (a : Nat → Nat) (n : Nat) (lit : Int32) (h : Nat → Int32) (t : Nat → Int32) (s : Nat → Int32) (g : Nat → Int32) (kn : Nat) (lo : Int32) (lf : Int32) (nm : Nat → Int32)  (hn : n ≤ 6) (X : kX) (hR : xR X = rm_X2_closePairs) (C : kC X 3 RX2 cX2_closePairs wsX2_closePairs cy) (E : kEnd X 3 cX2_closePairs (nI (sCnt (sClose lit h t s g) n)) (wSky a cy n lit h t s g kn lo lf nm)) : ∀ (fu : Nat) (k : Nat), n - k < fu → (k ≤ n) → kG X 3 0 0 (wSky a cy n lit h t s g kn lo lf nm) 4 [(0, .ref (a 0)), (1, .int (nI (sCnt (sClose lit h t s g) k))), (2, .int (nI k))] [] := by
  intro fu
  induction fu with
  | zero => intro k hfu; exact absurd hfu (Nat.not_lt_zero _)
  | succ fu ih =>
    intro k hfu hk
    refine k_iload_n (q := 5) C 2 dX2_closePairs_4 rfl rfl ?_
    refine k_aload_n (q := 6) C 0 dX2_closePairs_5 rfl rfl ?_
    refine k_get (q := 9) (ci := 2) (v := .int (nI n)) C 0 0 in2_X2_closePairs rfl (List.mem_of_getElem? (i := 1) rfl) rfl rfl (by decide) rfl dX2_closePairs_6 rfl ?_
    refine k_nicmp_ge (a := k) (b := n)  (tgt := 29) (q := 12) C dX2_closePairs_9 (by decide) rfl (by omega) (by omega) ?_ ?_
    · intro c_9
      obtain rfl : n = k := by omega
      refine k_iload_n (q := 30) C 1 dX2_closePairs_29 rfl rfl ?_
      exact k_fin E dX2_closePairs_30 (rfl) (rfl)
    · intro c_9
      refine k_aload_n (q := 13) C 0 dX2_closePairs_12 rfl rfl ?_
      refine k_iload_n (q := 14) C 2 dX2_closePairs_13 rfl rfl ?_
      refine k_callVI (n := 1) (q := 17) (pre := ([] : va_W)) (post := ([] : va_W)) (w2 := (wSky a cy n lit h t s g kn lo lf nm)) (As := [.int (nI k)]) (rest := []) C (c_X2_hasClosePair cy a n lit h t s g kn lo lf nm k (by omega) (by omega)) gX2_closePairs_X2_hasClosePair rfl rfl rfl (by decide +kernel) (k_room hR (by decide)) ⟨Nat.zero_le _, Nat.zero_le _⟩ (ci := 2) rfl 0 rfl rfl rfl (Nat.le_of_ble_eq_true rfl) ((List.append_nil _).symm) (List.append_nil _) dX2_closePairs_14 rfl ?_
      refine k_ifB_eq (tgt := 23) (q := 20) C dX2_closePairs_17 (by decide) rfl ?_ ?_
      · intro c_17
        refine k_iinc (q := 26) (v := nI (k + 1)) (fr2 := [(2, .int (nI (k + 1))), (0, .ref (a 0)), (1, .int (nI (sCnt (sClose lit h t s g) k)))]) C 2 dX2_closePairs_23 rfl (nI_add k 1) (by decide) rfl rfl ?_
        refine k_goto (q := 4) C dX2_closePairs_26 (by decide) ?_
        refine k_fr (fr2 := [(0, .ref (a 0)), (1, .int (nI (sCnt (sClose lit h t s g) k))), (2, .int (nI (k + 1)))]) ⟨[1, 2, 0], rfl⟩ ?_
        have K := ih (k + 1) (by omega) (by omega)
        first | rw [sCnt_n c_17] at K | rw [sCnt_y c_17] at K
        exact K
      · intro c_17
        refine k_iinc (q := 23) (v := nI (sCnt (sClose lit h t s g) k + 1)) (fr2 := [(1, .int (nI (sCnt (sClose lit h t s g) k + 1))), (0, .ref (a 0)), (2, .int (nI k))]) C 1 dX2_closePairs_20 rfl (nI_add (sCnt (sClose lit h t s g) k) 1) (by decide) rfl rfl ?_
        refine k_iinc (q := 26) (v := nI (k + 1)) (fr2 := [(2, .int (nI (k + 1))), (1, .int (nI (sCnt (sClose lit h t s g) k + 1))), (0, .ref (a 0))]) C 2 dX2_closePairs_23 rfl (nI_add k 1) (by decide) rfl rfl ?_
        refine k_goto (q := 4) C dX2_closePairs_26 (by decide) ?_
        refine k_fr (fr2 := [(0, .ref (a 0)), (1, .int (nI (sCnt (sClose lit h t s g) k + 1))), (2, .int (nI (k + 1)))]) ⟨[2, 1, 0], rfl⟩ ?_
        have K := ih (k + 1) (by omega) (by omega)
        first | rw [sCnt_n c_17] at K | rw [sCnt_y c_17] at K
        exact K
set_option maxHeartbeats 4000000 in
set_option maxRecDepth 100000 in
theorem c_X2_closePairs (cy : Nat → ClassId) (a : Nat → Nat) (n : Nat) (lit : Int32) (h : Nat → Int32) (t : Nat → Int32) (s : Nat → Int32) (g : Nat → Int32) (kn : Nat) (lo : Int32) (lf : Int32) (nm : Nat → Int32)  (hn : n ≤ 6) : kI yX2_closePairs wsX2_closePairs rm_X2_closePairs cy [.ref (a 0)] (wSky a cy n lit h t s g kn lo lf nm) (nI (sCnt (sClose lit h t s g) n)) (wSky a cy n lit h t s g kn lo lf nm) := by
  refine kI_of (cc := cX2_closePairs) (maxL := 3) (rt := .int) (by decide) rfl (rfl) (Nat.le_of_ble_eq_true rfl) ?_
  intro X hR C E
  have C : kC X 3 RX2 cX2_closePairs wsX2_closePairs cy := C
  refine k_fr (fr2 := [(0, .ref (a 0))]) ⟨[0], rfl⟩ ?_
  refine k_iconst (q := 1) (v := 0) C dX2_closePairs_0 (by decide) rfl ?_
  refine k_istore_n (q := 2) (fr2 := [(1, .int 0), (0, .ref (a 0))]) C dX2_closePairs_1 (by decide) rfl rfl ?_
  refine k_iconst (q := 3) (v := 0) C dX2_closePairs_2 (by decide) rfl ?_
  refine k_istore_n (q := 4) (fr2 := [(2, .int 0), (1, .int 0), (0, .ref (a 0))]) C dX2_closePairs_3 (by decide) rfl rfl ?_
  refine k_fr (fr2 := [(0, .ref (a 0)), (1, .int 0), (2, .int 0)]) ⟨[2, 1, 0], rfl⟩ ?_
  exact lp_X2_closePairs_4 cy a n lit h t s g kn lo lf nm hn X hR C E _ 0 (Nat.lt_succ_self _) (by omega)
abbrev rm_X2_layerOfReading : Room := { frames := 2, cells := 0, slots := 0, locals := 50 }
theorem in2_X2_layerOfReading : ∀ w ∈ wsX20, w ∈ wsX2_layerOfReading := fun _ h => (List.mem_cons_of_mem _ (List.mem_append_right _ h))
set_option maxHeartbeats 4000000 in
set_option maxRecDepth 100000 in
theorem lp_X2_layerOfReading_42 (cy : Nat → ClassId) (a : Nat → Nat) (n : Nat) (lit : Int32) (h : Nat → Int32) (t : Nat → Int32) (s : Nat → Int32) (g : Nat → Int32) (kn : Nat) (lo : Int32) (lf : Int32) (nm : Nat → Int32) (x : Int32) (y : Int32)  (hn : n ≤ 6) (X : kX) (hR : xR X = rm_X2_layerOfReading) (C : kC X 8 RX2 cX2_layerOfReading wsX2_layerOfReading cy) (E : kEnd X 8 cX2_layerOfReading (sRl lit h t g n x y) (wSky a cy n lit h t s g kn lo lf nm)) : ∀ (fu : Nat) (k : Nat), n - k < fu → (k ≤ n) → (y < x) → (lit = 3) → kG X 8 0 0 (wSky a cy n lit h t s g kn lo lf nm) 42 [(0, .ref (a 0)), (1, .int x), (2, .int y), (3, .int (nI (sMask h t g (g 1) n))), (4, .int (sLo h t g x y k).1), (5, .int (sLo h t g x y k).2), (6, .int (nI k))] [] := by
  intro fu
  induction fu with
  | zero => intro k hfu; exact absurd hfu (Nat.not_lt_zero _)
  | succ fu ih =>
    intro k hfu hk hx hl
    refine k_iload (q := 44) C 6 dX2_layerOfReading_42 rfl rfl ?_
    refine k_aload_n (q := 45) C 0 dX2_layerOfReading_44 rfl rfl ?_
    refine k_get (q := 48) (ci := 2) (v := .int (nI n)) C 0 0 in2_X2_layerOfReading rfl (List.mem_of_getElem? (i := 3) rfl) rfl rfl (by decide) rfl dX2_layerOfReading_45 rfl ?_
    refine k_nicmp_ge (a := k) (b := n)  (tgt := 95) (q := 51) C dX2_layerOfReading_48 (by decide) rfl (by omega) (by omega) ?_ ?_
    · intro c_48
      obtain rfl : n = k := by omega
      refine k_iload (q := 97) C 4 dX2_layerOfReading_95 rfl rfl ?_
      exact k_fin E dX2_layerOfReading_97 ((if_pos ⟨hx, hl⟩).symm) (rfl)
    · intro c_48
      refine k_aload_n (q := 52) C 0 dX2_layerOfReading_51 rfl rfl ?_
      refine k_iload (q := 54) C 6 dX2_layerOfReading_52 rfl rfl ?_
      refine k_iload_n (q := 55) C 1 dX2_layerOfReading_54 rfl rfl ?_
      refine k_iload_n (q := 56) C 2 dX2_layerOfReading_55 rfl rfl ?_
      refine k_callVI (n := 3) (q := 59) (pre := ([] : va_W)) (post := ([] : va_W)) (w2 := (wSky a cy n lit h t s g kn lo lf nm)) (As := [.int (nI k), .int x, .int y]) (rest := []) C (c_X2_distanceWith cy a n lit h t s g kn lo lf nm k x y (by omega)) gX2_layerOfReading_X2_distanceWith rfl rfl rfl (by decide +kernel) (k_room hR (by decide)) ⟨Nat.zero_le _, Nat.zero_le _⟩ (ci := 2) rfl 0 rfl rfl rfl (Nat.le_of_ble_eq_true rfl) ((List.append_nil _).symm) (List.append_nil _) dX2_layerOfReading_56 rfl ?_
      refine k_mabs (q := 62) C (List.mem_of_getElem? (i := 4) rfl) (List.mem_of_getElem? (i := 5) rfl) (List.mem_of_getElem? (i := 6) rfl) (List.mem_of_getElem? (i := 7) rfl) (k_roomM hR (by decide)) (Nat.le_of_ble_eq_true rfl) dX2_layerOfReading_59 rfl ?_
      refine k_istore (q := 64) (fr2 := [(7, .int (mAbs (sDist h g k x y))), (0, .ref (a 0)), (1, .int x), (2, .int y), (3, .int (nI (sMask h t g (g 1) n))), (4, .int (sLo h t g x y k).1), (5, .int (sLo h t g x y k).2), (6, .int (nI k))]) C dX2_layerOfReading_62 (by decide) rfl rfl ?_
      refine k_iload (q := 66) C 0 dX2_layerOfReading_64 rfl rfl ?_
      refine k_iload (q := 68) C 6 dX2_layerOfReading_66 rfl rfl ?_
      refine k_icmp_ge (tgt := 89) (q := 71) C dX2_layerOfReading_68 (by decide) rfl ?_ ?_
      · intro c_68
        refine k_iinc (q := 92) (v := nI (k + 1)) (fr2 := [(6, .int (nI (k + 1))), (7, .int (mAbs (sDist h g k x y))), (0, .ref (a 0)), (1, .int x), (2, .int y), (3, .int (nI (sMask h t g (g 1) n))), (4, .int (sLo h t g x y k).1), (5, .int (sLo h t g x y k).2)]) C 7 dX2_layerOfReading_89 rfl (nI_add k 1) (by decide) rfl rfl ?_
        refine k_goto (q := 42) C dX2_layerOfReading_92 (by decide) ?_
        refine k_fr (fr2 := [(0, .ref (a 0)), (1, .int x), (2, .int y), (3, .int (nI (sMask h t g (g 1) n))), (4, .int (sLo h t g x y k).1), (5, .int (sLo h t g x y k).2), (6, .int (nI (k + 1)))]) ⟨[2, 3, 4, 5, 6, 7, 0], rfl⟩ ?_
        have K := ih (k + 1) (by omega) (by omega) hx hl
        first | rw [sLo_n1 c_68] at K | rw [sLo_n2 (fun q => c_78 ((sMask_bit hn c_48).mpr q))] at K | rw [sLo_y (Int32.not_le.mp c_68) ((sMask_bit hn c_48).mp c_78)] at K
        exact K
      · intro c_68
        refine k_iload_n (q := 72) C 4 dX2_layerOfReading_71 rfl rfl ?_
        refine k_iload (q := 74) C 7 dX2_layerOfReading_72 rfl rfl ?_
        refine k_ishr (q := 75) C dX2_layerOfReading_74 rfl ?_
        refine k_iconst (q := 76) (v := 1) C dX2_layerOfReading_75 (by decide) rfl ?_
        refine k_iand (q := 77) C dX2_layerOfReading_76 rfl ?_
        refine k_iconst (q := 78) (v := 1) C dX2_layerOfReading_77 (by decide) rfl ?_
        refine k_icmp_ne (tgt := 89) (q := 81) C dX2_layerOfReading_78 (by decide) rfl ?_ ?_
        · intro c_78
          refine k_iinc (q := 92) (v := nI (k + 1)) (fr2 := [(6, .int (nI (k + 1))), (7, .int (mAbs (sDist h g k x y))), (0, .ref (a 0)), (1, .int x), (2, .int y), (3, .int (nI (sMask h t g (g 1) n))), (4, .int (sLo h t g x y k).1), (5, .int (sLo h t g x y k).2)]) C 7 dX2_layerOfReading_89 rfl (nI_add k 1) (by decide) rfl rfl ?_
          refine k_goto (q := 42) C dX2_layerOfReading_92 (by decide) ?_
          refine k_fr (fr2 := [(0, .ref (a 0)), (1, .int x), (2, .int y), (3, .int (nI (sMask h t g (g 1) n))), (4, .int (sLo h t g x y k).1), (5, .int (sLo h t g x y k).2), (6, .int (nI (k + 1)))]) ⟨[2, 3, 4, 5, 6, 7, 0], rfl⟩ ?_
          have K := ih (k + 1) (by omega) (by omega) hx hl
          first | rw [sLo_n1 c_68] at K | rw [sLo_n2 (fun q => c_78 ((sMask_bit hn c_48).mpr q))] at K | rw [sLo_y (Int32.not_le.mp c_68) ((sMask_bit hn c_48).mp c_78)] at K
          exact K
        · intro c_78
          refine k_iload (q := 83) C 7 dX2_layerOfReading_81 rfl rfl ?_
          refine k_istore (q := 85) (fr2 := [(4, .int (nI k)), (7, .int (mAbs (sDist h g k x y))), (0, .ref (a 0)), (1, .int x), (2, .int y), (3, .int (nI (sMask h t g (g 1) n))), (5, .int (sLo h t g x y k).2), (6, .int (nI k))]) C dX2_layerOfReading_83 (by decide) rfl rfl ?_
          refine k_iload (q := 87) C 1 dX2_layerOfReading_85 rfl rfl ?_
          refine k_istore (q := 89) (fr2 := [(5, .int (mAbs (sDist h g k x y))), (4, .int (nI k)), (7, .int (mAbs (sDist h g k x y))), (0, .ref (a 0)), (1, .int x), (2, .int y), (3, .int (nI (sMask h t g (g 1) n))), (6, .int (nI k))]) C dX2_layerOfReading_87 (by decide) rfl rfl ?_
          refine k_iinc (q := 92) (v := nI (k + 1)) (fr2 := [(6, .int (nI (k + 1))), (5, .int (mAbs (sDist h g k x y))), (4, .int (nI k)), (7, .int (mAbs (sDist h g k x y))), (0, .ref (a 0)), (1, .int x), (2, .int y), (3, .int (nI (sMask h t g (g 1) n)))]) C 7 dX2_layerOfReading_89 rfl (nI_add k 1) (by decide) rfl rfl ?_
          refine k_goto (q := 42) C dX2_layerOfReading_92 (by decide) ?_
          refine k_fr (fr2 := [(0, .ref (a 0)), (1, .int x), (2, .int y), (3, .int (nI (sMask h t g (g 1) n))), (4, .int (nI k)), (5, .int (mAbs (sDist h g k x y))), (6, .int (nI (k + 1)))]) ⟨[4, 5, 6, 7, 2, 1, 0], rfl⟩ ?_
          have K := ih (k + 1) (by omega) (by omega) hx hl
          first | rw [sLo_n1 c_68] at K | rw [sLo_n2 (fun q => c_78 ((sMask_bit hn c_48).mpr q))] at K | rw [sLo_y (Int32.not_le.mp c_68) ((sMask_bit hn c_48).mp c_78)] at K
          exact K
set_option maxHeartbeats 4000000 in
set_option maxRecDepth 100000 in
theorem c_X2_layerOfReading (cy : Nat → ClassId) (a : Nat → Nat) (n : Nat) (lit : Int32) (h : Nat → Int32) (t : Nat → Int32) (s : Nat → Int32) (g : Nat → Int32) (kn : Nat) (lo : Int32) (lf : Int32) (nm : Nat → Int32) (x : Int32) (y : Int32)  (hn : n ≤ 6) : kI yX2_layerOfReading wsX2_layerOfReading rm_X2_layerOfReading cy [.ref (a 0), .int x, .int y] (wSky a cy n lit h t s g kn lo lf nm) (sRl lit h t g n x y) (wSky a cy n lit h t s g kn lo lf nm) := by
  refine kI_of (cc := cX2_layerOfReading) (maxL := 8) (rt := .int) (by decide) rfl (rfl) (Nat.le_of_ble_eq_true rfl) ?_
  intro X hR C E
  have C : kC X 8 RX2 cX2_layerOfReading wsX2_layerOfReading cy := C
  refine k_fr (fr2 := [(0, .ref (a 0)), (1, .int x), (2, .int y)]) ⟨[0, 1, 2], rfl⟩ ?_
  refine k_iload_n (q := 1) C 1 dX2_layerOfReading_0 rfl rfl ?_
  refine k_iload_n (q := 2) C 2 dX2_layerOfReading_1 rfl rfl ?_
  refine k_icmp_le (tgt := 13) (q := 5) C dX2_layerOfReading_2 (by decide) rfl ?_ ?_
  · intro c_2
    refine k_iconst (q := 14) (v := -1) C dX2_layerOfReading_13 (by decide) rfl ?_
    exact k_fin E dX2_layerOfReading_14 (by first | exact (if_neg (fun q => not_lt_of_le32 c_2 q.1)).symm | exact (if_neg (fun q => c_10 q.2)).symm) (rfl)
  · intro c_2
    refine k_aload_n (q := 6) C 0 dX2_layerOfReading_5 rfl rfl ?_
    refine k_get (q := 9) (ci := 2) (v := .int lit) C 0 5 in2_X2_layerOfReading rfl (List.mem_of_getElem? (i := 1) rfl) rfl rfl (by decide) rfl dX2_layerOfReading_6 rfl ?_
    refine k_iconst (q := 10) (v := 3) C dX2_layerOfReading_9 (by decide) rfl ?_
    refine k_icmp_eq (tgt := 15) (q := 13) C dX2_layerOfReading_10 (by decide) rfl ?_ ?_
    · intro c_10
      refine k_aload_n (q := 16) C 0 dX2_layerOfReading_15 rfl rfl ?_
      refine k_aload_n (q := 17) C 0 dX2_layerOfReading_16 rfl rfl ?_
      refine k_get (q := 20) (ci := 2) (v := .ref (a 4)) C 0 4 in2_X2_layerOfReading rfl (List.mem_of_getElem? (i := 2) rfl) rfl rfl (by decide) rfl dX2_layerOfReading_17 rfl ?_
      refine k_iconst (q := 21) (v := 1) C dX2_layerOfReading_20 (by decide) rfl ?_
      refine k_iald (q := 22) C 4 rfl (vp_in_nI (n := 1) (by decide) (by decide)) dX2_layerOfReading_21 rfl ?_
      refine k_st (st2 := (.int (g 1) :: _)) (congrArg (fun z => Value.int z :: _) (show g (1 : Int32).toNatClampNeg = g 1 from congrArg g (nI_clamp (n := 1) (by decide)))) ?_
      refine k_callVI (n := 1) (q := 25) (pre := ([] : va_W)) (post := ([] : va_W)) (w2 := (wSky a cy n lit h t s g kn lo lf nm)) (As := [.int (g 1)]) (rest := []) C (c_X2_seenLayers cy a n lit h t s g kn lo lf nm (g 1) (by omega)) gX2_layerOfReading_X2_seenLayers rfl rfl rfl (by decide +kernel) (k_room hR (by decide)) ⟨Nat.zero_le _, Nat.zero_le _⟩ (ci := 2) rfl 0 rfl rfl rfl (Nat.le_of_ble_eq_true rfl) ((List.append_nil _).symm) (List.append_nil _) dX2_layerOfReading_22 rfl ?_
      refine k_istore_n (q := 26) (fr2 := [(3, .int (nI (sMask h t g (g 1) n))), (0, .ref (a 0)), (1, .int x), (2, .int y)]) C dX2_layerOfReading_25 (by decide) rfl rfl ?_
      refine k_iconst (q := 27) (v := -1) C dX2_layerOfReading_26 (by decide) rfl ?_
      refine k_istore (q := 29) (fr2 := [(4, .int (-1)), (3, .int (nI (sMask h t g (g 1) n))), (0, .ref (a 0)), (1, .int x), (2, .int y)]) C dX2_layerOfReading_27 (by decide) rfl rfl ?_
      refine k_aload_n (q := 30) C 2 dX2_layerOfReading_29 rfl rfl ?_
      refine k_get (q := 33) (ci := 2) (v := .ref (a 4)) C 0 4 in2_X2_layerOfReading rfl (List.mem_of_getElem? (i := 2) rfl) rfl rfl (by decide) rfl dX2_layerOfReading_30 rfl ?_
      refine k_iconst (q := 34) (v := 3) C dX2_layerOfReading_33 (by decide) rfl ?_
      refine k_iald (q := 35) C 4 rfl (vp_in_nI (n := 3) (by decide) (by decide)) dX2_layerOfReading_34 rfl ?_
      refine k_st (st2 := (.int (g 3) :: _)) (congrArg (fun z => Value.int z :: _) (show g (3 : Int32).toNatClampNeg = g 3 from congrArg g (nI_clamp (n := 3) (by decide)))) ?_
      refine k_iconst (q := 36) (v := 1) C dX2_layerOfReading_35 (by decide) rfl ?_
      refine k_iadd (q := 37) C dX2_layerOfReading_36 rfl ?_
      refine k_istore (q := 39) (fr2 := [(5, .int ((g 3) + 1)), (4, .int (-1)), (3, .int (nI (sMask h t g (g 1) n))), (0, .ref (a 0)), (1, .int x), (2, .int y)]) C dX2_layerOfReading_37 (by decide) rfl rfl ?_
      refine k_iconst (q := 40) (v := 0) C dX2_layerOfReading_39 (by decide) rfl ?_
      refine k_istore (q := 42) (fr2 := [(6, .int 0), (5, .int ((g 3) + 1)), (4, .int (-1)), (3, .int (nI (sMask h t g (g 1) n))), (0, .ref (a 0)), (1, .int x), (2, .int y)]) C dX2_layerOfReading_40 (by decide) rfl rfl ?_
      refine k_fr (fr2 := [(0, .ref (a 0)), (1, .int x), (2, .int y), (3, .int (nI (sMask h t g (g 1) n))), (4, .int (-1)), (5, .int ((g 3) + 1)), (6, .int 0)]) ⟨[4, 5, 6, 3, 2, 1, 0], rfl⟩ ?_
      exact lp_X2_layerOfReading_42 cy a n lit h t s g kn lo lf nm x y hn X hR C E _ 0 (Nat.lt_succ_self _) (by omega) (Int32.not_le.mp c_2) c_10
    · intro c_10
      refine k_iconst (q := 14) (v := -1) C dX2_layerOfReading_13 (by decide) rfl ?_
      exact k_fin E dX2_layerOfReading_14 (by first | exact (if_neg (fun q => not_lt_of_le32 c_2 q.1)).symm | exact (if_neg (fun q => c_10 q.2)).symm) (rfl)
abbrev rm_X2_isFalse : Room := { frames := 1, cells := 0, slots := 0, locals := 21 }
theorem in2_X2_isFalse : ∀ w ∈ wsX20, w ∈ wsX2_isFalse := fun _ h => (List.mem_cons_of_mem _ (List.mem_append_right _ h))
set_option maxHeartbeats 4000000 in
set_option maxRecDepth 100000 in
theorem lp_X2_isFalse_15 (cy : Nat → ClassId) (a : Nat → Nat) (n : Nat) (lit : Int32) (h : Nat → Int32) (t : Nat → Int32) (s : Nat → Int32) (g : Nat → Int32) (kn : Nat) (lo : Int32) (lf : Int32) (nm : Nat → Int32) (x : Int32) (p : Nat)  (hn : n ≤ 6) (hp : p < n) (X : kX) (hR : xR X = rm_X2_isFalse) (C : kC X 5 RX2 cX2_isFalse wsX2_isFalse cy) (E : kEnd X 5 cX2_isFalse (bI (sFalse h n x p = true)) (wSky a cy n lit h t s g kn lo lf nm)) : ∀ (fu : Nat) (k : Nat), n - k < fu → (k ≤ n) → (sAnyL (sNear h x p) k = false) → kG X 5 0 0 (wSky a cy n lit h t s g kn lo lf nm) 15 [(0, .ref (a 0)), (1, .int x), (2, .int (nI p)), (3, .int (mAbs (x - h p))), (4, .int (nI k))] [] := by
  intro fu
  induction fu with
  | zero => intro k hfu; exact absurd hfu (Nat.not_lt_zero _)
  | succ fu ih =>
    intro k hfu hk ha
    refine k_iload (q := 17) C 4 dX2_isFalse_15 rfl rfl ?_
    refine k_aload_n (q := 18) C 0 dX2_isFalse_17 rfl rfl ?_
    refine k_get (q := 21) (ci := 2) (v := .int (nI n)) C 0 0 in2_X2_isFalse rfl (List.mem_of_getElem? (i := 6) rfl) rfl rfl (by decide) rfl dX2_isFalse_18 rfl ?_
    refine k_nicmp_ge (a := k) (b := n)  (tgt := 48) (q := 24) C dX2_isFalse_21 (by decide) rfl (by omega) (by omega) ?_ ?_
    · intro c_21
      obtain rfl : n = k := by omega
      refine k_iconst (q := 49) (v := 0) C dX2_isFalse_48 (by decide) rfl ?_
      exact k_fin E dX2_isFalse_49 (bI_f (fun q => by unfold sFalse at q; rw [ha] at q; cases q)) (rfl)
    · intro c_21
      refine k_iload_n (q := 25) C 1 dX2_isFalse_24 rfl rfl ?_
      refine k_aload_n (q := 26) C 0 dX2_isFalse_25 rfl rfl ?_
      refine k_get (q := 29) (ci := 2) (v := .ref (a 1)) C 0 1 in2_X2_isFalse rfl (List.mem_of_getElem? (i := 1) rfl) rfl rfl (by decide) rfl dX2_isFalse_26 rfl ?_
      refine k_iload (q := 31) C 4 dX2_isFalse_29 rfl rfl ?_
      refine k_iald (q := 32) C 1 rfl (vp_in_nI (n := k) (by omega) (by decide)) dX2_isFalse_31 rfl ?_
      refine k_st (st2 := (.int (h k) :: _)) (congrArg (fun z => Value.int z :: _) (show h (nI k).toNatClampNeg = h k from congrArg h (nI_clamp (n := k) (by omega)))) ?_
      refine k_isub (q := 33) C dX2_isFalse_32 rfl ?_
      refine k_mabs (q := 36) C (List.mem_of_getElem? (i := 2) rfl) (List.mem_of_getElem? (i := 3) rfl) (List.mem_of_getElem? (i := 4) rfl) (List.mem_of_getElem? (i := 5) rfl) (k_roomM hR (by decide)) (Nat.le_of_ble_eq_true rfl) dX2_isFalse_33 rfl ?_
      refine k_iload_n (q := 37) C 3 dX2_isFalse_36 rfl rfl ?_
      refine k_icmp_ge (tgt := 42) (q := 40) C dX2_isFalse_37 (by decide) rfl ?_ ?_
      · intro c_37
        refine k_iinc (q := 45) (v := nI (k + 1)) (fr2 := [(4, .int (nI (k + 1))), (0, .ref (a 0)), (1, .int x), (2, .int (nI p)), (3, .int (mAbs (x - h p)))]) C 4 dX2_isFalse_42 rfl (nI_add k 1) (by decide) rfl rfl ?_
        refine k_goto (q := 15) C dX2_isFalse_45 (by decide) ?_
        refine k_fr (fr2 := [(0, .ref (a 0)), (1, .int x), (2, .int (nI p)), (3, .int (mAbs (x - h p))), (4, .int (nI (k + 1)))]) ⟨[1, 2, 3, 4, 0], rfl⟩ ?_
        exact ih (k + 1) (by omega) (by omega) (sAnyL_s ha (fun q => not_lt_of_le32 c_37 (of_decide_eq_true q)))
      · intro c_37
        refine k_iconst (q := 41) (v := 1) C dX2_isFalse_40 (by decide) rfl ?_
        exact k_fin E dX2_isFalse_41 (bI_t (sAnyL_of c_21 (decide_eq_true (Int32.not_le.mp c_37)))) (rfl)
set_option maxHeartbeats 4000000 in
set_option maxRecDepth 100000 in
theorem c_X2_isFalse (cy : Nat → ClassId) (a : Nat → Nat) (n : Nat) (lit : Int32) (h : Nat → Int32) (t : Nat → Int32) (s : Nat → Int32) (g : Nat → Int32) (kn : Nat) (lo : Int32) (lf : Int32) (nm : Nat → Int32) (x : Int32) (p : Nat)  (hn : n ≤ 6) (hp : p < n) : kI yX2_isFalse wsX2_isFalse rm_X2_isFalse cy [.ref (a 0), .int x, .int (nI p)] (wSky a cy n lit h t s g kn lo lf nm) (bI (sFalse h n x p = true)) (wSky a cy n lit h t s g kn lo lf nm) := by
  refine kI_of (cc := cX2_isFalse) (maxL := 5) (rt := .boolean) (by decide) rfl (kb_nar _) (Nat.le_of_ble_eq_true rfl) ?_
  intro X hR C E
  have C : kC X 5 RX2 cX2_isFalse wsX2_isFalse cy := C
  refine k_fr (fr2 := [(0, .ref (a 0)), (1, .int x), (2, .int (nI p))]) ⟨[0, 1, 2], rfl⟩ ?_
  refine k_iload_n (q := 1) C 1 dX2_isFalse_0 rfl rfl ?_
  refine k_aload_n (q := 2) C 0 dX2_isFalse_1 rfl rfl ?_
  refine k_get (q := 5) (ci := 2) (v := .ref (a 1)) C 0 1 in2_X2_isFalse rfl (List.mem_of_getElem? (i := 1) rfl) rfl rfl (by decide) rfl dX2_isFalse_2 rfl ?_
  refine k_iload_n (q := 6) C 2 dX2_isFalse_5 rfl rfl ?_
  refine k_iald (q := 7) C 1 rfl (vp_in_nI (n := p) (by omega) (by decide)) dX2_isFalse_6 rfl ?_
  refine k_st (st2 := (.int (h p) :: _)) (congrArg (fun z => Value.int z :: _) (show h (nI p).toNatClampNeg = h p from congrArg h (nI_clamp (n := p) (by omega)))) ?_
  refine k_isub (q := 8) C dX2_isFalse_7 rfl ?_
  refine k_mabs (q := 11) C (List.mem_of_getElem? (i := 2) rfl) (List.mem_of_getElem? (i := 3) rfl) (List.mem_of_getElem? (i := 4) rfl) (List.mem_of_getElem? (i := 5) rfl) (k_roomM hR (by decide)) (Nat.le_of_ble_eq_true rfl) dX2_isFalse_8 rfl ?_
  refine k_istore_n (q := 12) (fr2 := [(3, .int (mAbs (x - (h p)))), (0, .ref (a 0)), (1, .int x), (2, .int (nI p))]) C dX2_isFalse_11 (by decide) rfl rfl ?_
  refine k_iconst (q := 13) (v := 0) C dX2_isFalse_12 (by decide) rfl ?_
  refine k_istore (q := 15) (fr2 := [(4, .int 0), (3, .int (mAbs (x - (h p)))), (0, .ref (a 0)), (1, .int x), (2, .int (nI p))]) C dX2_isFalse_13 (by decide) rfl rfl ?_
  refine k_fr (fr2 := [(0, .ref (a 0)), (1, .int x), (2, .int (nI p)), (3, .int (mAbs (x - (h p)))), (4, .int 0)]) ⟨[2, 3, 4, 1, 0], rfl⟩ ?_
  exact lp_X2_isFalse_15 cy a n lit h t s g kn lo lf nm x p hn hp X hR C E _ 0 (Nat.lt_succ_self _) (by omega) rfl
abbrev rm_X2_readingNumber : Room := { frames := 3, cells := 0, slots := 0, locals := 77 }
theorem in2_X2_readingNumber : ∀ w ∈ wsX20, w ∈ wsX2_readingNumber := fun _ h => (List.mem_cons_of_mem _ (List.mem_append_right _ h))
set_option maxHeartbeats 4000000 in
set_option maxRecDepth 100000 in
theorem c_X2_readingNumber (cy : Nat → ClassId) (a : Nat → Nat) (n : Nat) (lit : Int32) (h : Nat → Int32) (t : Nat → Int32) (s : Nat → Int32) (g : Nat → Int32) (kn : Nat) (lo : Int32) (lf : Int32) (nm : Nat → Int32) (x : Int32)  (hn : n ≤ 6) : kI yX2_readingNumber wsX2_readingNumber rm_X2_readingNumber cy [.ref (a 0), .int x] (wSky a cy n lit h t s g kn lo lf nm) (sRn lit h t s g n x) (wSky a cy n lit h t s g kn lo lf nm) := by
  refine kI_of (cc := cX2_readingNumber) (maxL := 4) (rt := .int) (by decide) rfl (rfl) (Nat.le_of_ble_eq_true rfl) ?_
  intro X hR C E
  have C : kC X 4 RX2 cX2_readingNumber wsX2_readingNumber cy := C
  refine k_fr (fr2 := [(0, .ref (a 0)), (1, .int x)]) ⟨[0, 1], rfl⟩ ?_
  refine k_aload_n (q := 1) C 0 dX2_readingNumber_0 rfl rfl ?_
  refine k_aload_n (q := 2) C 0 dX2_readingNumber_1 rfl rfl ?_
  refine k_get (q := 5) (ci := 2) (v := .ref (a 3)) C 0 3 in2_X2_readingNumber rfl (List.mem_of_getElem? (i := 1) rfl) rfl rfl (by decide) rfl dX2_readingNumber_2 rfl ?_
  refine k_iconst (q := 6) (v := 0) C dX2_readingNumber_5 (by decide) rfl ?_
  refine k_iald (q := 7) C 3 rfl (vp_in_nI (n := 0) (by decide) (by decide)) dX2_readingNumber_6 rfl ?_
  refine k_st (st2 := (.int (s 0) :: _)) (congrArg (fun z => Value.int z :: _) (show s (0 : Int32).toNatClampNeg = s 0 from congrArg s (nI_clamp (n := 0) (by decide)))) ?_
  refine k_aload_n (q := 8) C 0 dX2_readingNumber_7 rfl rfl ?_
  refine k_get (q := 11) (ci := 2) (v := .ref (a 3)) C 0 3 in2_X2_readingNumber rfl (List.mem_of_getElem? (i := 1) rfl) rfl rfl (by decide) rfl dX2_readingNumber_8 rfl ?_
  refine k_iconst (q := 12) (v := 1) C dX2_readingNumber_11 (by decide) rfl ?_
  refine k_iald (q := 13) C 3 rfl (vp_in_nI (n := 1) (by decide) (by decide)) dX2_readingNumber_12 rfl ?_
  refine k_st (st2 := (.int (s 1) :: _)) (congrArg (fun z => Value.int z :: _) (show s (1 : Int32).toNatClampNeg = s 1 from congrArg s (nI_clamp (n := 1) (by decide)))) ?_
  refine k_callVI (n := 2) (q := 16) (pre := ([] : va_W)) (post := ([] : va_W)) (w2 := (wSky a cy n lit h t s g kn lo lf nm)) (As := [.int (s 0), .int (s 1)]) (rest := []) C (c_X2_layerOfReading cy a n lit h t s g kn lo lf nm (s 0) (s 1) (by omega)) gX2_readingNumber_X2_layerOfReading rfl rfl rfl (by decide +kernel) (k_room hR (by decide)) ⟨Nat.zero_le _, Nat.zero_le _⟩ (ci := 2) rfl 0 rfl rfl rfl (Nat.le_of_ble_eq_true rfl) ((List.append_nil _).symm) (List.append_nil _) dX2_readingNumber_13 rfl ?_
  refine k_istore_n (q := 17) (fr2 := [(2, .int (sRl lit h t g n (s 0) (s 1))), (0, .ref (a 0)), (1, .int x)]) C dX2_readingNumber_16 (by decide) rfl rfl ?_
  refine k_iload_n (q := 18) C 0 dX2_readingNumber_17 rfl rfl ?_
  refine k_iconst (q := 19) (v := -1) C dX2_readingNumber_18 (by decide) rfl ?_
  refine k_icmp_ne (tgt := 25) (q := 22) C dX2_readingNumber_19 (by decide) rfl ?_ ?_
  · intro c_19
    obtain ⟨p, hp, ep⟩ := sRl_ex c_19
    have e_25_2 : sRl lit h t g n (s 0) (s 1) = nI p := ep
    rw [e_25_2]
    refine k_aload_n (q := 26) C 1 dX2_readingNumber_25 rfl rfl ?_
    refine k_aload_n (q := 27) C 1 dX2_readingNumber_26 rfl rfl ?_
    refine k_get (q := 30) (ci := 2) (v := .ref (a 3)) C 0 3 in2_X2_readingNumber rfl (List.mem_of_getElem? (i := 1) rfl) rfl rfl (by decide) rfl dX2_readingNumber_27 rfl ?_
    refine k_iconst (q := 31) (v := 0) C dX2_readingNumber_30 (by decide) rfl ?_
    refine k_iald (q := 32) C 3 rfl (vp_in_nI (n := 0) (by decide) (by decide)) dX2_readingNumber_31 rfl ?_
    refine k_st (st2 := (.int (s 0) :: _)) (congrArg (fun z => Value.int z :: _) (show s (0 : Int32).toNatClampNeg = s 0 from congrArg s (nI_clamp (n := 0) (by decide)))) ?_
    refine k_aload_n (q := 33) C 1 dX2_readingNumber_32 rfl rfl ?_
    refine k_get (q := 36) (ci := 2) (v := .ref (a 3)) C 0 3 in2_X2_readingNumber rfl (List.mem_of_getElem? (i := 1) rfl) rfl rfl (by decide) rfl dX2_readingNumber_33 rfl ?_
    refine k_iconst (q := 37) (v := 1) C dX2_readingNumber_36 (by decide) rfl ?_
    refine k_iald (q := 38) C 3 rfl (vp_in_nI (n := 1) (by decide) (by decide)) dX2_readingNumber_37 rfl ?_
    refine k_st (st2 := (.int (s 1) :: _)) (congrArg (fun z => Value.int z :: _) (show s (1 : Int32).toNatClampNeg = s 1 from congrArg s (nI_clamp (n := 1) (by decide)))) ?_
    refine k_callVI (n := 2) (q := 41) (pre := ([] : va_W)) (post := ([] : va_W)) (w2 := (wSky a cy n lit h t s g kn lo lf nm)) (As := [.int (s 0), .int (s 1)]) (rest := []) C (c_X2_meetingHeight cy a n lit h t s g kn lo lf nm (s 0) (s 1)) gX2_readingNumber_X2_meetingHeight rfl rfl rfl (by decide +kernel) (k_room hR (by decide)) ⟨Nat.zero_le _, Nat.zero_le _⟩ (ci := 2) rfl 0 rfl rfl rfl (Nat.le_of_ble_eq_true rfl) ((List.append_nil _).symm) (List.append_nil _) dX2_readingNumber_38 rfl ?_
    refine k_istore_n (q := 42) (fr2 := [(3, .int (sMeet g (s 0) (s 1))), (2, .int (nI p)), (0, .ref (a 0)), (1, .int x)]) C dX2_readingNumber_41 (by decide) rfl rfl ?_
    refine k_iload_n (q := 43) C 3 dX2_readingNumber_42 rfl rfl ?_
    by_cases s_43_0 : x = 0
    · refine k_tabIn (q := 68) (off := 25) C dX2_readingNumber_43 (by rw [s_43_0]; decide +kernel) (by rw [s_43_0]; decide +kernel) (by rw [s_43_0]; decide +kernel) (by decide) ?_
      refine k_iload_n (q := 69) C 0 dX2_readingNumber_68 rfl rfl ?_
      exact k_fin E dX2_readingNumber_69 (by rw [sRn_ok ep (by omega), if_pos s_43_0]) (rfl)
    by_cases s_43_1 : x = 1
    · refine k_tabIn (q := 70) (off := 27) C dX2_readingNumber_43 (by rw [s_43_1]; decide +kernel) (by rw [s_43_1]; decide +kernel) (by rw [s_43_1]; decide +kernel) (by decide) ?_
      refine k_iload_n (q := 71) C 1 dX2_readingNumber_70 rfl rfl ?_
      exact k_fin E dX2_readingNumber_71 (by rw [sRn_ok ep (by omega), if_neg s_43_0, if_pos s_43_1]) (rfl)
    by_cases s_43_2 : x = 2
    · refine k_tabIn (q := 72) (off := 29) C dX2_readingNumber_43 (by rw [s_43_2]; decide +kernel) (by rw [s_43_2]; decide +kernel) (by rw [s_43_2]; decide +kernel) (by decide) ?_
      refine k_iload_n (q := 73) C 0 dX2_readingNumber_72 rfl rfl ?_
      refine k_aload_n (q := 74) C 2 dX2_readingNumber_73 rfl rfl ?_
      refine k_get (q := 77) (ci := 2) (v := .ref (a 1)) C 0 1 in2_X2_readingNumber rfl (List.mem_of_getElem? (i := 3) rfl) rfl rfl (by decide) rfl dX2_readingNumber_74 rfl ?_
      refine k_iload_n (q := 78) C 1 dX2_readingNumber_77 rfl rfl ?_
      refine k_iald (q := 79) C 1 rfl (vp_in_nI (n := p) (by omega) (by decide)) dX2_readingNumber_78 rfl ?_
      refine k_st (st2 := (.int (h p) :: _)) (congrArg (fun z => Value.int z :: _) (show h (nI p).toNatClampNeg = h p from congrArg h (nI_clamp (n := p) (by omega)))) ?_
      refine k_isub (q := 80) C dX2_readingNumber_79 rfl ?_
      exact k_fin E dX2_readingNumber_80 (by rw [sRn_ok ep (by omega), if_neg s_43_0, if_neg s_43_1, if_pos s_43_2]) (rfl)
    refine k_tabOut (q := 81) C dX2_readingNumber_43 (by have t_0 := lv_neT (a := 0) s_43_0 (by decide +kernel); have t_1 := lv_neT (a := 1) s_43_1 (by decide +kernel); have t_2 := lv_neT (a := 2) s_43_2 (by decide +kernel); omega) (by decide) ?_
    refine k_aload_n (q := 82) C 2 dX2_readingNumber_81 rfl rfl ?_
    refine k_iload_n (q := 83) C 0 dX2_readingNumber_82 rfl rfl ?_
    refine k_iload_n (q := 84) C 1 dX2_readingNumber_83 rfl rfl ?_
    refine k_callVI (n := 2) (q := 87) (pre := ([] : va_W)) (post := ([] : va_W)) (w2 := (wSky a cy n lit h t s g kn lo lf nm)) (As := [.int (sMeet g (s 0) (s 1)), .int (nI p)]) (rest := []) C (c_X2_isFalse cy a n lit h t s g kn lo lf nm (sMeet g (s 0) (s 1)) p (by omega) (by omega)) gX2_readingNumber_X2_isFalse rfl rfl rfl (by decide +kernel) (k_room hR (by decide)) ⟨Nat.zero_le _, Nat.zero_le _⟩ (ci := 2) rfl 0 rfl rfl rfl (Nat.le_of_ble_eq_true rfl) ((List.append_nil _).symm) (List.append_nil _) dX2_readingNumber_84 rfl ?_
    refine k_ifB_eq (tgt := 94) (q := 90) C dX2_readingNumber_87 (by decide) rfl ?_ ?_
    · intro c_87
      refine k_iconst (q := 95) (v := 0) C dX2_readingNumber_94 (by decide) rfl ?_
      exact k_fin E dX2_readingNumber_95 (by rw [sRn_ok ep (by omega), if_neg s_43_0, if_neg s_43_1, if_neg s_43_2]; first | exact bI_t c_87 | exact bI_f c_87) (rfl)
    · intro c_87
      refine k_iconst (q := 91) (v := 1) C dX2_readingNumber_90 (by decide) rfl ?_
      refine k_goto (q := 95) C dX2_readingNumber_91 (by decide) ?_
      exact k_fin E dX2_readingNumber_95 (by rw [sRn_ok ep (by omega), if_neg s_43_0, if_neg s_43_1, if_neg s_43_2]; first | exact bI_t c_87 | exact bI_f c_87) (rfl)
  · intro c_19
    refine k_ldc (q := 24) (v := -99999) C (List.mem_of_getElem? (i := 2) rfl) dX2_readingNumber_22 rfl ?_
    exact k_fin E dX2_readingNumber_24 ((sRn_no c_19).symm) (rfl)
abbrev rm_X2_logNight : Room := { frames := 3, cells := 0, slots := 0, locals := 77 }
theorem in0_X2_logNight : ∀ w ∈ wsX00, w ∈ wsX2_logNight := fun _ h => (List.mem_cons_of_mem _ (List.mem_append_right _ h))
theorem in2_X2_logNight : ∀ w ∈ wsX20, w ∈ wsX2_logNight := fun _ h => (List.mem_cons_of_mem _ (List.mem_append_left _ (List.mem_append_right _ h)))
set_option maxHeartbeats 4000000 in
set_option maxRecDepth 100000 in
theorem c_X2_logNight (cy : Nat → ClassId) (a : Nat → Nat) (n : Nat) (lit : Int32) (h : Nat → Int32) (t : Nat → Int32) (s : Nat → Int32) (g : Nat → Int32) (kn : Nat) (lo : Int32) (lf : Int32) (nm : Nat → Int32)  (hn : n ≤ 6) (hk : kn ≤ 8) : kI yX2_logNight wsX2_logNight rm_X2_logNight cy [.ref (a 0)] (wSky a cy n lit h t s g kn lo lf nm) (nI (min (kn + 1) 8)) (wSky a cy n lit h t s g (min (kn + 1) 8) (lo + 1) (lf + bI ((sLg lit h t s g n).2.2.2 = true)) (sWrL nm (sLg lit h t s g n))) := by
  refine kI_of (cc := cX2_logNight) (maxL := 3) (rt := .int) (by decide) rfl (rfl) (Nat.le_of_ble_eq_true rfl) ?_
  intro X hR C E
  have C : kC X 3 RX2 cX2_logNight wsX2_logNight cy := C
  refine k_fr (fr2 := [(0, .ref (a 0))]) ⟨[0], rfl⟩ ?_
  refine k_aload_n (q := 1) C 0 dX2_logNight_0 rfl rfl ?_
  refine k_aload_n (q := 2) C 0 dX2_logNight_1 rfl rfl ?_
  refine k_get (q := 5) (ci := 2) (v := .ref (a 3)) C 0 3 in2_X2_logNight rfl (List.mem_of_getElem? (i := 1) rfl) rfl rfl (by decide) rfl dX2_logNight_2 rfl ?_
  refine k_iconst (q := 6) (v := 0) C dX2_logNight_5 (by decide) rfl ?_
  refine k_iald (q := 7) C 3 rfl (vp_in_nI (n := 0) (by decide) (by decide)) dX2_logNight_6 rfl ?_
  refine k_st (st2 := (.int (s 0) :: _)) (congrArg (fun z => Value.int z :: _) (show s (0 : Int32).toNatClampNeg = s 0 from congrArg s (nI_clamp (n := 0) (by decide)))) ?_
  refine k_aload_n (q := 8) C 0 dX2_logNight_7 rfl rfl ?_
  refine k_get (q := 11) (ci := 2) (v := .ref (a 3)) C 0 3 in2_X2_logNight rfl (List.mem_of_getElem? (i := 1) rfl) rfl rfl (by decide) rfl dX2_logNight_8 rfl ?_
  refine k_iconst (q := 12) (v := 1) C dX2_logNight_11 (by decide) rfl ?_
  refine k_iald (q := 13) C 3 rfl (vp_in_nI (n := 1) (by decide) (by decide)) dX2_logNight_12 rfl ?_
  refine k_st (st2 := (.int (s 1) :: _)) (congrArg (fun z => Value.int z :: _) (show s (1 : Int32).toNatClampNeg = s 1 from congrArg s (nI_clamp (n := 1) (by decide)))) ?_
  refine k_callVI (n := 2) (q := 16) (pre := ([] : va_W)) (post := ([] : va_W)) (w2 := (wSky a cy n lit h t s g kn lo lf nm)) (As := [.int (s 0), .int (s 1)]) (rest := []) C (c_X2_layerOfReading cy a n lit h t s g kn lo lf nm (s 0) (s 1) (by omega)) gX2_logNight_X2_layerOfReading rfl rfl rfl (by decide +kernel) (k_room hR (by decide)) ⟨Nat.zero_le _, Nat.zero_le _⟩ (ci := 2) rfl 0 rfl rfl rfl (Nat.le_of_ble_eq_true rfl) ((List.append_nil _).symm) (List.append_nil _) dX2_logNight_13 rfl ?_
  refine k_istore_n (q := 17) (fr2 := [(1, .int (sRl lit h t g n (s 0) (s 1))), (0, .ref (a 0))]) C dX2_logNight_16 (by decide) rfl rfl ?_
  refine k_iload_n (q := 18) C 0 dX2_logNight_17 rfl rfl ?_
  refine k_iconst (q := 19) (v := -1) C dX2_logNight_18 (by decide) rfl ?_
  refine k_icmp_ne (tgt := 37) (q := 22) C dX2_logNight_19 (by decide) rfl ?_ ?_
  · intro c_19
    obtain ⟨p, hp, ep⟩ := sRl_ex c_19
    have e_37_1 : sRl lit h t g n (s 0) (s 1) = nI p := ep
    rw [e_37_1]
    refine k_aload_n (q := 38) C 1 dX2_logNight_37 rfl rfl ?_
    refine k_aload_n (q := 39) C 1 dX2_logNight_38 rfl rfl ?_
    refine k_get (q := 42) (ci := 2) (v := .ref (a 3)) C 0 3 in2_X2_logNight rfl (List.mem_of_getElem? (i := 1) rfl) rfl rfl (by decide) rfl dX2_logNight_39 rfl ?_
    refine k_iconst (q := 43) (v := 0) C dX2_logNight_42 (by decide) rfl ?_
    refine k_iald (q := 44) C 3 rfl (vp_in_nI (n := 0) (by decide) (by decide)) dX2_logNight_43 rfl ?_
    refine k_st (st2 := (.int (s 0) :: _)) (congrArg (fun z => Value.int z :: _) (show s (0 : Int32).toNatClampNeg = s 0 from congrArg s (nI_clamp (n := 0) (by decide)))) ?_
    refine k_aload_n (q := 45) C 1 dX2_logNight_44 rfl rfl ?_
    refine k_get (q := 48) (ci := 2) (v := .ref (a 3)) C 0 3 in2_X2_logNight rfl (List.mem_of_getElem? (i := 1) rfl) rfl rfl (by decide) rfl dX2_logNight_45 rfl ?_
    refine k_iconst (q := 49) (v := 1) C dX2_logNight_48 (by decide) rfl ?_
    refine k_iald (q := 50) C 3 rfl (vp_in_nI (n := 1) (by decide) (by decide)) dX2_logNight_49 rfl ?_
    refine k_st (st2 := (.int (s 1) :: _)) (congrArg (fun z => Value.int z :: _) (show s (1 : Int32).toNatClampNeg = s 1 from congrArg s (nI_clamp (n := 1) (by decide)))) ?_
    refine k_callVI (n := 2) (q := 53) (pre := ([] : va_W)) (post := ([] : va_W)) (w2 := (wSky a cy n lit h t s g kn lo lf nm)) (As := [.int (s 0), .int (s 1)]) (rest := []) C (c_X2_meetingHeight cy a n lit h t s g kn lo lf nm (s 0) (s 1)) gX2_logNight_X2_meetingHeight rfl rfl rfl (by decide +kernel) (k_room hR (by decide)) ⟨Nat.zero_le _, Nat.zero_le _⟩ (ci := 2) rfl 0 rfl rfl rfl (Nat.le_of_ble_eq_true rfl) ((List.append_nil _).symm) (List.append_nil _) dX2_logNight_50 rfl ?_
    refine k_istore_n (q := 54) (fr2 := [(2, .int (sMeet g (s 0) (s 1))), (1, .int (nI p)), (0, .ref (a 0))]) C dX2_logNight_53 (by decide) rfl rfl ?_
    refine k_aload_n (q := 55) C 2 dX2_logNight_54 rfl rfl ?_
    refine k_get (q := 58) (ci := 2) (v := .ref (a 5)) C 0 6 in2_X2_logNight rfl (List.mem_of_getElem? (i := 2) rfl) rfl rfl (by decide) rfl dX2_logNight_55 rfl ?_
    refine k_iload_n (q := 59) C 0 dX2_logNight_58 rfl rfl ?_
    refine k_aload_n (q := 60) C 2 dX2_logNight_59 rfl rfl ?_
    refine k_get (q := 63) (ci := 2) (v := .ref (a 1)) C 0 1 in2_X2_logNight rfl (List.mem_of_getElem? (i := 4) rfl) rfl rfl (by decide) rfl dX2_logNight_60 rfl ?_
    refine k_iload_n (q := 64) C 1 dX2_logNight_63 rfl rfl ?_
    refine k_iald (q := 65) C 1 rfl (vp_in_nI (n := p) (by omega) (by decide)) dX2_logNight_64 rfl ?_
    refine k_st (st2 := (.int (h p) :: _)) (congrArg (fun z => Value.int z :: _) (show h (nI p).toNatClampNeg = h p from congrArg h (nI_clamp (n := p) (by omega)))) ?_
    refine k_iload_n (q := 66) C 0 dX2_logNight_65 rfl rfl ?_
    refine k_aload_n (q := 67) C 2 dX2_logNight_66 rfl rfl ?_
    refine k_get (q := 70) (ci := 2) (v := .ref (a 1)) C 0 1 in2_X2_logNight rfl (List.mem_of_getElem? (i := 4) rfl) rfl rfl (by decide) rfl dX2_logNight_67 rfl ?_
    refine k_iload_n (q := 71) C 1 dX2_logNight_70 rfl rfl ?_
    refine k_iald (q := 72) C 1 rfl (vp_in_nI (n := p) (by omega) (by decide)) dX2_logNight_71 rfl ?_
    refine k_st (st2 := (.int (h p) :: _)) (congrArg (fun z => Value.int z :: _) (show h (nI p).toNatClampNeg = h p from congrArg h (nI_clamp (n := p) (by omega)))) ?_
    refine k_isub (q := 73) C dX2_logNight_72 rfl ?_
    refine k_aload_n (q := 74) C 2 dX2_logNight_73 rfl rfl ?_
    refine k_iload_n (q := 75) C 0 dX2_logNight_74 rfl rfl ?_
    refine k_iload_n (q := 76) C 1 dX2_logNight_75 rfl rfl ?_
    refine k_callVI (n := 2) (q := 79) (pre := ([] : va_W)) (post := ([] : va_W)) (w2 := (wSky a cy n lit h t s g kn lo lf nm)) (As := [.int (sMeet g (s 0) (s 1)), .int (nI p)]) (rest := [.int ((sMeet g (s 0) (s 1)) - (h p)), .int (h p), .int (sMeet g (s 0) (s 1)), .ref (a 5)]) C (c_X2_isFalse cy a n lit h t s g kn lo lf nm (sMeet g (s 0) (s 1)) p (by omega) (by omega)) gX2_logNight_X2_isFalse rfl rfl rfl (by decide +kernel) (k_room hR (by decide)) ⟨Nat.zero_le _, Nat.zero_le _⟩ (ci := 2) rfl 0 rfl rfl rfl (Nat.le_of_ble_eq_true rfl) ((List.append_nil _).symm) (List.append_nil _) dX2_logNight_76 rfl ?_
    refine k_callVI (n := 4) (q := 82) (pre := (wSky5 a cy n lit h t s g)) (post := ([] : va_W)) (w2 := (wSky a cy n lit h t s g (min (kn + 1) 8) (lo + 1) (lf + bI ((sFalse h n (sMeet g (s 0) (s 1)) p) = true)) (sWr nm (sMeet g (s 0) (s 1)) (h p) ((sMeet g (s 0) (s 1)) - (h p)) (sFalse h n (sMeet g (s 0) (s 1)) p)))) (As := [.int (sMeet g (s 0) (s 1)), .int (h p), .int ((sMeet g (s 0) (s 1)) - (h p)), .int (bI (sFalse h n (sMeet g (s 0) (s 1)) p = true))]) (rest := []) C (c_X0_write cy a kn lo lf nm (sMeet g (s 0) (s 1)) (h p) ((sMeet g (s 0) (s 1)) - (h p)) (sFalse h n (sMeet g (s 0) (s 1)) p) (by omega)) gX2_logNight_X0_write rfl rfl rfl (by decide +kernel) (k_room hR (by decide)) ⟨Nat.zero_le _, Nat.zero_le _⟩ (ci := 0) rfl 0 rfl rfl rfl (Nat.le_of_ble_eq_true rfl) (rfl) (rfl) dX2_logNight_79 rfl ?_
    exact k_fin E dX2_logNight_82 (rfl) (by rw [sLg_ok ep (by omega)]; rfl)
  · intro c_19
    refine k_aload_n (q := 23) C 1 dX2_logNight_22 rfl rfl ?_
    refine k_get (q := 26) (ci := 2) (v := .ref (a 5)) C 0 6 in2_X2_logNight rfl (List.mem_of_getElem? (i := 2) rfl) rfl rfl (by decide) rfl dX2_logNight_23 rfl ?_
    refine k_ldc (q := 28) (v := -99999) C (List.mem_of_getElem? (i := 3) rfl) dX2_logNight_26 rfl ?_
    refine k_ldc (q := 30) (v := -99999) C (List.mem_of_getElem? (i := 3) rfl) dX2_logNight_28 rfl ?_
    refine k_ldc (q := 32) (v := -99999) C (List.mem_of_getElem? (i := 3) rfl) dX2_logNight_30 rfl ?_
    refine k_iconst (q := 33) (v := 0) C dX2_logNight_32 (by decide) rfl ?_
    refine k_callVI (n := 4) (q := 36) (pre := (wSky5 a cy n lit h t s g)) (post := ([] : va_W)) (w2 := (wSky a cy n lit h t s g (min (kn + 1) 8) (lo + 1) (lf + bI (false = true)) (sWr nm (-99999) (-99999) (-99999) false))) (As := [.int (-99999), .int (-99999), .int (-99999), .int 0]) (rest := []) C (c_X0_write cy a kn lo lf nm (-99999) (-99999) (-99999) false (by omega)) gX2_logNight_X0_write rfl rfl rfl (by decide +kernel) (k_room hR (by decide)) ⟨Nat.zero_le _, Nat.zero_le _⟩ (ci := 0) rfl 0 rfl rfl rfl (Nat.le_of_ble_eq_true rfl) (rfl) (rfl) dX2_logNight_33 rfl ?_
    exact k_fin E dX2_logNight_36 (rfl) (by rw [sLg_no c_19]; rfl)
abbrev rm_X2_bestSlope : Room := { frames := 1, cells := 0, slots := 0, locals := 24 }
theorem in2_X2_bestSlope : ∀ w ∈ wsX20, w ∈ wsX2_bestSlope := fun _ h => (List.mem_cons_of_mem _ (List.mem_append_right _ h))
set_option maxHeartbeats 4000000 in
set_option maxRecDepth 100000 in
theorem lp_X2_bestSlope_51 (cy : Nat → ClassId) (a : Nat → Nat) (n : Nat) (lit : Int32) (h : Nat → Int32) (t : Nat → Int32) (s : Nat → Int32) (g : Nat → Int32) (kn : Nat) (lo : Int32) (lf : Int32) (nm : Nat → Int32) (j : Nat) (p : Nat) (u : Int) (v : Int)  (hj : j < 2) (hp : p < 6) (hu : -30 ≤ u) (hv : v ≤ 30) (huv : u ≤ v) (X : kX) (hR : xR X = rm_X2_bestSlope) (C : kC X 11 RX2 cX2_bestSlope wsX2_bestSlope cy) (E : kEnd X 11 cX2_bestSlope (iI (sBs (sFar g h s j p) u (v - u).toNat).1) (wSky a cy n lit h t s g kn lo lf nm)) : ∀ (fu : Nat) (k : Nat), (v - u).toNat - k < fu → ((k : Int) ≤ v - u) → kG X 11 0 0 (wSky a cy n lit h t s g kn lo lf nm) 51 [(0, .ref (a 0)), (1, .int (nI j)), (2, .int (nI p)), (4, .int (iI v)), (5, .int (h p)), (6, .int (sPlace g (nI (1 - j)) (s (1 - j)) (h p))), (7, .int (iI (sBs (sFar g h s j p) u k).1)), (8, .int (sBs (sFar g h s j p) u k).2), (9, .int (iI (u + 1 + (k : Int))))] [] := by
  intro fu
  induction fu with
  | zero => intro k hfu; exact absurd hfu (Nat.not_lt_zero _)
  | succ fu ih =>
    intro k hfu hk
    refine k_iload (q := 53) C 8 dX2_bestSlope_51 rfl rfl ?_
    refine k_iload (q := 55) C 3 dX2_bestSlope_53 rfl rfl ?_
    refine k_icmp_gt (tgt := 96) (q := 58) C dX2_bestSlope_55 (by decide) rfl ?_ ?_
    · intro c_55
      have c5 : v < u + 1 + (k : Int) := (iI_lt (by omega) (by omega)).mp c_55
      have hke : k = (v - u).toNat := by omega
      obtain rfl : k = (v - u).toNat := hke
      refine k_iload (q := 98) C 6 dX2_bestSlope_96 rfl rfl ?_
      exact k_fin E dX2_bestSlope_98 (rfl) (rfl)
    · intro c_55
      have c5 : ¬ v < u + 1 + (k : Int) := fun q => c_55 ((iI_lt (by omega) (by omega)).mpr q)
      refine k_aload_n (q := 59) C 0 dX2_bestSlope_58 rfl rfl ?_
      refine k_iload_n (q := 60) C 1 dX2_bestSlope_59 rfl rfl ?_
      refine k_iload (q := 62) C 8 dX2_bestSlope_60 rfl rfl ?_
      refine k_iload (q := 64) C 4 dX2_bestSlope_62 rfl rfl ?_
      refine k_callVI (n := 3) (q := 67) (pre := ([] : va_W)) (post := ([] : va_W)) (w2 := (wSky a cy n lit h t s g kn lo lf nm)) (As := [.int (nI j), .int (iI (u + 1 + (k : Int))), .int (h p)]) (rest := []) C (c_X2_place cy a n lit h t s g kn lo lf nm (nI j) (iI (u + 1 + (k : Int))) (h p)) gX2_bestSlope_X2_place rfl rfl rfl (by decide +kernel) (k_room hR (by decide)) ⟨Nat.zero_le _, Nat.zero_le _⟩ (ci := 2) rfl 0 rfl rfl rfl (Nat.le_of_ble_eq_true rfl) ((List.append_nil _).symm) (List.append_nil _) dX2_bestSlope_64 rfl ?_
      refine k_iload (q := 69) C 5 dX2_bestSlope_67 rfl rfl ?_
      refine k_isub (q := 70) C dX2_bestSlope_69 rfl ?_
      refine k_mabs (q := 73) C (List.mem_of_getElem? (i := 3) rfl) (List.mem_of_getElem? (i := 4) rfl) (List.mem_of_getElem? (i := 5) rfl) (List.mem_of_getElem? (i := 6) rfl) (k_roomM hR (by decide)) (Nat.le_of_ble_eq_true rfl) dX2_bestSlope_70 rfl ?_
      refine k_istore (q := 75) (fr2 := [(10, .int (mAbs ((sPlace g (nI j) (iI (u + 1 + (k : Int))) (h p)) - (sPlace g (nI (1 - j)) (s (1 - j)) (h p))))), (0, .ref (a 0)), (1, .int (nI j)), (2, .int (nI p)), (4, .int (iI v)), (5, .int (h p)), (6, .int (sPlace g (nI (1 - j)) (s (1 - j)) (h p))), (7, .int (iI (sBs (sFar g h s j p) u k).1)), (8, .int (sBs (sFar g h s j p) u k).2), (9, .int (iI (u + 1 + (k : Int))))]) C dX2_bestSlope_73 (by decide) rfl rfl ?_
      refine k_iload (q := 77) C 0 dX2_bestSlope_75 rfl rfl ?_
      refine k_iload (q := 79) C 8 dX2_bestSlope_77 rfl rfl ?_
      refine k_icmp_ge (tgt := 90) (q := 82) C dX2_bestSlope_79 (by decide) rfl ?_ ?_
      · intro c_79
        refine k_iinc (q := 93) (v := iI (u + 1 + ((k + 1 : Nat) : Int))) (fr2 := [(9, .int (iI (u + 1 + ((k + 1 : Nat) : Int)))), (10, .int (mAbs ((sPlace g (nI j) (iI (u + 1 + (k : Int))) (h p)) - (sPlace g (nI (1 - j)) (s (1 - j)) (h p))))), (0, .ref (a 0)), (1, .int (nI j)), (2, .int (nI p)), (4, .int (iI v)), (5, .int (h p)), (6, .int (sPlace g (nI (1 - j)) (s (1 - j)) (h p))), (7, .int (iI (sBs (sFar g h s j p) u k).1)), (8, .int (sBs (sFar g h s j p) u k).2)]) C 9 dX2_bestSlope_90 rfl ((show iI (u + 1 + (k : Int)) + iI 1 = _ from by rw [iI_add]; congr 1; omega)) (by decide) rfl rfl ?_
        refine k_goto (q := 51) C dX2_bestSlope_93 (by decide) ?_
        refine k_fr (fr2 := [(0, .ref (a 0)), (1, .int (nI j)), (2, .int (nI p)), (4, .int (iI v)), (5, .int (h p)), (6, .int (sPlace g (nI (1 - j)) (s (1 - j)) (h p))), (7, .int (iI (sBs (sFar g h s j p) u k).1)), (8, .int (sBs (sFar g h s j p) u k).2), (9, .int (iI (u + 1 + ((k + 1 : Nat) : Int))))]) ⟨[2, 3, 4, 5, 6, 7, 8, 9, 0], rfl⟩ ?_
        have K := ih (k + 1) (by omega) (by omega)
        first | rw [sBs_n c_79] at K | rw [sBs_y (Int32.not_le.mp c_79)] at K
        exact K
      · intro c_79
        refine k_iload (q := 84) C 9 dX2_bestSlope_82 rfl rfl ?_
        refine k_istore (q := 86) (fr2 := [(7, .int (iI (u + 1 + (k : Int)))), (10, .int (mAbs ((sPlace g (nI j) (iI (u + 1 + (k : Int))) (h p)) - (sPlace g (nI (1 - j)) (s (1 - j)) (h p))))), (0, .ref (a 0)), (1, .int (nI j)), (2, .int (nI p)), (4, .int (iI v)), (5, .int (h p)), (6, .int (sPlace g (nI (1 - j)) (s (1 - j)) (h p))), (8, .int (sBs (sFar g h s j p) u k).2), (9, .int (iI (u + 1 + (k : Int))))]) C dX2_bestSlope_84 (by decide) rfl rfl ?_
        refine k_iload (q := 88) C 1 dX2_bestSlope_86 rfl rfl ?_
        refine k_istore (q := 90) (fr2 := [(8, .int (mAbs ((sPlace g (nI j) (iI (u + 1 + (k : Int))) (h p)) - (sPlace g (nI (1 - j)) (s (1 - j)) (h p))))), (7, .int (iI (u + 1 + (k : Int)))), (10, .int (mAbs ((sPlace g (nI j) (iI (u + 1 + (k : Int))) (h p)) - (sPlace g (nI (1 - j)) (s (1 - j)) (h p))))), (0, .ref (a 0)), (1, .int (nI j)), (2, .int (nI p)), (4, .int (iI v)), (5, .int (h p)), (6, .int (sPlace g (nI (1 - j)) (s (1 - j)) (h p))), (9, .int (iI (u + 1 + (k : Int))))]) C dX2_bestSlope_88 (by decide) rfl rfl ?_
        refine k_iinc (q := 93) (v := iI (u + 1 + ((k + 1 : Nat) : Int))) (fr2 := [(9, .int (iI (u + 1 + ((k + 1 : Nat) : Int)))), (8, .int (mAbs ((sPlace g (nI j) (iI (u + 1 + (k : Int))) (h p)) - (sPlace g (nI (1 - j)) (s (1 - j)) (h p))))), (7, .int (iI (u + 1 + (k : Int)))), (10, .int (mAbs ((sPlace g (nI j) (iI (u + 1 + (k : Int))) (h p)) - (sPlace g (nI (1 - j)) (s (1 - j)) (h p))))), (0, .ref (a 0)), (1, .int (nI j)), (2, .int (nI p)), (4, .int (iI v)), (5, .int (h p)), (6, .int (sPlace g (nI (1 - j)) (s (1 - j)) (h p)))]) C 9 dX2_bestSlope_90 rfl ((show iI (u + 1 + (k : Int)) + iI 1 = _ from by rw [iI_add]; congr 1; omega)) (by decide) rfl rfl ?_
        refine k_goto (q := 51) C dX2_bestSlope_93 (by decide) ?_
        refine k_fr (fr2 := [(0, .ref (a 0)), (1, .int (nI j)), (2, .int (nI p)), (4, .int (iI v)), (5, .int (h p)), (6, .int (sPlace g (nI (1 - j)) (s (1 - j)) (h p))), (7, .int (iI (u + 1 + (k : Int)))), (8, .int (mAbs ((sPlace g (nI j) (iI (u + 1 + (k : Int))) (h p)) - (sPlace g (nI (1 - j)) (s (1 - j)) (h p))))), (9, .int (iI (u + 1 + ((k + 1 : Nat) : Int))))]) ⟨[4, 5, 6, 7, 8, 9, 2, 1, 0], rfl⟩ ?_
        have K := ih (k + 1) (by omega) (by omega)
        first | rw [sBs_n c_79] at K | rw [sBs_y (Int32.not_le.mp c_79)] at K
        exact K
set_option maxHeartbeats 4000000 in
set_option maxRecDepth 100000 in
theorem c_X2_bestSlope (cy : Nat → ClassId) (a : Nat → Nat) (n : Nat) (lit : Int32) (h : Nat → Int32) (t : Nat → Int32) (s : Nat → Int32) (g : Nat → Int32) (kn : Nat) (lo : Int32) (lf : Int32) (nm : Nat → Int32) (j : Nat) (p : Nat) (u : Int) (v : Int)  (hj : j < 2) (hp : p < 6) (hu : -30 ≤ u) (hv : v ≤ 30) (huv : u ≤ v) : kI yX2_bestSlope wsX2_bestSlope rm_X2_bestSlope cy [.ref (a 0), .int (nI j), .int (nI p), .int (iI u), .int (iI v)] (wSky a cy n lit h t s g kn lo lf nm) (iI (sBs (sFar g h s j p) u (v - u).toNat).1) (wSky a cy n lit h t s g kn lo lf nm) := by
  refine kI_of (cc := cX2_bestSlope) (maxL := 11) (rt := .int) (by decide) rfl (rfl) (Nat.le_of_ble_eq_true rfl) ?_
  intro X hR C E
  have C : kC X 11 RX2 cX2_bestSlope wsX2_bestSlope cy := C
  refine k_fr (fr2 := [(0, .ref (a 0)), (1, .int (nI j)), (2, .int (nI p)), (3, .int (iI u)), (4, .int (iI v))]) ⟨[0, 1, 2, 3, 4], rfl⟩ ?_
  refine k_aload_n (q := 1) C 0 dX2_bestSlope_0 rfl rfl ?_
  refine k_get (q := 4) (ci := 2) (v := .ref (a 1)) C 0 1 in2_X2_bestSlope rfl (List.mem_of_getElem? (i := 1) rfl) rfl rfl (by decide) rfl dX2_bestSlope_1 rfl ?_
  refine k_iload_n (q := 5) C 2 dX2_bestSlope_4 rfl rfl ?_
  refine k_iald (q := 6) C 1 rfl (vp_in_nI (n := p) (by omega) (by decide)) dX2_bestSlope_5 rfl ?_
  refine k_st (st2 := (.int (h p) :: _)) (congrArg (fun z => Value.int z :: _) (show h (nI p).toNatClampNeg = h p from congrArg h (nI_clamp (n := p) (by omega)))) ?_
  refine k_istore (q := 8) (fr2 := [(5, .int (h p)), (0, .ref (a 0)), (1, .int (nI j)), (2, .int (nI p)), (3, .int (iI u)), (4, .int (iI v))]) C dX2_bestSlope_6 (by decide) rfl rfl ?_
  refine k_aload_n (q := 9) C 1 dX2_bestSlope_8 rfl rfl ?_
  refine k_iconst (q := 10) (v := 1) C dX2_bestSlope_9 (by decide) rfl ?_
  refine k_iload_n (q := 11) C 2 dX2_bestSlope_10 rfl rfl ?_
  refine k_isub (q := 12) C dX2_bestSlope_11 rfl ?_
  refine k_st (st2 := (.int (nI (1 - j)) :: _)) (congrArg (fun z => Value.int z :: _) (show 1 - (nI j) = nI (1 - j) from pk_sub (a := 1) (b := j) (by omega))) ?_
  refine k_aload_n (q := 13) C 1 dX2_bestSlope_12 rfl rfl ?_
  refine k_get (q := 16) (ci := 2) (v := .ref (a 3)) C 0 3 in2_X2_bestSlope rfl (List.mem_of_getElem? (i := 2) rfl) rfl rfl (by decide) rfl dX2_bestSlope_13 rfl ?_
  refine k_iconst (q := 17) (v := 1) C dX2_bestSlope_16 (by decide) rfl ?_
  refine k_iload_n (q := 18) C 2 dX2_bestSlope_17 rfl rfl ?_
  refine k_isub (q := 19) C dX2_bestSlope_18 rfl ?_
  refine k_st (st2 := (.int (nI (1 - j)) :: _)) (congrArg (fun z => Value.int z :: _) (show 1 - (nI j) = nI (1 - j) from pk_sub (a := 1) (b := j) (by omega))) ?_
  refine k_iald (q := 20) C 3 rfl (vp_in_nI (n := 1 - j) (by omega) (by decide)) dX2_bestSlope_19 rfl ?_
  refine k_st (st2 := (.int (s (1 - j)) :: _)) (congrArg (fun z => Value.int z :: _) (show s (nI (1 - j)).toNatClampNeg = s (1 - j) from congrArg s (nI_clamp (n := 1 - j) (by omega)))) ?_
  refine k_iload (q := 22) C 0 dX2_bestSlope_20 rfl rfl ?_
  refine k_callVI (n := 3) (q := 25) (pre := ([] : va_W)) (post := ([] : va_W)) (w2 := (wSky a cy n lit h t s g kn lo lf nm)) (As := [.int (nI (1 - j)), .int (s (1 - j)), .int (h p)]) (rest := []) C (c_X2_place cy a n lit h t s g kn lo lf nm (nI (1 - j)) (s (1 - j)) (h p)) gX2_bestSlope_X2_place rfl rfl rfl (by decide +kernel) (k_room hR (by decide)) ⟨Nat.zero_le _, Nat.zero_le _⟩ (ci := 2) rfl 0 rfl rfl rfl (Nat.le_of_ble_eq_true rfl) ((List.append_nil _).symm) (List.append_nil _) dX2_bestSlope_22 rfl ?_
  refine k_istore (q := 27) (fr2 := [(6, .int (sPlace g (nI (1 - j)) (s (1 - j)) (h p))), (5, .int (h p)), (0, .ref (a 0)), (1, .int (nI j)), (2, .int (nI p)), (3, .int (iI u)), (4, .int (iI v))]) C dX2_bestSlope_25 (by decide) rfl rfl ?_
  refine k_iload_n (q := 28) C 5 dX2_bestSlope_27 rfl rfl ?_
  refine k_istore (q := 30) (fr2 := [(7, .int (iI u)), (6, .int (sPlace g (nI (1 - j)) (s (1 - j)) (h p))), (5, .int (h p)), (0, .ref (a 0)), (1, .int (nI j)), (2, .int (nI p)), (3, .int (iI u)), (4, .int (iI v))]) C dX2_bestSlope_28 (by decide) rfl rfl ?_
  refine k_aload_n (q := 31) C 3 dX2_bestSlope_30 rfl rfl ?_
  refine k_iload_n (q := 32) C 4 dX2_bestSlope_31 rfl rfl ?_
  refine k_iload_n (q := 33) C 6 dX2_bestSlope_32 rfl rfl ?_
  refine k_iload (q := 35) C 2 dX2_bestSlope_33 rfl rfl ?_
  refine k_callVI (n := 3) (q := 38) (pre := ([] : va_W)) (post := ([] : va_W)) (w2 := (wSky a cy n lit h t s g kn lo lf nm)) (As := [.int (nI j), .int (iI u), .int (h p)]) (rest := []) C (c_X2_place cy a n lit h t s g kn lo lf nm (nI j) (iI u) (h p)) gX2_bestSlope_X2_place rfl rfl rfl (by decide +kernel) (k_room hR (by decide)) ⟨Nat.zero_le _, Nat.zero_le _⟩ (ci := 2) rfl 0 rfl rfl rfl (Nat.le_of_ble_eq_true rfl) ((List.append_nil _).symm) (List.append_nil _) dX2_bestSlope_35 rfl ?_
  refine k_iload (q := 40) C 1 dX2_bestSlope_38 rfl rfl ?_
  refine k_isub (q := 41) C dX2_bestSlope_40 rfl ?_
  refine k_mabs (q := 44) C (List.mem_of_getElem? (i := 3) rfl) (List.mem_of_getElem? (i := 4) rfl) (List.mem_of_getElem? (i := 5) rfl) (List.mem_of_getElem? (i := 6) rfl) (k_roomM hR (by decide)) (Nat.le_of_ble_eq_true rfl) dX2_bestSlope_41 rfl ?_
  refine k_istore (q := 46) (fr2 := [(8, .int (mAbs ((sPlace g (nI j) (iI u) (h p)) - (sPlace g (nI (1 - j)) (s (1 - j)) (h p))))), (7, .int (iI u)), (6, .int (sPlace g (nI (1 - j)) (s (1 - j)) (h p))), (5, .int (h p)), (0, .ref (a 0)), (1, .int (nI j)), (2, .int (nI p)), (3, .int (iI u)), (4, .int (iI v))]) C dX2_bestSlope_44 (by decide) rfl rfl ?_
  refine k_iload_n (q := 47) C 7 dX2_bestSlope_46 rfl rfl ?_
  refine k_iconst (q := 48) (v := 1) C dX2_bestSlope_47 (by decide) rfl ?_
  refine k_iadd (q := 49) C dX2_bestSlope_48 rfl ?_
  refine k_st (st2 := (.int (iI (u + 1 + ((0 : Nat) : Int))) :: _)) (congrArg (fun z => Value.int z :: _) (show (iI u) + 1 = iI (u + 1 + ((0 : Nat) : Int)) from (show iI u + iI 1 = _ from by rw [iI_add, Int.natCast_zero, Int.add_zero]))) ?_
  refine k_istore (q := 51) (fr2 := [(9, .int (iI (u + 1 + ((0 : Nat) : Int)))), (8, .int (mAbs ((sPlace g (nI j) (iI u) (h p)) - (sPlace g (nI (1 - j)) (s (1 - j)) (h p))))), (7, .int (iI u)), (6, .int (sPlace g (nI (1 - j)) (s (1 - j)) (h p))), (5, .int (h p)), (0, .ref (a 0)), (1, .int (nI j)), (2, .int (nI p)), (3, .int (iI u)), (4, .int (iI v))]) C dX2_bestSlope_49 (by decide) rfl rfl ?_
  refine k_fr (fr2 := [(0, .ref (a 0)), (1, .int (nI j)), (2, .int (nI p)), (4, .int (iI v)), (5, .int (h p)), (6, .int (sPlace g (nI (1 - j)) (s (1 - j)) (h p))), (7, .int (iI u)), (8, .int (mAbs ((sPlace g (nI j) (iI u) (h p)) - (sPlace g (nI (1 - j)) (s (1 - j)) (h p))))), (9, .int (iI (u + 1 + ((0 : Nat) : Int))))]) ⟨[5, 6, 7, 9, 4, 3, 2, 1, 0], rfl⟩ ?_
  exact lp_X2_bestSlope_51 cy a n lit h t s g kn lo lf nm j p u v hj hp hu hv huv X hR C E _ 0 (Nat.lt_succ_self _) (by omega)
abbrev rm_X2_slopeFoundByTrying : Room := { frames := 2, cells := 0, slots := 0, locals := 54 }
theorem in2_X2_slopeFoundByTrying : ∀ w ∈ wsX20, w ∈ wsX2_slopeFoundByTrying := fun _ h => (List.mem_cons_of_mem _ (List.mem_append_right _ h))
set_option maxHeartbeats 4000000 in
set_option maxRecDepth 100000 in
theorem c_X2_slopeFoundByTrying (cy : Nat → ClassId) (a : Nat → Nat) (n : Nat) (lit : Int32) (h : Nat → Int32) (t : Nat → Int32) (s : Nat → Int32) (g : Nat → Int32) (kn : Nat) (lo : Int32) (lf : Int32) (nm : Nat → Int32) (j : Nat) (p : Nat)  (hj : j < 2) (hp : p < 6) : kI yX2_slopeFoundByTrying wsX2_slopeFoundByTrying rm_X2_slopeFoundByTrying cy [.ref (a 0), .int (nI j), .int (nI p)] (wSky a cy n lit h t s g kn lo lf nm) (iI (sTry g h s j p)) (wSky a cy n lit h t s g kn lo lf nm) := by
  refine kI_of (cc := cX2_slopeFoundByTrying) (maxL := 3) (rt := .int) (by decide) rfl (rfl) (Nat.le_of_ble_eq_true rfl) ?_
  intro X hR C E
  have C : kC X 3 RX2 cX2_slopeFoundByTrying wsX2_slopeFoundByTrying cy := C
  refine k_fr (fr2 := [(0, .ref (a 0)), (1, .int (nI j)), (2, .int (nI p))]) ⟨[0, 1, 2], rfl⟩ ?_
  refine k_aload_n (q := 1) C 0 dX2_slopeFoundByTrying_0 rfl rfl ?_
  refine k_iload_n (q := 2) C 1 dX2_slopeFoundByTrying_1 rfl rfl ?_
  refine k_iload_n (q := 3) C 2 dX2_slopeFoundByTrying_2 rfl rfl ?_
  refine k_bipush (q := 5) (v := -30) C dX2_slopeFoundByTrying_3 (by decide +kernel) rfl ?_
  refine k_bipush (q := 7) (v := 30) C dX2_slopeFoundByTrying_5 (by decide +kernel) rfl ?_
  refine k_callVI (n := 4) (q := 10) (pre := ([] : va_W)) (post := ([] : va_W)) (w2 := (wSky a cy n lit h t s g kn lo lf nm)) (As := [.int (nI j), .int (nI p), .int (-30), .int 30]) (rest := []) C (c_X2_bestSlope cy a n lit h t s g kn lo lf nm j p (-30) 30 (by omega) (by omega) (by omega) (by omega) (by omega)) gX2_slopeFoundByTrying_X2_bestSlope rfl rfl rfl (by decide +kernel) (k_room hR (by decide)) ⟨Nat.zero_le _, Nat.zero_le _⟩ (ci := 2) rfl 0 rfl rfl rfl (Nat.le_of_ble_eq_true rfl) ((List.append_nil _).symm) (List.append_nil _) dX2_slopeFoundByTrying_7 rfl ?_
  exact k_fin E dX2_slopeFoundByTrying_10 (rfl) (rfl)
abbrev rm_X2_slopeFoundByComputing : Room := { frames := 2, cells := 0, slots := 0, locals := 54 }
theorem in2_X2_slopeFoundByComputing : ∀ w ∈ wsX20, w ∈ wsX2_slopeFoundByComputing := fun _ h => (List.mem_cons_of_mem _ (List.mem_append_right _ h))
set_option maxHeartbeats 4000000 in
set_option maxRecDepth 100000 in
theorem c_X2_slopeFoundByComputing (cy : Nat → ClassId) (a : Nat → Nat) (n : Nat) (lit : Int32) (h : Nat → Int32) (t : Nat → Int32) (s : Nat → Int32) (g : Nat → Int32) (kn : Nat) (lo : Int32) (lf : Int32) (nm : Nat → Int32) (j : Nat) (p : Nat)  (hj : j < 2) (hp : p < 6) (hh : 0 < h p) : kI yX2_slopeFoundByComputing wsX2_slopeFoundByComputing rm_X2_slopeFoundByComputing cy [.ref (a 0), .int (nI j), .int (nI p)] (wSky a cy n lit h t s g kn lo lf nm) (iI (sCmp g h s j p)) (wSky a cy n lit h t s g kn lo lf nm) := by
  refine kI_of (cc := cX2_slopeFoundByComputing) (maxL := 6) (rt := .int) (by decide) rfl (rfl) (Nat.le_of_ble_eq_true rfl) ?_
  intro X hR C E
  have C : kC X 6 RX2 cX2_slopeFoundByComputing wsX2_slopeFoundByComputing cy := C
  refine k_fr (fr2 := [(0, .ref (a 0)), (1, .int (nI j)), (2, .int (nI p))]) ⟨[0, 1, 2], rfl⟩ ?_
  refine k_aload_n (q := 1) C 0 dX2_slopeFoundByComputing_0 rfl rfl ?_
  refine k_get (q := 4) (ci := 2) (v := .ref (a 1)) C 0 1 in2_X2_slopeFoundByComputing rfl (List.mem_of_getElem? (i := 1) rfl) rfl rfl (by decide) rfl dX2_slopeFoundByComputing_1 rfl ?_
  refine k_iload_n (q := 5) C 2 dX2_slopeFoundByComputing_4 rfl rfl ?_
  refine k_iald (q := 6) C 1 rfl (vp_in_nI (n := p) (by omega) (by decide)) dX2_slopeFoundByComputing_5 rfl ?_
  refine k_st (st2 := (.int (h p) :: _)) (congrArg (fun z => Value.int z :: _) (show h (nI p).toNatClampNeg = h p from congrArg h (nI_clamp (n := p) (by omega)))) ?_
  refine k_istore_n (q := 7) (fr2 := [(3, .int (h p)), (0, .ref (a 0)), (1, .int (nI j)), (2, .int (nI p))]) C dX2_slopeFoundByComputing_6 (by decide) rfl rfl ?_
  refine k_iload_n (q := 8) C 0 dX2_slopeFoundByComputing_7 rfl rfl ?_
  refine k_if_gt (tgt := 14) (q := 11) C dX2_slopeFoundByComputing_8 (by decide) rfl ?_ ?_
  · intro c_8
    refine k_aload_n (q := 15) C 1 dX2_slopeFoundByComputing_14 rfl rfl ?_
    refine k_iconst (q := 16) (v := 1) C dX2_slopeFoundByComputing_15 (by decide) rfl ?_
    refine k_iload_n (q := 17) C 2 dX2_slopeFoundByComputing_16 rfl rfl ?_
    refine k_isub (q := 18) C dX2_slopeFoundByComputing_17 rfl ?_
    refine k_st (st2 := (.int (nI (1 - j)) :: _)) (congrArg (fun z => Value.int z :: _) (show 1 - (nI j) = nI (1 - j) from pk_sub (a := 1) (b := j) (by omega))) ?_
    refine k_aload_n (q := 19) C 1 dX2_slopeFoundByComputing_18 rfl rfl ?_
    refine k_get (q := 22) (ci := 2) (v := .ref (a 3)) C 0 3 in2_X2_slopeFoundByComputing rfl (List.mem_of_getElem? (i := 2) rfl) rfl rfl (by decide) rfl dX2_slopeFoundByComputing_19 rfl ?_
    refine k_iconst (q := 23) (v := 1) C dX2_slopeFoundByComputing_22 (by decide) rfl ?_
    refine k_iload_n (q := 24) C 2 dX2_slopeFoundByComputing_23 rfl rfl ?_
    refine k_isub (q := 25) C dX2_slopeFoundByComputing_24 rfl ?_
    refine k_st (st2 := (.int (nI (1 - j)) :: _)) (congrArg (fun z => Value.int z :: _) (show 1 - (nI j) = nI (1 - j) from pk_sub (a := 1) (b := j) (by omega))) ?_
    refine k_iald (q := 26) C 3 rfl (vp_in_nI (n := 1 - j) (by omega) (by decide)) dX2_slopeFoundByComputing_25 rfl ?_
    refine k_st (st2 := (.int (s (1 - j)) :: _)) (congrArg (fun z => Value.int z :: _) (show s (nI (1 - j)).toNatClampNeg = s (1 - j) from congrArg s (nI_clamp (n := 1 - j) (by omega)))) ?_
    refine k_iload_n (q := 27) C 0 dX2_slopeFoundByComputing_26 rfl rfl ?_
    refine k_callVI (n := 3) (q := 30) (pre := ([] : va_W)) (post := ([] : va_W)) (w2 := (wSky a cy n lit h t s g kn lo lf nm)) (As := [.int (nI (1 - j)), .int (s (1 - j)), .int (h p)]) (rest := []) C (c_X2_place cy a n lit h t s g kn lo lf nm (nI (1 - j)) (s (1 - j)) (h p)) gX2_slopeFoundByComputing_X2_place rfl rfl rfl (by decide +kernel) (k_room hR (by decide)) ⟨Nat.zero_le _, Nat.zero_le _⟩ (ci := 2) rfl 0 rfl rfl rfl (Nat.le_of_ble_eq_true rfl) ((List.append_nil _).symm) (List.append_nil _) dX2_slopeFoundByComputing_27 rfl ?_
    refine k_aload_n (q := 31) C 1 dX2_slopeFoundByComputing_30 rfl rfl ?_
    refine k_iload_n (q := 32) C 2 dX2_slopeFoundByComputing_31 rfl rfl ?_
    refine k_iconst (q := 33) (v := 0) C dX2_slopeFoundByComputing_32 (by decide) rfl ?_
    refine k_iload_n (q := 34) C 0 dX2_slopeFoundByComputing_33 rfl rfl ?_
    refine k_callVI (n := 3) (q := 37) (pre := ([] : va_W)) (post := ([] : va_W)) (w2 := (wSky a cy n lit h t s g kn lo lf nm)) (As := [.int (nI j), .int 0, .int (h p)]) (rest := [.int (sPlace g (nI (1 - j)) (s (1 - j)) (h p))]) C (c_X2_place cy a n lit h t s g kn lo lf nm (nI j) 0 (h p)) gX2_slopeFoundByComputing_X2_place rfl rfl rfl (by decide +kernel) (k_room hR (by decide)) ⟨Nat.zero_le _, Nat.zero_le _⟩ (ci := 2) rfl 0 rfl rfl rfl (Nat.le_of_ble_eq_true rfl) ((List.append_nil _).symm) (List.append_nil _) dX2_slopeFoundByComputing_34 rfl ?_
    refine k_isub (q := 38) C dX2_slopeFoundByComputing_37 rfl ?_
    refine k_istore (q := 40) (fr2 := [(4, .int ((sPlace g (nI (1 - j)) (s (1 - j)) (h p)) - (sPlace g (nI j) 0 (h p)))), (3, .int (h p)), (0, .ref (a 0)), (1, .int (nI j)), (2, .int (nI p))]) C dX2_slopeFoundByComputing_38 (by decide) rfl rfl ?_
    refine k_bipush (q := 42) (v := -30) C dX2_slopeFoundByComputing_40 (by decide +kernel) rfl ?_
    refine k_bipush (q := 44) (v := 30) C dX2_slopeFoundByComputing_42 (by decide +kernel) rfl ?_
    refine k_bipush (q := 46) (v := 10) C dX2_slopeFoundByComputing_44 (by decide +kernel) rfl ?_
    refine k_iload (q := 48) C 0 dX2_slopeFoundByComputing_46 rfl rfl ?_
    refine k_imul (q := 49) C dX2_slopeFoundByComputing_48 rfl ?_
    refine k_iload_n (q := 50) C 1 dX2_slopeFoundByComputing_49 rfl rfl ?_
    refine k_idiv (q := 51) C dX2_slopeFoundByComputing_50 (fun e => by rw [e] at hh; exact absurd hh (by decide)) rfl ?_
    refine k_mmin (q := 54) C (List.mem_of_getElem? (i := 3) rfl) (List.mem_of_getElem? (i := 4) rfl) (List.mem_of_getElem? (i := 5) rfl) (List.mem_of_getElem? (i := 6) rfl) (k_roomM hR (by decide)) (Nat.le_of_ble_eq_true rfl) dX2_slopeFoundByComputing_51 rfl ?_
    refine k_mmax (q := 57) C (List.mem_of_getElem? (i := 7) rfl) (List.mem_of_getElem? (i := 8) rfl) (List.mem_of_getElem? (i := 5) rfl) (List.mem_of_getElem? (i := 9) rfl) (k_roomM hR (by decide)) (Nat.le_of_ble_eq_true rfl) dX2_slopeFoundByComputing_54 rfl ?_
    have hcl := sClamp_in (sCmpR g h s j p)
    refine k_st (st2 := (.int (iI (sClamp (sCmpR g h s j p))) :: _)) (congrArg (fun z => Value.int z :: _) (show mMax (-30) (mMin 30 ((10 * ((sPlace g (nI (1 - j)) (s (1 - j)) (h p)) - (sPlace g (nI j) 0 (h p)))) / (h p))) = iI (sClamp (sCmpR g h s j p)) from mClamp _)) ?_
    refine k_istore (q := 59) (fr2 := [(5, .int (iI (sClamp (sCmpR g h s j p)))), (4, .int ((sPlace g (nI (1 - j)) (s (1 - j)) (h p)) - (sPlace g (nI j) 0 (h p)))), (3, .int (h p)), (0, .ref (a 0)), (1, .int (nI j)), (2, .int (nI p))]) C dX2_slopeFoundByComputing_57 (by decide) rfl rfl ?_
    refine k_aload_n (q := 60) C 3 dX2_slopeFoundByComputing_59 rfl rfl ?_
    refine k_iload_n (q := 61) C 4 dX2_slopeFoundByComputing_60 rfl rfl ?_
    refine k_iload_n (q := 62) C 5 dX2_slopeFoundByComputing_61 rfl rfl ?_
    refine k_bipush (q := 64) (v := -30) C dX2_slopeFoundByComputing_62 (by decide +kernel) rfl ?_
    refine k_iload (q := 66) C 0 dX2_slopeFoundByComputing_64 rfl rfl ?_
    refine k_iconst (q := 67) (v := 1) C dX2_slopeFoundByComputing_66 (by decide) rfl ?_
    refine k_isub (q := 68) C dX2_slopeFoundByComputing_67 rfl ?_
    refine k_st (st2 := (.int (iI (sClamp (sCmpR g h s j p) - 1)) :: _)) (congrArg (fun z => Value.int z :: _) (show (iI (sClamp (sCmpR g h s j p))) - 1 = iI (sClamp (sCmpR g h s j p) - 1) from iI_sub _ 1)) ?_
    refine k_mmax (q := 71) C (List.mem_of_getElem? (i := 7) rfl) (List.mem_of_getElem? (i := 8) rfl) (List.mem_of_getElem? (i := 5) rfl) (List.mem_of_getElem? (i := 9) rfl) (k_roomM hR (by decide)) (Nat.le_of_ble_eq_true rfl) dX2_slopeFoundByComputing_68 rfl ?_
    refine k_st (st2 := (.int (iI (max (-30) (sClamp (sCmpR g h s j p) - 1))) :: _)) (congrArg (fun z => Value.int z :: _) (show mMax (-30) (iI (sClamp (sCmpR g h s j p) - 1)) = iI (max (-30) (sClamp (sCmpR g h s j p) - 1)) from mMax30 (by omega))) ?_
    refine k_bipush (q := 73) (v := 30) C dX2_slopeFoundByComputing_71 (by decide +kernel) rfl ?_
    refine k_iload (q := 75) C 0 dX2_slopeFoundByComputing_73 rfl rfl ?_
    refine k_iconst (q := 76) (v := 1) C dX2_slopeFoundByComputing_75 (by decide) rfl ?_
    refine k_iadd (q := 77) C dX2_slopeFoundByComputing_76 rfl ?_
    refine k_st (st2 := (.int (iI (sClamp (sCmpR g h s j p) + 1)) :: _)) (congrArg (fun z => Value.int z :: _) (show (iI (sClamp (sCmpR g h s j p))) + 1 = iI (sClamp (sCmpR g h s j p) + 1) from iI_add _ 1)) ?_
    refine k_mmin (q := 80) C (List.mem_of_getElem? (i := 3) rfl) (List.mem_of_getElem? (i := 4) rfl) (List.mem_of_getElem? (i := 5) rfl) (List.mem_of_getElem? (i := 6) rfl) (k_roomM hR (by decide)) (Nat.le_of_ble_eq_true rfl) dX2_slopeFoundByComputing_77 rfl ?_
    refine k_st (st2 := (.int (iI (min 30 (sClamp (sCmpR g h s j p) + 1))) :: _)) (congrArg (fun z => Value.int z :: _) (show mMin 30 (iI (sClamp (sCmpR g h s j p) + 1)) = iI (min 30 (sClamp (sCmpR g h s j p) + 1)) from mMin30 (by omega))) ?_
    refine k_callVI (n := 4) (q := 83) (pre := ([] : va_W)) (post := ([] : va_W)) (w2 := (wSky a cy n lit h t s g kn lo lf nm)) (As := [.int (nI j), .int (nI p), .int (iI (max (-30) (sClamp (sCmpR g h s j p) - 1))), .int (iI (min 30 (sClamp (sCmpR g h s j p) + 1)))]) (rest := []) C (c_X2_bestSlope cy a n lit h t s g kn lo lf nm j p (max (-30) (sClamp (sCmpR g h s j p) - 1)) (min 30 (sClamp (sCmpR g h s j p) + 1)) (by omega) (by omega) (by omega) (by omega) (by omega)) gX2_slopeFoundByComputing_X2_bestSlope rfl rfl rfl (by decide +kernel) (k_room hR (by decide)) ⟨Nat.zero_le _, Nat.zero_le _⟩ (ci := 2) rfl 0 rfl rfl rfl (Nat.le_of_ble_eq_true rfl) ((List.append_nil _).symm) (List.append_nil _) dX2_slopeFoundByComputing_80 rfl ?_
    exact k_fin E dX2_slopeFoundByComputing_83 (rfl) (rfl)
  · exact fun c_8 => absurd hh c_8
abbrev rm_X2_layerOfReadingWith : Room := { frames := 3, cells := 0, slots := 0, locals := 77 }
theorem in2_X2_layerOfReadingWith : ∀ w ∈ wsX20, w ∈ wsX2_layerOfReadingWith := fun _ h => (List.mem_cons_of_mem _ (List.mem_append_right _ h))
set_option maxHeartbeats 4000000 in
set_option maxRecDepth 100000 in
theorem c_X2_layerOfReadingWith (cy : Nat → ClassId) (a : Nat → Nat) (n : Nat) (lit : Int32) (h : Nat → Int32) (t : Nat → Int32) (s : Nat → Int32) (g : Nat → Int32) (kn : Nat) (lo : Int32) (lf : Int32) (nm : Nat → Int32) (j : Nat) (x : Int32)  (hn : n ≤ 6) (hj : j < 2) : kI yX2_layerOfReadingWith wsX2_layerOfReadingWith rm_X2_layerOfReadingWith cy [.ref (a 0), .int (nI j), .int x] (wSky a cy n lit h t s g kn lo lf nm) (sRl lit h t g n (sX s j x) (sY s j x)) (wSky a cy n lit h t s g kn lo lf nm) := by
  refine kI_of (cc := cX2_layerOfReadingWith) (maxL := 3) (rt := .int) (by decide) rfl (rfl) (Nat.le_of_ble_eq_true rfl) ?_
  intro X hR C E
  have C : kC X 3 RX2 cX2_layerOfReadingWith wsX2_layerOfReadingWith cy := C
  refine k_fr (fr2 := [(0, .ref (a 0)), (1, .int (nI j)), (2, .int x)]) ⟨[0, 1, 2], rfl⟩ ?_
  refine k_iload_n (q := 1) C 1 dX2_layerOfReadingWith_0 rfl rfl ?_
  refine k_nif_ne (a := j)  (tgt := 18) (q := 4) C dX2_layerOfReadingWith_1 (by decide) rfl (by omega) ?_ ?_
  · intro c_1
    refine k_aload_n (q := 19) C 0 dX2_layerOfReadingWith_18 rfl rfl ?_
    refine k_aload_n (q := 20) C 0 dX2_layerOfReadingWith_19 rfl rfl ?_
    refine k_get (q := 23) (ci := 2) (v := .ref (a 3)) C 0 3 in2_X2_layerOfReadingWith rfl (List.mem_of_getElem? (i := 1) rfl) rfl rfl (by decide) rfl dX2_layerOfReadingWith_20 rfl ?_
    refine k_iconst (q := 24) (v := 0) C dX2_layerOfReadingWith_23 (by decide) rfl ?_
    refine k_iald (q := 25) C 3 rfl (vp_in_nI (n := 0) (by decide) (by decide)) dX2_layerOfReadingWith_24 rfl ?_
    refine k_st (st2 := (.int (s 0) :: _)) (congrArg (fun z => Value.int z :: _) (show s (0 : Int32).toNatClampNeg = s 0 from congrArg s (nI_clamp (n := 0) (by decide)))) ?_
    refine k_iload_n (q := 26) C 2 dX2_layerOfReadingWith_25 rfl rfl ?_
    refine k_callVI (n := 2) (q := 29) (pre := ([] : va_W)) (post := ([] : va_W)) (w2 := (wSky a cy n lit h t s g kn lo lf nm)) (As := [.int (s 0), .int x]) (rest := []) C (c_X2_layerOfReading cy a n lit h t s g kn lo lf nm (s 0) x (by omega)) gX2_layerOfReadingWith_X2_layerOfReading rfl rfl rfl (by decide +kernel) (k_room hR (by decide)) ⟨Nat.zero_le _, Nat.zero_le _⟩ (ci := 2) rfl 0 rfl rfl rfl (Nat.le_of_ble_eq_true rfl) ((List.append_nil _).symm) (List.append_nil _) dX2_layerOfReadingWith_26 rfl ?_
    exact k_fin E dX2_layerOfReadingWith_29 (by first | (simp only [sX, sY, if_pos c_1]; done) | (simp only [sX, sY, if_neg (show ¬ j = 0 by omega)])) (rfl)
  · intro c_1
    refine k_aload_n (q := 5) C 0 dX2_layerOfReadingWith_4 rfl rfl ?_
    refine k_iload_n (q := 6) C 2 dX2_layerOfReadingWith_5 rfl rfl ?_
    refine k_aload_n (q := 7) C 0 dX2_layerOfReadingWith_6 rfl rfl ?_
    refine k_get (q := 10) (ci := 2) (v := .ref (a 3)) C 0 3 in2_X2_layerOfReadingWith rfl (List.mem_of_getElem? (i := 1) rfl) rfl rfl (by decide) rfl dX2_layerOfReadingWith_7 rfl ?_
    refine k_iconst (q := 11) (v := 1) C dX2_layerOfReadingWith_10 (by decide) rfl ?_
    refine k_iald (q := 12) C 3 rfl (vp_in_nI (n := 1) (by decide) (by decide)) dX2_layerOfReadingWith_11 rfl ?_
    refine k_st (st2 := (.int (s 1) :: _)) (congrArg (fun z => Value.int z :: _) (show s (1 : Int32).toNatClampNeg = s 1 from congrArg s (nI_clamp (n := 1) (by decide)))) ?_
    refine k_callVI (n := 2) (q := 15) (pre := ([] : va_W)) (post := ([] : va_W)) (w2 := (wSky a cy n lit h t s g kn lo lf nm)) (As := [.int x, .int (s 1)]) (rest := []) C (c_X2_layerOfReading cy a n lit h t s g kn lo lf nm x (s 1) (by omega)) gX2_layerOfReadingWith_X2_layerOfReading rfl rfl rfl (by decide +kernel) (k_room hR (by decide)) ⟨Nat.zero_le _, Nat.zero_le _⟩ (ci := 2) rfl 0 rfl rfl rfl (Nat.le_of_ble_eq_true rfl) ((List.append_nil _).symm) (List.append_nil _) dX2_layerOfReadingWith_12 rfl ?_
    refine k_goto (q := 29) C dX2_layerOfReadingWith_15 (by decide) ?_
    exact k_fin E dX2_layerOfReadingWith_29 (by first | (simp only [sX, sY, if_pos c_1]; done) | (simp only [sX, sY, if_neg (show ¬ j = 0 by omega)])) (rfl)
abbrev rm_X2_isFalseWith : Room := { frames := 2, cells := 0, slots := 0, locals := 45 }
theorem in2_X2_isFalseWith : ∀ w ∈ wsX20, w ∈ wsX2_isFalseWith := fun _ h => (List.mem_cons_of_mem _ (List.mem_append_right _ h))
set_option maxHeartbeats 4000000 in
set_option maxRecDepth 100000 in
theorem c_X2_isFalseWith (cy : Nat → ClassId) (a : Nat → Nat) (n : Nat) (lit : Int32) (h : Nat → Int32) (t : Nat → Int32) (s : Nat → Int32) (g : Nat → Int32) (kn : Nat) (lo : Int32) (lf : Int32) (nm : Nat → Int32) (j : Nat) (x : Int32) (p : Nat)  (hn : n ≤ 6) (hj : j < 2) (hp : p < n) : kI yX2_isFalseWith wsX2_isFalseWith rm_X2_isFalseWith cy [.ref (a 0), .int (nI j), .int x, .int (nI p)] (wSky a cy n lit h t s g kn lo lf nm) (bI (sFalse h n (sMeet g (sX s j x) (sY s j x)) p = true)) (wSky a cy n lit h t s g kn lo lf nm) := by
  refine kI_of (cc := cX2_isFalseWith) (maxL := 5) (rt := .boolean) (by decide) rfl (kb_nar _) (Nat.le_of_ble_eq_true rfl) ?_
  intro X hR C E
  have C : kC X 5 RX2 cX2_isFalseWith wsX2_isFalseWith cy := C
  refine k_fr (fr2 := [(0, .ref (a 0)), (1, .int (nI j)), (2, .int x), (3, .int (nI p))]) ⟨[0, 1, 2, 3], rfl⟩ ?_
  refine k_iload_n (q := 1) C 1 dX2_isFalseWith_0 rfl rfl ?_
  refine k_nif_ne (a := j)  (tgt := 18) (q := 4) C dX2_isFalseWith_1 (by decide) rfl (by omega) ?_ ?_
  · intro c_1
    refine k_aload_n (q := 19) C 0 dX2_isFalseWith_18 rfl rfl ?_
    refine k_aload_n (q := 20) C 0 dX2_isFalseWith_19 rfl rfl ?_
    refine k_get (q := 23) (ci := 2) (v := .ref (a 3)) C 0 3 in2_X2_isFalseWith rfl (List.mem_of_getElem? (i := 1) rfl) rfl rfl (by decide) rfl dX2_isFalseWith_20 rfl ?_
    refine k_iconst (q := 24) (v := 0) C dX2_isFalseWith_23 (by decide) rfl ?_
    refine k_iald (q := 25) C 3 rfl (vp_in_nI (n := 0) (by decide) (by decide)) dX2_isFalseWith_24 rfl ?_
    refine k_st (st2 := (.int (s 0) :: _)) (congrArg (fun z => Value.int z :: _) (show s (0 : Int32).toNatClampNeg = s 0 from congrArg s (nI_clamp (n := 0) (by decide)))) ?_
    refine k_iload_n (q := 26) C 2 dX2_isFalseWith_25 rfl rfl ?_
    refine k_callVI (n := 2) (q := 29) (pre := ([] : va_W)) (post := ([] : va_W)) (w2 := (wSky a cy n lit h t s g kn lo lf nm)) (As := [.int (s 0), .int x]) (rest := []) C (c_X2_meetingHeight cy a n lit h t s g kn lo lf nm (s 0) x) gX2_isFalseWith_X2_meetingHeight rfl rfl rfl (by decide +kernel) (k_room hR (by decide)) ⟨Nat.zero_le _, Nat.zero_le _⟩ (ci := 2) rfl 0 rfl rfl rfl (Nat.le_of_ble_eq_true rfl) ((List.append_nil _).symm) (List.append_nil _) dX2_isFalseWith_26 rfl ?_
    refine k_istore (q := 31) (fr2 := [(4, .int (sMeet g (s 0) x)), (0, .ref (a 0)), (1, .int (nI j)), (2, .int x), (3, .int (nI p))]) C dX2_isFalseWith_29 (by decide) rfl rfl ?_
    refine k_aload_n (q := 32) C 1 dX2_isFalseWith_31 rfl rfl ?_
    refine k_iload (q := 34) C 0 dX2_isFalseWith_32 rfl rfl ?_
    refine k_iload_n (q := 35) C 4 dX2_isFalseWith_34 rfl rfl ?_
    refine k_callVI (n := 2) (q := 38) (pre := ([] : va_W)) (post := ([] : va_W)) (w2 := (wSky a cy n lit h t s g kn lo lf nm)) (As := [.int (sMeet g (s 0) x), .int (nI p)]) (rest := []) C (c_X2_isFalse cy a n lit h t s g kn lo lf nm (sMeet g (s 0) x) p (by omega) (by omega)) gX2_isFalseWith_X2_isFalse rfl rfl rfl (by decide +kernel) (k_room hR (by decide)) ⟨Nat.zero_le _, Nat.zero_le _⟩ (ci := 2) rfl 0 rfl rfl rfl (Nat.le_of_ble_eq_true rfl) ((List.append_nil _).symm) (List.append_nil _) dX2_isFalseWith_35 rfl ?_
    exact k_fin E dX2_isFalseWith_38 (by first | (simp only [sX, sY, if_pos c_1]; done) | (simp only [sX, sY, if_neg (show ¬ j = 0 by omega)])) (rfl)
  · intro c_1
    refine k_aload_n (q := 5) C 0 dX2_isFalseWith_4 rfl rfl ?_
    refine k_iload_n (q := 6) C 2 dX2_isFalseWith_5 rfl rfl ?_
    refine k_aload_n (q := 7) C 0 dX2_isFalseWith_6 rfl rfl ?_
    refine k_get (q := 10) (ci := 2) (v := .ref (a 3)) C 0 3 in2_X2_isFalseWith rfl (List.mem_of_getElem? (i := 1) rfl) rfl rfl (by decide) rfl dX2_isFalseWith_7 rfl ?_
    refine k_iconst (q := 11) (v := 1) C dX2_isFalseWith_10 (by decide) rfl ?_
    refine k_iald (q := 12) C 3 rfl (vp_in_nI (n := 1) (by decide) (by decide)) dX2_isFalseWith_11 rfl ?_
    refine k_st (st2 := (.int (s 1) :: _)) (congrArg (fun z => Value.int z :: _) (show s (1 : Int32).toNatClampNeg = s 1 from congrArg s (nI_clamp (n := 1) (by decide)))) ?_
    refine k_callVI (n := 2) (q := 15) (pre := ([] : va_W)) (post := ([] : va_W)) (w2 := (wSky a cy n lit h t s g kn lo lf nm)) (As := [.int x, .int (s 1)]) (rest := []) C (c_X2_meetingHeight cy a n lit h t s g kn lo lf nm x (s 1)) gX2_isFalseWith_X2_meetingHeight rfl rfl rfl (by decide +kernel) (k_room hR (by decide)) ⟨Nat.zero_le _, Nat.zero_le _⟩ (ci := 2) rfl 0 rfl rfl rfl (Nat.le_of_ble_eq_true rfl) ((List.append_nil _).symm) (List.append_nil _) dX2_isFalseWith_12 rfl ?_
    refine k_goto (q := 29) C dX2_isFalseWith_15 (by decide) ?_
    refine k_istore (q := 31) (fr2 := [(4, .int (sMeet g x (s 1))), (0, .ref (a 0)), (1, .int (nI j)), (2, .int x), (3, .int (nI p))]) C dX2_isFalseWith_29 (by decide) rfl rfl ?_
    refine k_aload_n (q := 32) C 1 dX2_isFalseWith_31 rfl rfl ?_
    refine k_iload (q := 34) C 0 dX2_isFalseWith_32 rfl rfl ?_
    refine k_iload_n (q := 35) C 4 dX2_isFalseWith_34 rfl rfl ?_
    refine k_callVI (n := 2) (q := 38) (pre := ([] : va_W)) (post := ([] : va_W)) (w2 := (wSky a cy n lit h t s g kn lo lf nm)) (As := [.int (sMeet g x (s 1)), .int (nI p)]) (rest := []) C (c_X2_isFalse cy a n lit h t s g kn lo lf nm (sMeet g x (s 1)) p (by omega) (by omega)) gX2_isFalseWith_X2_isFalse rfl rfl rfl (by decide +kernel) (k_room hR (by decide)) ⟨Nat.zero_le _, Nat.zero_le _⟩ (ci := 2) rfl 0 rfl rfl rfl (Nat.le_of_ble_eq_true rfl) ((List.append_nil _).symm) (List.append_nil _) dX2_isFalseWith_35 rfl ?_
    exact k_fin E dX2_isFalseWith_38 (by first | (simp only [sX, sY, if_pos c_1]; done) | (simp only [sX, sY, if_neg (show ¬ j = 0 by omega)])) (rfl)
abbrev rm_X2_slopesWithReading : Room := { frames := 4, cells := 0, slots := 0, locals := 99 }
theorem in2_X2_slopesWithReading : ∀ w ∈ wsX20, w ∈ wsX2_slopesWithReading := fun _ h => (List.mem_cons_of_mem _ (List.mem_append_right _ h))
set_option maxHeartbeats 4000000 in
set_option maxRecDepth 100000 in
theorem lp_X2_slopesWithReading_6 (cy : Nat → ClassId) (a : Nat → Nat) (n : Nat) (lit : Int32) (h : Nat → Int32) (t : Nat → Int32) (s : Nat → Int32) (g : Nat → Int32) (kn : Nat) (lo : Int32) (lf : Int32) (nm : Nat → Int32) (j : Nat) (b : Bool)  (hn : n ≤ 6) (hj : j < 2) (X : kX) (hR : xR X = rm_X2_slopesWithReading) (C : kC X 6 RX2 cX2_slopesWithReading wsX2_slopesWithReading cy) (E : kEnd X 6 cX2_slopesWithReading (nI (sCnt (fun k => sWith lit h t s g n j b (-30 + (k : Int))) 61)) (wSky a cy n lit h t s g kn lo lf nm)) : ∀ (fu : Nat) (k : Nat), 61 - k < fu → (k ≤ 61) → kG X 6 0 0 (wSky a cy n lit h t s g kn lo lf nm) 6 [(0, .ref (a 0)), (1, .int (nI j)), (2, .int (bI (b = true))), (3, .int (nI (sCnt (fun k => sWith lit h t s g n j b (-30 + (k : Int))) k))), (4, .int (iI (-30 + (k : Int))))] [] := by
  intro fu
  induction fu with
  | zero => intro k hfu; exact absurd hfu (Nat.not_lt_zero _)
  | succ fu ih =>
    intro k hfu hk
    refine k_iload (q := 8) C 4 dX2_slopesWithReading_6 rfl rfl ?_
    refine k_bipush (q := 10) (v := 30) C dX2_slopesWithReading_8 (by decide +kernel) rfl ?_
    refine k_icmp_gt (tgt := 53) (q := 13) C dX2_slopesWithReading_10 (by decide) rfl ?_ ?_
    · intro c_10
      have c1 : 30 < -30 + (k : Int) := (iI_lt (a := 30) (by omega) (by omega)).mp c_10
      have hke : k = 61 := by omega
      obtain rfl : k = 61 := hke
      refine k_iload_n (q := 54) C 3 dX2_slopesWithReading_53 rfl rfl ?_
      exact k_fin E dX2_slopesWithReading_54 (rfl) (rfl)
    · intro c_10
      have c1 : ¬ 30 < -30 + (k : Int) := fun q => c_10 ((iI_lt (a := 30) (by omega) (by omega)).mpr q)
      refine k_aload_n (q := 14) C 0 dX2_slopesWithReading_13 rfl rfl ?_
      refine k_iload_n (q := 15) C 1 dX2_slopesWithReading_14 rfl rfl ?_
      refine k_iload (q := 17) C 4 dX2_slopesWithReading_15 rfl rfl ?_
      refine k_callVI (n := 2) (q := 20) (pre := ([] : va_W)) (post := ([] : va_W)) (w2 := (wSky a cy n lit h t s g kn lo lf nm)) (As := [.int (nI j), .int (iI (-30 + (k : Int)))]) (rest := []) C (c_X2_layerOfReadingWith cy a n lit h t s g kn lo lf nm j (iI (-30 + (k : Int))) (by omega) (by omega)) gX2_slopesWithReading_X2_layerOfReadingWith rfl rfl rfl (by decide +kernel) (k_room hR (by decide)) ⟨Nat.zero_le _, Nat.zero_le _⟩ (ci := 2) rfl 0 rfl rfl rfl (Nat.le_of_ble_eq_true rfl) ((List.append_nil _).symm) (List.append_nil _) dX2_slopesWithReading_17 rfl ?_
      refine k_istore (q := 22) (fr2 := [(5, .int (sRl lit h t g n (sX s j (iI (-30 + (k : Int)))) (sY s j (iI (-30 + (k : Int)))))), (0, .ref (a 0)), (1, .int (nI j)), (2, .int (bI (b = true))), (3, .int (nI (sCnt (fun k => sWith lit h t s g n j b (-30 + (k : Int))) k))), (4, .int (iI (-30 + (k : Int))))]) C dX2_slopesWithReading_20 (by decide) rfl rfl ?_
      refine k_iload (q := 24) C 0 dX2_slopesWithReading_22 rfl rfl ?_
      refine k_iconst (q := 25) (v := -1) C dX2_slopesWithReading_24 (by decide) rfl ?_
      refine k_icmp_eq (tgt := 47) (q := 28) C dX2_slopesWithReading_25 (by decide) rfl ?_ ?_
      · intro c_25
        refine k_iinc (q := 50) (v := iI (-30 + ((k + 1 : Nat) : Int))) (fr2 := [(4, .int (iI (-30 + ((k + 1 : Nat) : Int)))), (5, .int (sRl lit h t g n (sX s j (iI (-30 + (k : Int)))) (sY s j (iI (-30 + (k : Int)))))), (0, .ref (a 0)), (1, .int (nI j)), (2, .int (bI (b = true))), (3, .int (nI (sCnt (fun k => sWith lit h t s g n j b (-30 + (k : Int))) k)))]) C 5 dX2_slopesWithReading_47 rfl ((show iI (-30 + (k : Int)) + iI 1 = _ from by rw [iI_add]; congr 1; omega)) (by decide) rfl rfl ?_
        refine k_goto (q := 6) C dX2_slopesWithReading_50 (by decide) ?_
        refine k_fr (fr2 := [(0, .ref (a 0)), (1, .int (nI j)), (2, .int (bI (b = true))), (3, .int (nI (sCnt (fun k => sWith lit h t s g n j b (-30 + (k : Int))) k))), (4, .int (iI (-30 + ((k + 1 : Nat) : Int))))]) ⟨[2, 3, 4, 5, 0], rfl⟩ ?_
        have K := ih (k + 1) (by omega) (by omega)
        first | rw [sCnt_n (k := k) (sWith_no c_25)] at K | rw [sCnt_n (k := k) (fun q => c_41 ((sWith_t c_25 ep (by omega) c_29).mp q))] at K | rw [sCnt_y (k := k) ((sWith_t c_25 ep (by omega) c_29).mpr c_41)] at K | rw [sCnt_y (k := k) (show sWith lit h t s g n j b (-30 + (k : Int)) = true by rw [Bool.not_eq_true] at c_29; rw [c_29]; exact sWith_f c_25)] at K
        exact K
      · intro c_25
        obtain ⟨p, hp, ep⟩ := sRl_ex c_25
        have e_28_5 : sRl lit h t g n (sX s j (iI (-30 + (k : Int)))) (sY s j (iI (-30 + (k : Int)))) = nI p := ep
        rw [e_28_5]
        refine k_iload_n (q := 29) C 3 dX2_slopesWithReading_28 rfl rfl ?_
        refine k_ifB_eq (tgt := 44) (q := 32) C dX2_slopesWithReading_29 (by decide) rfl ?_ ?_
        · intro c_29
          refine k_iinc (q := 47) (v := nI (sCnt (fun k => sWith lit h t s g n j b (-30 + (k : Int))) k + 1)) (fr2 := [(3, .int (nI (sCnt (fun k => sWith lit h t s g n j b (-30 + (k : Int))) k + 1))), (5, .int (nI p)), (0, .ref (a 0)), (1, .int (nI j)), (2, .int (bI (b = true))), (4, .int (iI (-30 + (k : Int))))]) C 4 dX2_slopesWithReading_44 rfl (nI_add (sCnt (fun k => sWith lit h t s g n j b (-30 + (k : Int))) k) 1) (by decide) rfl rfl ?_
          refine k_iinc (q := 50) (v := iI (-30 + ((k + 1 : Nat) : Int))) (fr2 := [(4, .int (iI (-30 + ((k + 1 : Nat) : Int)))), (3, .int (nI (sCnt (fun k => sWith lit h t s g n j b (-30 + (k : Int))) k + 1))), (5, .int (nI p)), (0, .ref (a 0)), (1, .int (nI j)), (2, .int (bI (b = true)))]) C 5 dX2_slopesWithReading_47 rfl ((show iI (-30 + (k : Int)) + iI 1 = _ from by rw [iI_add]; congr 1; omega)) (by decide) rfl rfl ?_
          refine k_goto (q := 6) C dX2_slopesWithReading_50 (by decide) ?_
          refine k_fr (fr2 := [(0, .ref (a 0)), (1, .int (nI j)), (2, .int (bI (b = true))), (3, .int (nI (sCnt (fun k => sWith lit h t s g n j b (-30 + (k : Int))) k + 1))), (4, .int (iI (-30 + ((k + 1 : Nat) : Int))))]) ⟨[3, 4, 5, 1, 0], rfl⟩ ?_
          have K := ih (k + 1) (by omega) (by omega)
          first | rw [sCnt_n (k := k) (sWith_no c_25)] at K | rw [sCnt_n (k := k) (fun q => c_41 ((sWith_t c_25 ep (by omega) c_29).mp q))] at K | rw [sCnt_y (k := k) ((sWith_t c_25 ep (by omega) c_29).mpr c_41)] at K | rw [sCnt_y (k := k) (show sWith lit h t s g n j b (-30 + (k : Int)) = true by rw [Bool.not_eq_true] at c_29; rw [c_29]; exact sWith_f c_25)] at K
          exact K
        · intro c_29
          refine k_aload_n (q := 33) C 1 dX2_slopesWithReading_32 rfl rfl ?_
          refine k_iload_n (q := 34) C 2 dX2_slopesWithReading_33 rfl rfl ?_
          refine k_iload (q := 36) C 5 dX2_slopesWithReading_34 rfl rfl ?_
          refine k_iload (q := 38) C 0 dX2_slopesWithReading_36 rfl rfl ?_
          refine k_callVI (n := 3) (q := 41) (pre := ([] : va_W)) (post := ([] : va_W)) (w2 := (wSky a cy n lit h t s g kn lo lf nm)) (As := [.int (nI j), .int (iI (-30 + (k : Int))), .int (nI p)]) (rest := []) C (c_X2_isFalseWith cy a n lit h t s g kn lo lf nm j (iI (-30 + (k : Int))) p (by omega) (by omega) (by omega)) gX2_slopesWithReading_X2_isFalseWith rfl rfl rfl (by decide +kernel) (k_room hR (by decide)) ⟨Nat.zero_le _, Nat.zero_le _⟩ (ci := 2) rfl 0 rfl rfl rfl (Nat.le_of_ble_eq_true rfl) ((List.append_nil _).symm) (List.append_nil _) dX2_slopesWithReading_38 rfl ?_
          refine k_ifB_eq (tgt := 47) (q := 44) C dX2_slopesWithReading_41 (by decide) rfl ?_ ?_
          · intro c_41
            refine k_iinc (q := 50) (v := iI (-30 + ((k + 1 : Nat) : Int))) (fr2 := [(4, .int (iI (-30 + ((k + 1 : Nat) : Int)))), (5, .int (nI p)), (0, .ref (a 0)), (1, .int (nI j)), (2, .int (bI (b = true))), (3, .int (nI (sCnt (fun k => sWith lit h t s g n j b (-30 + (k : Int))) k)))]) C 5 dX2_slopesWithReading_47 rfl ((show iI (-30 + (k : Int)) + iI 1 = _ from by rw [iI_add]; congr 1; omega)) (by decide) rfl rfl ?_
            refine k_goto (q := 6) C dX2_slopesWithReading_50 (by decide) ?_
            refine k_fr (fr2 := [(0, .ref (a 0)), (1, .int (nI j)), (2, .int (bI (b = true))), (3, .int (nI (sCnt (fun k => sWith lit h t s g n j b (-30 + (k : Int))) k))), (4, .int (iI (-30 + ((k + 1 : Nat) : Int))))]) ⟨[2, 3, 4, 5, 0], rfl⟩ ?_
            have K := ih (k + 1) (by omega) (by omega)
            first | rw [sCnt_n (k := k) (sWith_no c_25)] at K | rw [sCnt_n (k := k) (fun q => c_41 ((sWith_t c_25 ep (by omega) c_29).mp q))] at K | rw [sCnt_y (k := k) ((sWith_t c_25 ep (by omega) c_29).mpr c_41)] at K | rw [sCnt_y (k := k) (show sWith lit h t s g n j b (-30 + (k : Int)) = true by rw [Bool.not_eq_true] at c_29; rw [c_29]; exact sWith_f c_25)] at K
            exact K
          · intro c_41
            refine k_iinc (q := 47) (v := nI (sCnt (fun k => sWith lit h t s g n j b (-30 + (k : Int))) k + 1)) (fr2 := [(3, .int (nI (sCnt (fun k => sWith lit h t s g n j b (-30 + (k : Int))) k + 1))), (5, .int (nI p)), (0, .ref (a 0)), (1, .int (nI j)), (2, .int (bI (b = true))), (4, .int (iI (-30 + (k : Int))))]) C 4 dX2_slopesWithReading_44 rfl (nI_add (sCnt (fun k => sWith lit h t s g n j b (-30 + (k : Int))) k) 1) (by decide) rfl rfl ?_
            refine k_iinc (q := 50) (v := iI (-30 + ((k + 1 : Nat) : Int))) (fr2 := [(4, .int (iI (-30 + ((k + 1 : Nat) : Int)))), (3, .int (nI (sCnt (fun k => sWith lit h t s g n j b (-30 + (k : Int))) k + 1))), (5, .int (nI p)), (0, .ref (a 0)), (1, .int (nI j)), (2, .int (bI (b = true)))]) C 5 dX2_slopesWithReading_47 rfl ((show iI (-30 + (k : Int)) + iI 1 = _ from by rw [iI_add]; congr 1; omega)) (by decide) rfl rfl ?_
            refine k_goto (q := 6) C dX2_slopesWithReading_50 (by decide) ?_
            refine k_fr (fr2 := [(0, .ref (a 0)), (1, .int (nI j)), (2, .int (bI (b = true))), (3, .int (nI (sCnt (fun k => sWith lit h t s g n j b (-30 + (k : Int))) k + 1))), (4, .int (iI (-30 + ((k + 1 : Nat) : Int))))]) ⟨[3, 4, 5, 1, 0], rfl⟩ ?_
            have K := ih (k + 1) (by omega) (by omega)
            first | rw [sCnt_n (k := k) (sWith_no c_25)] at K | rw [sCnt_n (k := k) (fun q => c_41 ((sWith_t c_25 ep (by omega) c_29).mp q))] at K | rw [sCnt_y (k := k) ((sWith_t c_25 ep (by omega) c_29).mpr c_41)] at K | rw [sCnt_y (k := k) (show sWith lit h t s g n j b (-30 + (k : Int)) = true by rw [Bool.not_eq_true] at c_29; rw [c_29]; exact sWith_f c_25)] at K
            exact K
set_option maxHeartbeats 4000000 in
set_option maxRecDepth 100000 in
theorem c_X2_slopesWithReading (cy : Nat → ClassId) (a : Nat → Nat) (n : Nat) (lit : Int32) (h : Nat → Int32) (t : Nat → Int32) (s : Nat → Int32) (g : Nat → Int32) (kn : Nat) (lo : Int32) (lf : Int32) (nm : Nat → Int32) (j : Nat) (b : Bool)  (hn : n ≤ 6) (hj : j < 2) : kI yX2_slopesWithReading wsX2_slopesWithReading rm_X2_slopesWithReading cy [.ref (a 0), .int (nI j), .int (bI (b = true))] (wSky a cy n lit h t s g kn lo lf nm) (nI (sCnt (fun k => sWith lit h t s g n j b (-30 + (k : Int))) 61)) (wSky a cy n lit h t s g kn lo lf nm) := by
  refine kI_of (cc := cX2_slopesWithReading) (maxL := 6) (rt := .int) (by decide) rfl (rfl) (Nat.le_of_ble_eq_true rfl) ?_
  intro X hR C E
  have C : kC X 6 RX2 cX2_slopesWithReading wsX2_slopesWithReading cy := C
  refine k_fr (fr2 := [(0, .ref (a 0)), (1, .int (nI j)), (2, .int (bI (b = true)))]) ⟨[0, 1, 2], rfl⟩ ?_
  refine k_iconst (q := 1) (v := 0) C dX2_slopesWithReading_0 (by decide) rfl ?_
  refine k_istore_n (q := 2) (fr2 := [(3, .int 0), (0, .ref (a 0)), (1, .int (nI j)), (2, .int (bI (b = true)))]) C dX2_slopesWithReading_1 (by decide) rfl rfl ?_
  refine k_bipush (q := 4) (v := -30) C dX2_slopesWithReading_2 (by decide +kernel) rfl ?_
  refine k_istore (q := 6) (fr2 := [(4, .int (-30)), (3, .int 0), (0, .ref (a 0)), (1, .int (nI j)), (2, .int (bI (b = true)))]) C dX2_slopesWithReading_4 (by decide) rfl rfl ?_
  refine k_fr (fr2 := [(0, .ref (a 0)), (1, .int (nI j)), (2, .int (bI (b = true))), (3, .int 0), (4, .int (-30))]) ⟨[2, 3, 4, 1, 0], rfl⟩ ?_
  exact lp_X2_slopesWithReading_6 cy a n lit h t s g kn lo lf nm j b hn hj X hR C E _ 0 (Nat.lt_succ_self _) (by omega)
abbrev rm_X2_outermostSlopeWithReading : Room := { frames := 4, cells := 0, slots := 0, locals := 99 }
theorem in2_X2_outermostSlopeWithReading : ∀ w ∈ wsX20, w ∈ wsX2_outermostSlopeWithReading := fun _ h => (List.mem_cons_of_mem _ (List.mem_append_right _ h))
set_option maxHeartbeats 4000000 in
set_option maxRecDepth 100000 in
theorem lp_X2_outermostSlopeWithReading_3 (cy : Nat → ClassId) (a : Nat → Nat) (n : Nat) (lit : Int32) (h : Nat → Int32) (t : Nat → Int32) (s : Nat → Int32) (g : Nat → Int32) (kn : Nat) (lo : Int32) (lf : Int32) (nm : Nat → Int32) (j : Nat) (b : Bool)  (hn : n ≤ 6) (hj : j < 2) (X : kX) (hR : xR X = rm_X2_outermostSlopeWithReading) (C : kC X 5 RX2 cX2_outermostSlopeWithReading wsX2_outermostSlopeWithReading cy) (E : kEnd X 5 cX2_outermostSlopeWithReading (sOut lit h t s g n j b) (wSky a cy n lit h t s g kn lo lf nm)) : ∀ (fu : Nat) (k : Nat), 61 - k < fu → (k ≤ 61) → (sAnyL (fun k => sWith lit h t s g n j false (sSl b k)) k = false) → kG X 5 0 0 (wSky a cy n lit h t s g kn lo lf nm) 3 [(0, .ref (a 0)), (1, .int (nI j)), (2, .int (bI (b = true))), (3, .int (iI (-30 + (k : Int))))] [] := by
  intro fu
  induction fu with
  | zero => intro k hfu; exact absurd hfu (Nat.not_lt_zero _)
  | succ fu ih =>
    intro k hfu hk ha
    refine k_iload_n (q := 4) C 3 dX2_outermostSlopeWithReading_3 rfl rfl ?_
    refine k_bipush (q := 6) (v := 30) C dX2_outermostSlopeWithReading_4 (by decide +kernel) rfl ?_
    refine k_icmp_gt (tgt := 44) (q := 9) C dX2_outermostSlopeWithReading_6 (by decide) rfl ?_ ?_
    · intro c_6
      have c1 : 30 < -30 + (k : Int) := (iI_lt (a := 30) (by omega) (by omega)).mp c_6
      refine k_ldc (q := 46) (v := -99999) C (List.mem_of_getElem? (i := 1) rfl) dX2_outermostSlopeWithReading_44 rfl ?_
      exact k_fin E dX2_outermostSlopeWithReading_46 (by unfold sOut; rw [show k = 61 by omega] at ha; rw [sFst_no ha, if_neg (by omega)]) (rfl)
    · intro c_6
      have c1 : ¬ 30 < -30 + (k : Int) := fun q => c_6 ((iI_lt (a := 30) (by omega) (by omega)).mpr q)
      refine k_iload_n (q := 10) C 2 dX2_outermostSlopeWithReading_9 rfl rfl ?_
      refine k_ifB_eq (tgt := 18) (q := 13) C dX2_outermostSlopeWithReading_10 (by decide) rfl ?_ ?_
      · intro c_10
        refine k_iload_n (q := 19) C 3 dX2_outermostSlopeWithReading_18 rfl rfl ?_
        refine k_st (st2 := (.int (iI (sSl b k)) :: _)) (congrArg (fun z => Value.int z :: _) (show iI (-30 + (k : Int)) = iI (sSl b k) from by unfold sSl; first | (rw [if_pos c_10, iI_neg]) | (rw [if_neg c_10]))) ?_
        refine k_istore (q := 21) (fr2 := [(4, .int (iI (sSl b k))), (0, .ref (a 0)), (1, .int (nI j)), (2, .int (bI (b = true))), (3, .int (iI (-30 + (k : Int))))]) C dX2_outermostSlopeWithReading_19 (by decide) rfl rfl ?_
        refine k_aload_n (q := 22) C 1 dX2_outermostSlopeWithReading_21 rfl rfl ?_
        refine k_iload_n (q := 23) C 2 dX2_outermostSlopeWithReading_22 rfl rfl ?_
        refine k_iload (q := 25) C 0 dX2_outermostSlopeWithReading_23 rfl rfl ?_
        refine k_callVI (n := 2) (q := 28) (pre := ([] : va_W)) (post := ([] : va_W)) (w2 := (wSky a cy n lit h t s g kn lo lf nm)) (As := [.int (nI j), .int (iI (sSl b k))]) (rest := []) C (c_X2_layerOfReadingWith cy a n lit h t s g kn lo lf nm j (iI (sSl b k)) (by omega) (by omega)) gX2_outermostSlopeWithReading_X2_layerOfReadingWith rfl rfl rfl (by decide +kernel) (k_room hR (by decide)) ⟨Nat.zero_le _, Nat.zero_le _⟩ (ci := 2) rfl 0 rfl rfl rfl (Nat.le_of_ble_eq_true rfl) ((List.append_nil _).symm) (List.append_nil _) dX2_outermostSlopeWithReading_25 rfl ?_
        refine k_iconst (q := 29) (v := -1) C dX2_outermostSlopeWithReading_28 (by decide) rfl ?_
        refine k_icmp_eq (tgt := 38) (q := 32) C dX2_outermostSlopeWithReading_29 (by decide) rfl ?_ ?_
        · intro c_29
          refine k_iinc (q := 41) (v := iI (-30 + ((k + 1 : Nat) : Int))) (fr2 := [(3, .int (iI (-30 + ((k + 1 : Nat) : Int)))), (4, .int (iI (sSl b k))), (0, .ref (a 0)), (1, .int (nI j)), (2, .int (bI (b = true)))]) C 4 dX2_outermostSlopeWithReading_38 rfl ((show iI (-30 + (k : Int)) + iI 1 = _ from by rw [iI_add]; congr 1; omega)) (by decide) rfl rfl ?_
          refine k_goto (q := 3) C dX2_outermostSlopeWithReading_41 (by decide) ?_
          refine k_fr (fr2 := [(0, .ref (a 0)), (1, .int (nI j)), (2, .int (bI (b = true))), (3, .int (iI (-30 + ((k + 1 : Nat) : Int))))]) ⟨[2, 3, 4, 0], rfl⟩ ?_
          exact ih (k + 1) (by omega) (by omega) (sAnyL_s ha (sWith_no c_29))
        · intro c_29
          refine k_iload (q := 34) C 0 dX2_outermostSlopeWithReading_32 rfl rfl ?_
          refine k_bipush (q := 36) (v := 100) C dX2_outermostSlopeWithReading_34 (by decide +kernel) rfl ?_
          refine k_iadd (q := 37) C dX2_outermostSlopeWithReading_36 rfl ?_
          exact k_fin E dX2_outermostSlopeWithReading_37 (by unfold sOut; rw [sFst_at ha (by omega) (sWith_f c_29), if_pos (by omega)]) (rfl)
      · intro c_10
        refine k_iload_n (q := 14) C 3 dX2_outermostSlopeWithReading_13 rfl rfl ?_
        refine k_ineg (q := 15) C dX2_outermostSlopeWithReading_14 rfl ?_
        refine k_goto (q := 19) C dX2_outermostSlopeWithReading_15 (by decide) ?_
        refine k_st (st2 := (.int (iI (sSl b k)) :: _)) (congrArg (fun z => Value.int z :: _) (show -(iI (-30 + (k : Int))) = iI (sSl b k) from by unfold sSl; first | (rw [if_pos c_10, iI_neg]) | (rw [if_neg c_10]))) ?_
        refine k_istore (q := 21) (fr2 := [(4, .int (iI (sSl b k))), (0, .ref (a 0)), (1, .int (nI j)), (2, .int (bI (b = true))), (3, .int (iI (-30 + (k : Int))))]) C dX2_outermostSlopeWithReading_19 (by decide) rfl rfl ?_
        refine k_aload_n (q := 22) C 1 dX2_outermostSlopeWithReading_21 rfl rfl ?_
        refine k_iload_n (q := 23) C 2 dX2_outermostSlopeWithReading_22 rfl rfl ?_
        refine k_iload (q := 25) C 0 dX2_outermostSlopeWithReading_23 rfl rfl ?_
        refine k_callVI (n := 2) (q := 28) (pre := ([] : va_W)) (post := ([] : va_W)) (w2 := (wSky a cy n lit h t s g kn lo lf nm)) (As := [.int (nI j), .int (iI (sSl b k))]) (rest := []) C (c_X2_layerOfReadingWith cy a n lit h t s g kn lo lf nm j (iI (sSl b k)) (by omega) (by omega)) gX2_outermostSlopeWithReading_X2_layerOfReadingWith rfl rfl rfl (by decide +kernel) (k_room hR (by decide)) ⟨Nat.zero_le _, Nat.zero_le _⟩ (ci := 2) rfl 0 rfl rfl rfl (Nat.le_of_ble_eq_true rfl) ((List.append_nil _).symm) (List.append_nil _) dX2_outermostSlopeWithReading_25 rfl ?_
        refine k_iconst (q := 29) (v := -1) C dX2_outermostSlopeWithReading_28 (by decide) rfl ?_
        refine k_icmp_eq (tgt := 38) (q := 32) C dX2_outermostSlopeWithReading_29 (by decide) rfl ?_ ?_
        · intro c_29
          refine k_iinc (q := 41) (v := iI (-30 + ((k + 1 : Nat) : Int))) (fr2 := [(3, .int (iI (-30 + ((k + 1 : Nat) : Int)))), (4, .int (iI (sSl b k))), (0, .ref (a 0)), (1, .int (nI j)), (2, .int (bI (b = true)))]) C 4 dX2_outermostSlopeWithReading_38 rfl ((show iI (-30 + (k : Int)) + iI 1 = _ from by rw [iI_add]; congr 1; omega)) (by decide) rfl rfl ?_
          refine k_goto (q := 3) C dX2_outermostSlopeWithReading_41 (by decide) ?_
          refine k_fr (fr2 := [(0, .ref (a 0)), (1, .int (nI j)), (2, .int (bI (b = true))), (3, .int (iI (-30 + ((k + 1 : Nat) : Int))))]) ⟨[2, 3, 4, 0], rfl⟩ ?_
          exact ih (k + 1) (by omega) (by omega) (sAnyL_s ha (sWith_no c_29))
        · intro c_29
          refine k_iload (q := 34) C 0 dX2_outermostSlopeWithReading_32 rfl rfl ?_
          refine k_bipush (q := 36) (v := 100) C dX2_outermostSlopeWithReading_34 (by decide +kernel) rfl ?_
          refine k_iadd (q := 37) C dX2_outermostSlopeWithReading_36 rfl ?_
          exact k_fin E dX2_outermostSlopeWithReading_37 (by unfold sOut; rw [sFst_at ha (by omega) (sWith_f c_29), if_pos (by omega)]) (rfl)
set_option maxHeartbeats 4000000 in
set_option maxRecDepth 100000 in
theorem c_X2_outermostSlopeWithReading (cy : Nat → ClassId) (a : Nat → Nat) (n : Nat) (lit : Int32) (h : Nat → Int32) (t : Nat → Int32) (s : Nat → Int32) (g : Nat → Int32) (kn : Nat) (lo : Int32) (lf : Int32) (nm : Nat → Int32) (j : Nat) (b : Bool)  (hn : n ≤ 6) (hj : j < 2) : kI yX2_outermostSlopeWithReading wsX2_outermostSlopeWithReading rm_X2_outermostSlopeWithReading cy [.ref (a 0), .int (nI j), .int (bI (b = true))] (wSky a cy n lit h t s g kn lo lf nm) (sOut lit h t s g n j b) (wSky a cy n lit h t s g kn lo lf nm) := by
  refine kI_of (cc := cX2_outermostSlopeWithReading) (maxL := 5) (rt := .int) (by decide) rfl (rfl) (Nat.le_of_ble_eq_true rfl) ?_
  intro X hR C E
  have C : kC X 5 RX2 cX2_outermostSlopeWithReading wsX2_outermostSlopeWithReading cy := C
  refine k_fr (fr2 := [(0, .ref (a 0)), (1, .int (nI j)), (2, .int (bI (b = true)))]) ⟨[0, 1, 2], rfl⟩ ?_
  refine k_bipush (q := 2) (v := -30) C dX2_outermostSlopeWithReading_0 (by decide +kernel) rfl ?_
  refine k_istore_n (q := 3) (fr2 := [(3, .int (-30)), (0, .ref (a 0)), (1, .int (nI j)), (2, .int (bI (b = true)))]) C dX2_outermostSlopeWithReading_2 (by decide) rfl rfl ?_
  refine k_fr (fr2 := [(0, .ref (a 0)), (1, .int (nI j)), (2, .int (bI (b = true))), (3, .int (-30))]) ⟨[1, 2, 3, 0], rfl⟩ ?_
  exact lp_X2_outermostSlopeWithReading_3 cy a n lit h t s g kn lo lf nm j b hn hj X hR C E _ 0 (Nat.lt_succ_self _) (by omega) rfl
abbrev rm_X2_spotNumber : Room := { frames := 2, cells := 0, slots := 0, locals := 48 }
theorem in2_X2_spotNumber : ∀ w ∈ wsX20, w ∈ wsX2_spotNumber := fun _ h => (List.mem_cons_of_mem _ (List.mem_append_right _ h))
set_option maxHeartbeats 4000000 in
set_option maxRecDepth 100000 in
theorem c_X2_spotNumber (cy : Nat → ClassId) (a : Nat → Nat) (n : Nat) (lit : Int32) (h : Nat → Int32) (t : Nat → Int32) (s : Nat → Int32) (g : Nat → Int32) (kn : Nat) (lo : Int32) (lf : Int32) (nm : Nat → Int32) (j : Nat) (p : Nat) (x : Int32)  (hj : j < 2) (hp : p < 6) : kI yX2_spotNumber wsX2_spotNumber rm_X2_spotNumber cy [.ref (a 0), .int (nI j), .int (nI p), .int x] (wSky a cy n lit h t s g kn lo lf nm) (sSpot h t s g j p x) (wSky a cy n lit h t s g kn lo lf nm) := by
  refine kI_of (cc := cX2_spotNumber) (maxL := 6) (rt := .int) (by decide) rfl (rfl) (Nat.le_of_ble_eq_true rfl) ?_
  intro X hR C E
  have C : kC X 6 RX2 cX2_spotNumber wsX2_spotNumber cy := C
  refine k_fr (fr2 := [(0, .ref (a 0)), (1, .int (nI j)), (2, .int (nI p)), (3, .int x)]) ⟨[0, 1, 2, 3], rfl⟩ ?_
  refine k_aload_n (q := 1) C 0 dX2_spotNumber_0 rfl rfl ?_
  refine k_iload_n (q := 2) C 2 dX2_spotNumber_1 rfl rfl ?_
  refine k_callVI (n := 1) (q := 5) (pre := ([] : va_W)) (post := ([] : va_W)) (w2 := (wSky a cy n lit h t s g kn lo lf nm)) (As := [.int (nI p)]) (rest := []) C (c_X2_strengthAt cy a n lit h t s g kn lo lf nm p (by omega)) gX2_spotNumber_X2_strengthAt rfl rfl rfl (by decide +kernel) (k_room hR (by decide)) ⟨Nat.zero_le _, Nat.zero_le _⟩ (ci := 2) rfl 0 rfl rfl rfl (Nat.le_of_ble_eq_true rfl) ((List.append_nil _).symm) (List.append_nil _) dX2_spotNumber_2 rfl ?_
  refine k_istore (q := 7) (fr2 := [(4, .int (sCo h t (g 1) p)), (0, .ref (a 0)), (1, .int (nI j)), (2, .int (nI p)), (3, .int x)]) C dX2_spotNumber_5 (by decide) rfl rfl ?_
  refine k_iload (q := 9) C 0 dX2_spotNumber_7 rfl rfl ?_
  refine k_aload_n (q := 10) C 1 dX2_spotNumber_9 rfl rfl ?_
  refine k_get (q := 13) (ci := 2) (v := .ref (a 2)) C 0 2 in2_X2_spotNumber rfl (List.mem_of_getElem? (i := 1) rfl) rfl rfl (by decide) rfl dX2_spotNumber_10 rfl ?_
  refine k_iload_n (q := 14) C 3 dX2_spotNumber_13 rfl rfl ?_
  refine k_iald (q := 15) C 2 rfl (vp_in_nI (n := p) (by omega) (by decide)) dX2_spotNumber_14 rfl ?_
  refine k_st (st2 := (.int (t p) :: _)) (congrArg (fun z => Value.int z :: _) (show t (nI p).toNatClampNeg = t p from congrArg t (nI_clamp (n := p) (by omega)))) ?_
  refine k_callSI (n := 2) (q := 18) (pre := ([] : va_W)) (post := (wSky a cy n lit h t s g kn lo lf nm)) (w2 := (wSky a cy n lit h t s g kn lo lf nm)) (As := [.int (sCo h t (g 1) p), .int (t p)]) (rest := []) C (c_X2_brightness (sCo h t (g 1) p) (t p)) gX2_spotNumber_X2_brightness rfl rfl rfl (by decide +kernel) (k_room hR (by decide)) ⟨Nat.zero_le _, Nat.zero_le _⟩  rfl rfl (Nat.le_of_ble_eq_true rfl) (rfl) (rfl) dX2_spotNumber_15 rfl ?_
  refine k_istore (q := 20) (fr2 := [(5, .int (sBri (sCo h t (g 1) p) (t p))), (4, .int (sCo h t (g 1) p)), (0, .ref (a 0)), (1, .int (nI j)), (2, .int (nI p)), (3, .int x)]) C dX2_spotNumber_18 (by decide) rfl rfl ?_
  refine k_iload_n (q := 21) C 5 dX2_spotNumber_20 rfl rfl ?_
  by_cases s_21_0 : x = 0
  · refine k_tabIn (q := 52) (off := 31) C dX2_spotNumber_21 (by rw [s_21_0]; decide +kernel) (by rw [s_21_0]; decide +kernel) (by rw [s_21_0]; decide +kernel) (by decide) ?_
    refine k_aload_n (q := 53) C 2 dX2_spotNumber_52 rfl rfl ?_
    refine k_iload_n (q := 54) C 3 dX2_spotNumber_53 rfl rfl ?_
    refine k_aload_n (q := 55) C 2 dX2_spotNumber_54 rfl rfl ?_
    refine k_get (q := 58) (ci := 2) (v := .ref (a 3)) C 0 3 in2_X2_spotNumber rfl (List.mem_of_getElem? (i := 2) rfl) rfl rfl (by decide) rfl dX2_spotNumber_55 rfl ?_
    refine k_iload_n (q := 59) C 3 dX2_spotNumber_58 rfl rfl ?_
    refine k_iald (q := 60) C 3 rfl (vp_in_nI (n := j) (by omega) (by decide)) dX2_spotNumber_59 rfl ?_
    refine k_st (st2 := (.int (s j) :: _)) (congrArg (fun z => Value.int z :: _) (show s (nI j).toNatClampNeg = s j from congrArg s (nI_clamp (n := j) (by omega)))) ?_
    refine k_aload_n (q := 61) C 2 dX2_spotNumber_60 rfl rfl ?_
    refine k_get (q := 64) (ci := 2) (v := .ref (a 1)) C 0 1 in2_X2_spotNumber rfl (List.mem_of_getElem? (i := 3) rfl) rfl rfl (by decide) rfl dX2_spotNumber_61 rfl ?_
    refine k_iload_n (q := 65) C 4 dX2_spotNumber_64 rfl rfl ?_
    refine k_iald (q := 66) C 1 rfl (vp_in_nI (n := p) (by omega) (by decide)) dX2_spotNumber_65 rfl ?_
    refine k_st (st2 := (.int (h p) :: _)) (congrArg (fun z => Value.int z :: _) (show h (nI p).toNatClampNeg = h p from congrArg h (nI_clamp (n := p) (by omega)))) ?_
    refine k_callVI (n := 3) (q := 69) (pre := ([] : va_W)) (post := ([] : va_W)) (w2 := (wSky a cy n lit h t s g kn lo lf nm)) (As := [.int (nI j), .int (s j), .int (h p)]) (rest := []) C (c_X2_place cy a n lit h t s g kn lo lf nm (nI j) (s j) (h p)) gX2_spotNumber_X2_place rfl rfl rfl (by decide +kernel) (k_room hR (by decide)) ⟨Nat.zero_le _, Nat.zero_le _⟩ (ci := 2) rfl 0 rfl rfl rfl (Nat.le_of_ble_eq_true rfl) ((List.append_nil _).symm) (List.append_nil _) dX2_spotNumber_66 rfl ?_
    exact k_fin E dX2_spotNumber_69 (by rw [sSpot, if_pos s_21_0]) (rfl)
  by_cases s_21_1 : x = 1
  · refine k_tabIn (q := 70) (off := 49) C dX2_spotNumber_21 (by rw [s_21_1]; decide +kernel) (by rw [s_21_1]; decide +kernel) (by rw [s_21_1]; decide +kernel) (by decide) ?_
    refine k_iload (q := 72) C 0 dX2_spotNumber_70 rfl rfl ?_
    exact k_fin E dX2_spotNumber_72 (by rw [sSpot, if_neg s_21_0, if_pos s_21_1]; rfl) (rfl)
  by_cases s_21_2 : x = 2
  · refine k_tabIn (q := 73) (off := 52) C dX2_spotNumber_21 (by rw [s_21_2]; decide +kernel) (by rw [s_21_2]; decide +kernel) (by rw [s_21_2]; decide +kernel) (by decide) ?_
    refine k_iload (q := 75) C 0 dX2_spotNumber_73 rfl rfl ?_
    refine k_aload_n (q := 76) C 2 dX2_spotNumber_75 rfl rfl ?_
    refine k_get (q := 79) (ci := 2) (v := .ref (a 4)) C 0 4 in2_X2_spotNumber rfl (List.mem_of_getElem? (i := 4) rfl) rfl rfl (by decide) rfl dX2_spotNumber_76 rfl ?_
    refine k_iconst (q := 80) (v := 2) C dX2_spotNumber_79 (by decide) rfl ?_
    refine k_iald (q := 81) C 4 rfl (vp_in_nI (n := 2) (by decide) (by decide)) dX2_spotNumber_80 rfl ?_
    refine k_st (st2 := (.int (g 2) :: _)) (congrArg (fun z => Value.int z :: _) (show g (2 : Int32).toNatClampNeg = g 2 from congrArg g (nI_clamp (n := 2) (by decide)))) ?_
    refine k_icmp_lt (tgt := 88) (q := 84) C dX2_spotNumber_81 (by decide) rfl ?_ ?_
    · intro c_81
      refine k_iconst (q := 89) (v := 0) C dX2_spotNumber_88 (by decide) rfl ?_
      exact k_fin E dX2_spotNumber_89 (by rw [sSpot, if_neg s_21_0, if_neg s_21_1, if_pos s_21_2]; first | exact bI_t (decide_eq_true (Int32.not_lt.mp c_81)) | exact bI_f (fun q => Int32.not_le.mpr c_81 (of_decide_eq_true q))) (rfl)
    · intro c_81
      refine k_iconst (q := 85) (v := 1) C dX2_spotNumber_84 (by decide) rfl ?_
      refine k_goto (q := 89) C dX2_spotNumber_85 (by decide) ?_
      exact k_fin E dX2_spotNumber_89 (by rw [sSpot, if_neg s_21_0, if_neg s_21_1, if_pos s_21_2]; first | exact bI_t (decide_eq_true (Int32.not_lt.mp c_81)) | exact bI_f (fun q => Int32.not_le.mpr c_81 (of_decide_eq_true q))) (rfl)
  by_cases s_21_3 : x = 3
  · refine k_tabIn (q := 90) (off := 69) C dX2_spotNumber_21 (by rw [s_21_3]; decide +kernel) (by rw [s_21_3]; decide +kernel) (by rw [s_21_3]; decide +kernel) (by decide) ?_
    refine k_iload (q := 92) C 1 dX2_spotNumber_90 rfl rfl ?_
    exact k_fin E dX2_spotNumber_92 (by rw [sSpot, if_neg s_21_0, if_neg s_21_1, if_neg s_21_2, if_pos s_21_3]) (rfl)
  refine k_tabOut (q := 93) C dX2_spotNumber_21 (by have t_0 := lv_neT (a := 0) s_21_0 (by decide +kernel); have t_1 := lv_neT (a := 1) s_21_1 (by decide +kernel); have t_2 := lv_neT (a := 2) s_21_2 (by decide +kernel); have t_3 := lv_neT (a := 3) s_21_3 (by decide +kernel); omega) (by decide) ?_
  refine k_iload (q := 95) C 1 dX2_spotNumber_93 rfl rfl ?_
  refine k_iload (q := 97) C 0 dX2_spotNumber_95 rfl rfl ?_
  refine k_isub (q := 98) C dX2_spotNumber_97 rfl ?_
  exact k_fin E dX2_spotNumber_98 (by rw [sSpot, if_neg s_21_0, if_neg s_21_1, if_neg s_21_2, if_neg s_21_3]; rfl) (rfl)
