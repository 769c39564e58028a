abbrev rm_X3_saveState : Room := { frames := 4, cells := 0, slots := 0, locals := 95 }
theorem in0_X3_saveState : ∀ w ∈ wsX00, w ∈ wsX3_saveState := fun _ h => (List.mem_cons_of_mem _ (List.mem_append_right _ h))
theorem in2_X3_saveState : ∀ w ∈ wsX20, w ∈ wsX3_saveState := fun _ h => (List.mem_cons_of_mem _ (List.mem_append_left _ (List.mem_append_right _ h)))
theorem in3_X3_saveState : ∀ w ∈ wsX30, w ∈ wsX3_saveState := fun _ h => (List.mem_cons_of_mem _ (List.mem_append_left _ (List.mem_append_left _ (List.mem_append_right _ h))))
set_option maxHeartbeats 4000000 in
set_option maxRecDepth 100000 in
theorem c_X3_saveState (cy : Nat → ClassId) (a : Nat → Nat) (b : Nat → Nat) (r : Nat) (nx : Nat) (sn : Nat) (ln : Nat) (sk : Nat → Nat → Nat) (S : Nat → CK) (ik : Nat → Int32) (bf : Nat → Nat) (kd : Nat) (hg : Nat) (nu : Nat) (dg : Nat) (ng : Bool) (tk : Bool) (n : Nat) (lit : Int32) (h : Nat → Int32) (t : Nat → Int32) (s : Nat → Int32) (g : Nat → Int32) (kn : Nat) (lo : Int32) (lf : Int32) (nm : Nat → Int32)  (hnx : nx < 6) (hsn : sn ≤ 6) : kV yX3_saveState wsX3_saveState rm_X3_saveState cy [.ref (b 0)] ((wXo b cy (a 0) r nx sn ln (svOf sk) (kpOf sk) ik bf ++ wRd r kd hg nu dg ng tk) ++ (wSky a cy n lit h t s g kn lo lf nm ++ wOth sk cy S)) ((wXo b cy (a 0) r ((nx + 1) % 6) (min (sn + 1) 6) ln (svOf sk) (kpOf sk) ik bf ++ wRd r kd hg nu dg ng tk) ++ (wSky a cy n lit h t s g kn lo lf nm ++ wOth sk cy (updS S nx (cLike (n, lit, h, t, s, g, kn, lo, lf, nm) (S nx))))) := by
  refine kV_of (cc := cX3_saveState) (maxL := 1) (by decide) rfl (Nat.le_of_ble_eq_true rfl) ?_
  intro X hR C E
  have C : kC X 1 RX3 cX3_saveState wsX3_saveState cy := C
  refine k_fr (fr2 := [(0, .ref (b 0))]) ⟨[0], rfl⟩ ?_
  refine k_aload_n (q := 1) C 0 dX3_saveState_0 rfl rfl ?_
  refine k_get (q := 4) (ci := 3) (v := .ref (a 0)) C 0 0 in3_X3_saveState rfl (List.mem_of_getElem? (i := 1) rfl) rfl rfl (by decide) rfl dX3_saveState_1 rfl ?_
  refine k_aload_n (q := 5) C 0 dX3_saveState_4 rfl rfl ?_
  refine k_get (q := 8) (ci := 3) (v := .ref (b 1)) C 0 1 in3_X3_saveState rfl (List.mem_of_getElem? (i := 2) rfl) rfl rfl (by decide) rfl dX3_saveState_5 rfl ?_
  refine k_aload_n (q := 9) C 0 dX3_saveState_8 rfl rfl ?_
  refine k_get (q := 12) (ci := 3) (v := .int (nI nx)) C 0 2 in3_X3_saveState rfl (List.mem_of_getElem? (i := 3) rfl) rfl rfl (by decide) rfl dX3_saveState_9 rfl ?_
  refine k_aald (q := 13) (v := .ref (sk nx 0)) C 1 rfl (vp_in_nI (n := nx) (by omega) (by decide)) (by rw [nI_clamp (n := nx) (by omega)]; exact sv_rf (by omega)) dX3_saveState_12 rfl ?_
  refine k_perm (w2 := (wXo b cy (a 0) r nx sn ln (svOf sk) (kpOf sk) ik bf ++ wRd r kd hg nu dg ng tk) ++ ((wSk2 a (sk nx) cy ((n, lit, h, t, s, g, kn, lo, lf, nm) : CK) (S nx)) ++ (wOthE sk cy S nx))) (oth_out (a := a) (S := S) (k := nx) (x := ((n, lit, h, t, s, g, kn, lo, lf, nm) : CK)) (by omega)) ?_
  refine k_callSV (n := 2) (q := 16) (pre := (wXo b cy (a 0) r nx sn ln (svOf sk) (kpOf sk) ik bf ++ wRd r kd hg nu dg ng tk)) (mid := (wSk2 a (sk nx) cy ((n, lit, h, t, s, g, kn, lo, lf, nm) : CK) (S nx))) (mid1 := (wSk2 a (sk nx) cy ((n, lit, h, t, s, g, kn, lo, lf, nm) : CK) (cLike ((n, lit, h, t, s, g, kn, lo, lf, nm) : CK) (S nx)))) (post := (wOthE sk cy S nx)) (w2 := (wXo b cy (a 0) r nx sn ln (svOf sk) (kpOf sk) ik bf ++ wRd r kd hg nu dg ng tk) ++ ((wSk2 a (sk nx) cy ((n, lit, h, t, s, g, kn, lo, lf, nm) : CK) (cLike ((n, lit, h, t, s, g, kn, lo, lf, nm) : CK) (S nx))) ++ (wOthE sk cy S nx))) (As := [.ref (a 0), .ref ((sk nx) 0)]) (rest := []) C (c_X3_copySky cy a (sk nx) n lit h t s g kn lo lf nm (qN (S nx)) (qLit (S nx)) (qH (S nx)) (qT (S nx)) (qS (S nx)) (qG (S nx)) (qK (S nx)) (qLo (S nx)) (qLf (S nx)) (qNm (S nx))) gX3_saveState_X3_copySky rfl rfl rfl (by decide +kernel) (k_room hR (by decide)) ⟨Nat.zero_le _, Nat.zero_le _⟩ rfl rfl (Nat.le_of_ble_eq_true rfl) rfl rfl dX3_saveState_13 rfl ?_
  refine k_perm (w2 := ((wXo b cy (a 0) r nx sn ln (svOf sk) (kpOf sk) ik bf ++ wRd r kd hg nu dg ng tk) ++ (wSky a cy n lit h t s g kn lo lf nm ++ wOth sk cy (updS S nx (cLike ((n, lit, h, t, s, g, kn, lo, lf, nm) : CK) (S nx)))))) (oth_in (x := ((n, lit, h, t, s, g, kn, lo, lf, nm) : CK)) (by omega)) ?_
  refine k_aload_n (q := 17) C 0 dX3_saveState_16 rfl rfl ?_
  refine k_aload_n (q := 18) C 0 dX3_saveState_17 rfl rfl ?_
  refine k_get (q := 21) (ci := 3) (v := .int (nI nx)) C 0 2 in3_X3_saveState rfl (List.mem_of_getElem? (i := 3) rfl) rfl rfl (by decide) rfl dX3_saveState_18 rfl ?_
  refine k_iconst (q := 22) (v := 1) C dX3_saveState_21 (by decide) rfl ?_
  refine k_iadd (q := 23) C dX3_saveState_22 rfl ?_
  refine k_st (st2 := (.int (nI (nx + 1)) :: _)) (congrArg (fun z => Value.int z :: _) (show (nI nx) + 1 = nI (nx + 1) from nI_add nx 1)) ?_
  refine k_bipush (q := 25) (v := 6) C dX3_saveState_23 (by decide +kernel) rfl ?_
  refine k_irem (q := 26) C dX3_saveState_25 (by decide) rfl ?_
  refine k_st (st2 := (.int (nI ((nx + 1) % 6)) :: _)) (congrArg (fun z => Value.int z :: _) (show (nI (nx + 1)) - (nI (nx + 1)) / 6 * 6 = nI ((nx + 1) % 6) from nI_rem6 (by omega))) ?_
  refine k_put (q := 29) (ci := 3) (v := .int (nI ((nx + 1) % 6))) (w2 := ((wXo b cy (a 0) r ((nx + 1) % 6) sn ln (svOf sk) (kpOf sk) ik bf ++ wRd r kd hg nu dg ng tk) ++ (wSky a cy n lit h t s g kn lo lf nm ++ wOth sk cy (updS S nx (cLike ((n, lit, h, t, s, g, kn, lo, lf, nm) : CK) (S nx)))))) C 0 2 in3_X3_saveState rfl (List.mem_of_getElem? (i := 3) rfl) rfl tyX3 tyX3_ok nmX3 rfl (rfl) (rfl) rfl (by decide) (Nat.le_of_ble_eq_true rfl) (rfl) dX3_saveState_26 rfl ?_
  refine k_aload_n (q := 30) C 0 dX3_saveState_29 rfl rfl ?_
  refine k_aload_n (q := 31) C 0 dX3_saveState_30 rfl rfl ?_
  refine k_get (q := 34) (ci := 3) (v := .int (nI sn)) C 0 3 in3_X3_saveState rfl (List.mem_of_getElem? (i := 4) rfl) rfl rfl (by decide) rfl dX3_saveState_31 rfl ?_
  refine k_iconst (q := 35) (v := 1) C dX3_saveState_34 (by decide) rfl ?_
  refine k_iadd (q := 36) C dX3_saveState_35 rfl ?_
  refine k_st (st2 := (.int (nI (sn + 1)) :: _)) (congrArg (fun z => Value.int z :: _) (show (nI sn) + 1 = nI (sn + 1) from nI_add sn 1)) ?_
  refine k_bipush (q := 38) (v := 6) C dX3_saveState_36 (by decide +kernel) rfl ?_
  refine k_mmin (q := 41) C (List.mem_of_getElem? (i := 5) rfl) (List.mem_of_getElem? (i := 6) rfl) (List.mem_of_getElem? (i := 7) rfl) (List.mem_of_getElem? (i := 8) rfl) (k_roomM hR (by decide)) (Nat.le_of_ble_eq_true rfl) dX3_saveState_38 rfl ?_
  refine k_st (st2 := (.int (nI (min (sn + 1) 6)) :: _)) (congrArg (fun z => Value.int z :: _) (show mMin (nI (sn + 1)) 6 = nI (min (sn + 1) 6) from nI_min (a := sn + 1) (b := 6) (by omega) (by decide))) ?_
  refine k_put (q := 44) (ci := 3) (v := .int (nI (min (sn + 1) 6))) (w2 := ((wXo b cy (a 0) r ((nx + 1) % 6) (min (sn + 1) 6) ln (svOf sk) (kpOf sk) ik bf ++ wRd r kd hg nu dg ng tk) ++ (wSky a cy n lit h t s g kn lo lf nm ++ wOth sk cy (updS S nx (cLike ((n, lit, h, t, s, g, kn, lo, lf, nm) : CK) (S nx)))))) C 0 3 in3_X3_saveState rfl (List.mem_of_getElem? (i := 4) rfl) rfl tyX3 tyX3_ok nmX3 rfl (rfl) (rfl) rfl (by decide) (Nat.le_of_ble_eq_true rfl) (rfl) dX3_saveState_41 rfl ?_
  exact k_finV E dX3_saveState_44 (rfl)
abbrev rm_X3_clearEnough : Room := { frames := 3, cells := 0, slots := 0, locals := 71 }
theorem in2_X3_clearEnough : ∀ w ∈ wsX20, w ∈ wsX3_clearEnough := fun _ h => (List.mem_cons_of_mem _ (List.mem_append_right _ h))
theorem in3_X3_clearEnough : ∀ w ∈ wsX30, w ∈ wsX3_clearEnough := fun _ h => (List.mem_cons_of_mem _ (List.mem_append_left _ (List.mem_append_right _ h)))
set_option maxHeartbeats 4000000 in
set_option maxRecDepth 100000 in
theorem lp_X3_clearEnough_13 (cy : Nat → ClassId) (a : Nat → Nat) (b : Nat → Nat) (r : Nat) (nx : Nat) (sn : Nat) (ln : Nat) (sv : Nat → Option Nat) (kp : Nat → Option Nat) (ik : Nat → Int32) (bf : Nat → Nat) (kd : Nat) (hg : Nat) (nu : Nat) (dg : Nat) (ng : Bool) (tk : Bool) (n : Nat) (lit : Int32) (h : Nat → Int32) (t : Nat → Int32) (s : Nat → Int32) (g : Nat → Int32) (kn : Nat) (lo : Int32) (lf : Int32) (nm : Nat → Int32) (R : va_W)  (hn : n ≤ 6) (X : kX) (hR : xR X = rm_X3_clearEnough) (C : kC X 3 RX3 cX3_clearEnough wsX3_clearEnough cy) (E : kEnd X 3 cX3_clearEnough (nI (mHz (fun k => sBits (nI (sMask h t g (nI k) n)) * sBits lit) (sBits (nI (sMask h t g 0 n)) * sBits lit) 1000)) ((wXo b cy (a 0) r nx sn ln sv kp ik bf ++ wRd r kd hg nu dg ng tk) ++ (wSky a cy n lit h t s g kn lo lf nm ++ R))) : ∀ (fu : Nat) (k : Nat), k < fu → (k ≤ 1000) → (mHz (fun k => sBits (nI (sMask h t g (nI k) n)) * sBits lit) (sBits (nI (sMask h t g 0 n)) * sBits lit) k = mHz (fun k => sBits (nI (sMask h t g (nI k) n)) * sBits lit) (sBits (nI (sMask h t g 0 n)) * sBits lit) 1000) → kG X 3 0 0 ((wXo b cy (a 0) r nx sn ln sv kp ik bf ++ wRd r kd hg nu dg ng tk) ++ (wSky a cy n lit h t s g kn lo lf nm ++ R)) 13 [(0, .ref (b 0)), (1, .int (sBits (nI (sMask h t g 0 n)) * sBits lit)), (2, .int (nI k))] [] := by
  intro fu
  induction fu with
  | zero => intro k hfu; exact absurd hfu (Nat.not_lt_zero _)
  | succ fu ih =>
    intro k hfu hk hh
    refine k_iload_n (q := 14) C 2 dX3_clearEnough_13 rfl rfl ?_
    refine k_nif_le (a := k)  (tgt := 37) (q := 17) C dX3_clearEnough_14 (by decide) rfl (by omega) ?_ ?_
    · intro c_14
      refine k_iconst (q := 38) (v := 0) C dX3_clearEnough_37 (by decide) rfl ?_
      have hk0 : k = 0 := by omega
      exact k_fin E dX3_clearEnough_38 (by rw [← hh, hk0]; rfl) (rfl)
    · intro c_14
      refine k_aload_n (q := 18) C 0 dX3_clearEnough_17 rfl rfl ?_
      refine k_get (q := 21) (ci := 3) (v := .ref (a 0)) C 0 0 in3_X3_clearEnough rfl (List.mem_of_getElem? (i := 1) rfl) rfl rfl (by decide) rfl dX3_clearEnough_18 rfl ?_
      refine k_iload_n (q := 22) C 2 dX3_clearEnough_21 rfl rfl ?_
      refine k_callVI (n := 1) (q := 25) (pre := (wXo b cy (a 0) r nx sn ln sv kp ik bf ++ wRd r kd hg nu dg ng tk)) (post := R) (w2 := ((wXo b cy (a 0) r nx sn ln sv kp ik bf ++ wRd r kd hg nu dg ng tk) ++ (wSky a cy n lit h t s g kn lo lf nm ++ R))) (As := [.int (nI k)]) (rest := []) C (c_X2_seenSpots cy a n lit h t s g kn lo lf nm (nI k) hn) gX3_clearEnough_X2_seenSpots rfl rfl rfl (by decide +kernel) (k_room hR (by decide)) ⟨Nat.zero_le _, Nat.zero_le _⟩ (ci := 2) rfl 0 rfl rfl rfl (Nat.le_of_ble_eq_true rfl) (rfl) (rfl) dX3_clearEnough_22 rfl ?_
      refine k_iload_n (q := 26) C 1 dX3_clearEnough_25 rfl rfl ?_
      refine k_icmp_ne (tgt := 31) (q := 29) C dX3_clearEnough_26 (by decide) rfl ?_ ?_
      · intro c_26
        refine k_iinc (q := 34) (v := nI (k - 1)) (fr2 := [(2, .int (nI (k - 1))), (0, .ref (b 0)), (1, .int (sBits (nI (sMask h t g 0 n)) * sBits lit))]) C 2 dX3_clearEnough_31 rfl ((by rw [show (Int32.ofInt (-1)) = -1 from by decide +kernel, ← Int32.sub_eq_add_neg]; exact pk_sub (a := k) (b := 1) (by omega))) (by decide) rfl rfl ?_
        refine k_goto (q := 13) C dX3_clearEnough_34 (by decide) ?_
        refine k_fr (fr2 := [(0, .ref (b 0)), (1, .int (sBits (nI (sMask h t g 0 n)) * sBits lit)), (2, .int (nI (k - 1)))]) ⟨[1, 2, 0], rfl⟩ ?_
        exact ih (k - 1) (by omega) (by omega) (by rw [← hh]; exact (mHz_n (f := (fun k => sBits (nI (sMask h t g (nI k) n)) * sBits lit)) (by omega) c_26).symm)
      · intro c_26
        refine k_iload_n (q := 30) C 2 dX3_clearEnough_29 rfl rfl ?_
        exact k_fin E dX3_clearEnough_30 (by rw [← hh]; exact congrArg nI (mHz_y (f := (fun k => sBits (nI (sMask h t g (nI k) n)) * sBits lit)) c_26).symm) (rfl)
set_option maxHeartbeats 4000000 in
set_option maxRecDepth 100000 in
theorem c_X3_clearEnough (cy : Nat → ClassId) (a : Nat → Nat) (b : Nat → Nat) (r : Nat) (nx : Nat) (sn : Nat) (ln : Nat) (sv : Nat → Option Nat) (kp : Nat → Option Nat) (ik : Nat → Int32) (bf : Nat → Nat) (kd : Nat) (hg : Nat) (nu : Nat) (dg : Nat) (ng : Bool) (tk : Bool) (n : Nat) (lit : Int32) (h : Nat → Int32) (t : Nat → Int32) (s : Nat → Int32) (g : Nat → Int32) (kn : Nat) (lo : Int32) (lf : Int32) (nm : Nat → Int32) (R : va_W)  (hn : n ≤ 6) : kI yX3_clearEnough wsX3_clearEnough rm_X3_clearEnough cy [.ref (b 0)] ((wXo b cy (a 0) r nx sn ln sv kp ik bf ++ wRd r kd hg nu dg ng tk) ++ (wSky a cy n lit h t s g kn lo lf nm ++ R)) (nI (mHz (fun k => sBits (nI (sMask h t g (nI k) n)) * sBits lit) (sBits (nI (sMask h t g 0 n)) * sBits lit) 1000)) ((wXo b cy (a 0) r nx sn ln sv kp ik bf ++ wRd r kd hg nu dg ng tk) ++ (wSky a cy n lit h t s g kn lo lf nm ++ R)) := by
  refine kI_of (cc := cX3_clearEnough) (maxL := 3) (rt := .int) (by decide) rfl (rfl) (Nat.le_of_ble_eq_true rfl) ?_
  intro X hR C E
  have C : kC X 3 RX3 cX3_clearEnough wsX3_clearEnough cy := C
  refine k_fr (fr2 := [(0, .ref (b 0))]) ⟨[0], rfl⟩ ?_
  refine k_aload_n (q := 1) C 0 dX3_clearEnough_0 rfl rfl ?_
  refine k_get (q := 4) (ci := 3) (v := .ref (a 0)) C 0 0 in3_X3_clearEnough rfl (List.mem_of_getElem? (i := 1) rfl) rfl rfl (by decide) rfl dX3_clearEnough_1 rfl ?_
  refine k_iconst (q := 5) (v := 0) C dX3_clearEnough_4 (by decide) rfl ?_
  refine k_callVI (n := 1) (q := 8) (pre := (wXo b cy (a 0) r nx sn ln sv kp ik bf ++ wRd r kd hg nu dg ng tk)) (post := R) (w2 := ((wXo b cy (a 0) r nx sn ln sv kp ik bf ++ wRd r kd hg nu dg ng tk) ++ (wSky a cy n lit h t s g kn lo lf nm ++ R))) (As := [.int 0]) (rest := []) C (c_X2_seenSpots cy a n lit h t s g kn lo lf nm 0 hn) gX3_clearEnough_X2_seenSpots rfl rfl rfl (by decide +kernel) (k_room hR (by decide)) ⟨Nat.zero_le _, Nat.zero_le _⟩ (ci := 2) rfl 0 rfl rfl rfl (Nat.le_of_ble_eq_true rfl) (rfl) (rfl) dX3_clearEnough_5 rfl ?_
  refine k_istore_n (q := 9) (fr2 := [(1, .int (sBits (nI (sMask h t g 0 n)) * sBits lit)), (0, .ref (b 0))]) C dX3_clearEnough_8 (by decide) rfl rfl ?_
  refine k_sipush (q := 12) (v := 1000) C dX3_clearEnough_9 (by decide +kernel) rfl ?_
  refine k_istore_n (q := 13) (fr2 := [(2, .int 1000), (1, .int (sBits (nI (sMask h t g 0 n)) * sBits lit)), (0, .ref (b 0))]) C dX3_clearEnough_12 (by decide) rfl rfl ?_
  refine k_fr (fr2 := [(0, .ref (b 0)), (1, .int (sBits (nI (sMask h t g 0 n)) * sBits lit)), (2, .int 1000)]) ⟨[2, 1, 0], rfl⟩ ?_
  exact lp_X3_clearEnough_13 cy a b r nx sn ln sv kp ik bf kd hg nu dg ng tk n lit h t s g kn lo lf nm R hn X hR C E _ 1000 (Nat.lt_succ_self _) (by omega) (by omega)
abbrev rm_X3_log : Room := { frames := 5, cells := 0, slots := 0, locals := 115 }
theorem in0_X3_log : ∀ w ∈ wsX00, w ∈ wsX3_log := fun _ h => (List.mem_cons_of_mem _ (List.mem_append_right _ h))
theorem in2_X3_log : ∀ w ∈ wsX20, w ∈ wsX3_log := fun _ h => (List.mem_cons_of_mem _ (List.mem_append_left _ (List.mem_append_right _ h)))
theorem in3_X3_log : ∀ w ∈ wsX30, w ∈ wsX3_log := fun _ h => (List.mem_cons_of_mem _ (List.mem_append_left _ (List.mem_append_left _ (List.mem_append_right _ h))))
set_option maxHeartbeats 4000000 in
set_option maxRecDepth 100000 in
theorem c_X3_log (cy : Nat → ClassId) (a : Nat → Nat) (b : Nat → Nat) (r : Nat) (nx : Nat) (sn : Nat) (ln : Nat) (sk : Nat → Nat → Nat) (S : Nat → CK) (ik : Nat → Int32) (bf : Nat → Nat) (kd : Nat) (hg : Nat) (nu : Nat) (dg : Nat) (ng : Bool) (tk : Bool) (n : Nat) (lit : Int32) (h : Nat → Int32) (t : Nat → Int32) (s : Nat → Int32) (g : Nat → Int32) (kn : Nat) (lo : Int32) (lf : Int32) (nm : Nat → Int32)  (hnx : nx < 6) (hsn : sn ≤ 6) (hn : n ≤ 6) (hk : kn ≤ 8) : kI yX3_log wsX3_log rm_X3_log cy [.ref (b 0)] ((wXo b cy (a 0) r nx sn ln (svOf sk) (kpOf sk) ik bf ++ wRd r kd hg nu dg ng tk) ++ (wSky a cy n lit h t s g kn lo lf nm ++ wOth sk cy S)) (nI (min (kn + 1) 8)) ((wXo b cy (a 0) r ((nx + 1) % 6) (min (sn + 1) 6) ln (svOf sk) (kpOf sk) ik bf ++ wRd r kd hg nu dg ng tk) ++ (wSky a cy n lit h t s g (min (kn + 1) 8) (lo + 1) (lf + bI ((sLg lit h t s g n).2.2.2 = true)) (sWrL nm (sLg lit h t s g n)) ++ wOth sk cy (updS S nx (cLike (n, lit, h, t, s, g, kn, lo, lf, nm) (S nx))))) := by
  refine kI_of (cc := cX3_log) (maxL := 1) (rt := .int) (by decide) rfl (rfl) (Nat.le_of_ble_eq_true rfl) ?_
  intro X hR C E
  have C : kC X 1 RX3 cX3_log wsX3_log cy := C
  refine k_fr (fr2 := [(0, .ref (b 0))]) ⟨[0], rfl⟩ ?_
  refine k_aload_n (q := 1) C 0 dX3_log_0 rfl rfl ?_
  refine k_callVV (n := 0) (q := 4) (pre := ([] : va_W)) (post := ([] : va_W)) (w2 := ((wXo b cy (a 0) r ((nx + 1) % 6) (min (sn + 1) 6) ln (svOf sk) (kpOf sk) ik bf ++ wRd r kd hg nu dg ng tk) ++ (wSky a cy n lit h t s g kn lo lf nm ++ wOth sk cy (updS S nx (cLike (n, lit, h, t, s, g, kn, lo, lf, nm) (S nx)))))) (As := []) (rest := []) C (c_X3_saveState cy a b r nx sn ln sk S ik bf kd hg nu dg ng tk n lit h t s g kn lo lf nm hnx hsn) gX3_log_X3_saveState rfl rfl rfl (by decide +kernel) (k_room hR (by decide)) ⟨Nat.zero_le _, Nat.zero_le _⟩ (ci := 3) rfl 0 rfl rfl rfl (Nat.le_of_ble_eq_true rfl) ((List.append_nil _).symm) (List.append_nil _) dX3_log_1 rfl ?_
  refine k_aload_n (q := 5) C 0 dX3_log_4 rfl rfl ?_
  refine k_get (q := 8) (ci := 3) (v := .ref (a 0)) C 0 0 in3_X3_log rfl (List.mem_of_getElem? (i := 1) rfl) rfl rfl (by decide) rfl dX3_log_5 rfl ?_
  refine k_callVI (n := 0) (q := 11) (pre := (wXo b cy (a 0) r ((nx + 1) % 6) (min (sn + 1) 6) ln (svOf sk) (kpOf sk) ik bf ++ wRd r kd hg nu dg ng tk)) (post := (wOth sk cy (updS S nx (cLike (n, lit, h, t, s, g, kn, lo, lf, nm) (S nx))))) (w2 := ((wXo b cy (a 0) r ((nx + 1) % 6) (min (sn + 1) 6) ln (svOf sk) (kpOf sk) ik bf ++ wRd r kd hg nu dg ng tk) ++ (wSky a cy n lit h t s g (min (kn + 1) 8) (lo + 1) (lf + bI ((sLg lit h t s g n).2.2.2 = true)) (sWrL nm (sLg lit h t s g n)) ++ wOth sk cy (updS S nx (cLike (n, lit, h, t, s, g, kn, lo, lf, nm) (S nx)))))) (As := []) (rest := []) C (c_X2_logNight cy a n lit h t s g kn lo lf nm hn hk) gX3_log_X2_logNight rfl rfl rfl (by decide +kernel) (k_room hR (by decide)) ⟨Nat.zero_le _, Nat.zero_le _⟩ (ci := 2) rfl 0 rfl rfl rfl (Nat.le_of_ble_eq_true rfl) (rfl) (rfl) dX3_log_8 rfl ?_
  exact k_fin E dX3_log_11 (rfl) (rfl)
