abbrev rm_X3_saveState : Room := { frames := 4, cells := 0, slots := 0, locals := 95 }
theorem in0_X3_saveState : ∀ w ∈ wsX00, w ∈ wsX3_saveState := fun _ h => (List.mem_cons_of_mem _ (List.mem_append_right _ h))
theorem in2_X3_saveState : ∀ w ∈ wsX20, w ∈ wsX3_saveState := fun _ h => (List.mem_cons_of_mem _ (List.mem_append_left _ (List.mem_append_right _ h)))
theorem in3_X3_saveState : ∀ w ∈ wsX30, w ∈ wsX3_saveState := fun _ h => (List.mem_cons_of_mem _ (List.mem_append_left _ (List.mem_append_left _ (List.mem_append_right _ h))))
set_option maxHeartbeats 4000000 in
set_option maxRecDepth 100000 in
theorem c_X3_saveState (cy : Nat → ClassId) (a : Nat → Nat) (b : Nat → Nat) (r : Nat) (nx : Nat) (sn : Nat) (ln : Nat) (sk : Nat → Nat → Nat) (S : Nat → CK) (ik : Nat → Int32) (bf : Nat → Nat) (kd : Nat) (hg : Nat) (nu : Nat) (dg : Nat) (ng : Bool) (tk : Bool) (n : Nat) (lit : Int32) (h : Nat → Int32) (t : Nat → Int32) (s : Nat → Int32) (g : Nat → Int32) (kn : Nat) (lo : Int32) (lf : Int32) (nm : Nat → Int32)  (hnx : nx < 6) (hsn : sn ≤ 6) : kV yX3_saveState wsX3_saveState rm_X3_saveState cy [.ref (b 0)] ((wXo b cy (a 0) r nx sn ln (svOf sk) (kpOf sk) ik bf ++ wRd r kd hg nu dg ng tk) ++ (wSky a cy n lit h t s g kn lo lf nm ++ wOth sk cy S)) ((wXo b cy (a 0) r ((nx + 1) % 6) (min (sn + 1) 6) ln (svOf sk) (kpOf sk) ik bf ++ wRd r kd hg nu dg ng tk) ++ (wSky a cy n lit h t s g kn lo lf nm ++ wOth sk cy (updS S nx (cLike (n, lit, h, t, s, g, kn, lo, lf, nm) (S nx))))) := by
  refine kV_of (cc := cX3_saveState) (maxL := 1) (by decide) rfl (Nat.le_of_ble_eq_true rfl) ?_
  intro X hR C E
  have C : kC X 1 RX3 cX3_saveState wsX3_saveState cy := C
  refine k_fr (fr2 := [(0, .ref (b 0))]) ⟨[0], rfl⟩ ?_
  refine k_aload_n (q := 1) C 0 dX3_saveState_0 rfl rfl ?_
  refine k_get (q := 4) (ci := 3) (v := .ref (a 0)) C 0 0 in3_X3_saveState rfl (List.mem_of_getElem? (i := 1) rfl) rfl rfl (by decide) rfl dX3_saveState_1 rfl ?_
  refine k_aload_n (q := 5) C 0 dX3_saveState_4 rfl rfl ?_
  refine k_get (q := 8) (ci := 3) (v := .ref (b 1)) C 0 1 in3_X3_saveState rfl (List.mem_of_getElem? (i := 2) rfl) rfl rfl (by decide) rfl dX3_saveState_5 rfl ?_
  refine k_aload_n (q := 9) C 0 dX3_saveState_8 rfl rfl ?_
  refine k_get (q := 12) (ci := 3) (v := .int (nI nx)) C 0 2 in3_X3_saveState rfl (List.mem_of_getElem? (i := 3) rfl) rfl rfl (by decide) rfl dX3_saveState_9 rfl ?_
  refine k_aald (q := 13) (v := .ref (sk nx 0)) C 1 rfl (vp_in_nI (n := nx) (by omega) (by decide)) (by rw [nI_clamp (n := nx) (by omega)]; exact sv_rf (by omega)) dX3_saveState_12 rfl ?_
  refine k_perm (w2 := (wXo b cy (a 0) r nx sn ln (svOf sk) (kpOf sk) ik bf ++ wRd r kd hg nu dg ng tk) ++ ((wSk2 a (sk nx) cy ((n, lit, h, t, s, g, kn, lo, lf, nm) : CK) (S nx)) ++ (wOthE sk cy S nx))) (oth_out (a := a) (S := S) (k := nx) (x := ((n, lit, h, t, s, g, kn, lo, lf, nm) : CK)) (by omega)) ?_
  refine k_callSV (n := 2) (q := 16) (pre := (wXo b cy (a 0) r nx sn ln (svOf sk) (kpOf sk) ik bf ++ wRd r kd hg nu dg ng tk)) (mid := (wSk2 a (sk nx) cy ((n, lit, h, t, s, g, kn, lo, lf, nm) : CK) (S nx))) (mid1 := (wSk2 a (sk nx) cy ((n, lit, h, t, s, g, kn, lo, lf, nm) : CK) (cLike ((n, lit, h, t, s, g, kn, lo, lf, nm) : CK) (S nx)))) (post := (wOthE sk cy S nx)) (w2 := (wXo b cy (a 0) r nx sn ln (svOf sk) (kpOf sk) ik bf ++ wRd r kd hg nu dg ng tk) ++ ((wSk2 a (sk nx) cy ((n, lit, h, t, s, g, kn, lo, lf, nm) : CK) (cLike ((n, lit, h, t, s, g, kn, lo, lf, nm) : CK) (S nx))) ++ (wOthE sk cy S nx))) (As := [.ref (a 0), .ref ((sk nx) 0)]) (rest := []) C (c_X3_copySky cy a (sk nx) n lit h t s g kn lo lf nm (qN (S nx)) (qLit (S nx)) (qH (S nx)) (qT (S nx)) (qS (S nx)) (qG (S nx)) (qK (S nx)) (qLo (S nx)) (qLf (S nx)) (qNm (S nx))) gX3_saveState_X3_copySky rfl rfl rfl (by decide +kernel) (k_room hR (by decide)) ⟨Nat.zero_le _, Nat.zero_le _⟩ rfl rfl (Nat.le_of_ble_eq_true rfl) rfl rfl dX3_saveState_13 rfl ?_
  refine k_perm (w2 := ((wXo b cy (a 0) r nx sn ln (svOf sk) (kpOf sk) ik bf ++ wRd r kd hg nu dg ng tk) ++ (wSky a cy n lit h t s g kn lo lf nm ++ wOth sk cy (updS S nx (cLike ((n, lit, h, t, s, g, kn, lo, lf, nm) : CK) (S nx)))))) (oth_in (x := ((n, lit, h, t, s, g, kn, lo, lf, nm) : CK)) (by omega)) ?_
  refine k_aload_n (q := 17) C 0 dX3_saveState_16 rfl rfl ?_
  refine k_aload_n (q := 18) C 0 dX3_saveState_17 rfl rfl ?_
  refine k_get (q := 21) (ci := 3) (v := .int (nI nx)) C 0 2 in3_X3_saveState rfl (List.mem_of_getElem? (i := 3) rfl) rfl rfl (by decide) rfl dX3_saveState_18 rfl ?_
  refine k_iconst (q := 22) (v := 1) C dX3_saveState_21 (by decide) rfl ?_
  refine k_iadd (q := 23) C dX3_saveState_22 rfl ?_
  refine k_st (st2 := (.int (nI (nx + 1)) :: _)) (congrArg (fun z => Value.int z :: _) (show (nI nx) + 1 = nI (nx + 1) from nI_add nx 1)) ?_
  refine k_bipush (q := 25) (v := 6) C dX3_saveState_23 (by decide +kernel) rfl ?_
  refine k_irem (q := 26) C dX3_saveState_25 (by decide) rfl ?_
  refine k_st (st2 := (.int (nI ((nx + 1) % 6)) :: _)) (congrArg (fun z => Value.int z :: _) (show (nI (nx + 1)) - (nI (nx + 1)) / 6 * 6 = nI ((nx + 1) % 6) from nI_rem6 (by omega))) ?_
  refine k_put (q := 29) (ci := 3) (v := .int (nI ((nx + 1) % 6))) (w2 := ((wXo b cy (a 0) r ((nx + 1) % 6) sn ln (svOf sk) (kpOf sk) ik bf ++ wRd r kd hg nu dg ng tk) ++ (wSky a cy n lit h t s g kn lo lf nm ++ wOth sk cy (updS S nx (cLike ((n, lit, h, t, s, g, kn, lo, lf, nm) : CK) (S nx)))))) C 0 2 in3_X3_saveState rfl (List.mem_of_getElem? (i := 3) rfl) rfl tyX3 tyX3_ok nmX3 rfl (rfl) (rfl) rfl (by decide) (Nat.le_of_ble_eq_true rfl) (rfl) dX3_saveState_26 rfl ?_
  refine k_aload_n (q := 30) C 0 dX3_saveState_29 rfl rfl ?_
  refine k_aload_n (q := 31) C 0 dX3_saveState_30 rfl rfl ?_
  refine k_get (q := 34) (ci := 3) (v := .int (nI sn)) C 0 3 in3_X3_saveState rfl (List.mem_of_getElem? (i := 4) rfl) rfl rfl (by decide) rfl dX3_saveState_31 rfl ?_
  refine k_iconst (q := 35) (v := 1) C dX3_saveState_34 (by decide) rfl ?_
  refine k_iadd (q := 36) C dX3_saveState_35 rfl ?_
  refine k_st (st2 := (.int (nI (sn + 1)) :: _)) (congrArg (fun z => Value.int z :: _) (show (nI sn) + 1 = nI (sn + 1) from nI_add sn 1)) ?_
  refine k_bipush (q := 38) (v := 6) C dX3_saveState_36 (by decide +kernel) rfl ?_
  refine k_mmin (q := 41) C (List.mem_of_getElem? (i := 5) rfl) (List.mem_of_getElem? (i := 6) rfl) (List.mem_of_getElem? (i := 7) rfl) (List.mem_of_getElem? (i := 8) rfl) (k_roomM hR (by decide)) (Nat.le_of_ble_eq_true rfl) dX3_saveState_38 rfl ?_
  refine k_st (st2 := (.int (nI (min (sn + 1) 6)) :: _)) (congrArg (fun z => Value.int z :: _) (show mMin (nI (sn + 1)) 6 = nI (min (sn + 1) 6) from nI_min (a := sn + 1) (b := 6) (by omega) (by decide))) ?_
  refine k_put (q := 44) (ci := 3) (v := .int (nI (min (sn + 1) 6))) (w2 := ((wXo b cy (a 0) r ((nx + 1) % 6) (min (sn + 1) 6) ln (svOf sk) (kpOf sk) ik bf ++ wRd r kd hg nu dg ng tk) ++ (wSky a cy n lit h t s g kn lo lf nm ++ wOth sk cy (updS S nx (cLike ((n, lit, h, t, s, g, kn, lo, lf, nm) : CK) (S nx)))))) C 0 3 in3_X3_saveState rfl (List.mem_of_getElem? (i := 4) rfl) rfl tyX3 tyX3_ok nmX3 rfl (rfl) (rfl) rfl (by decide) (Nat.le_of_ble_eq_true rfl) (rfl) dX3_saveState_41 rfl ?_
  exact k_finV E dX3_saveState_44 (rfl)
abbrev rm_X3_executeOrder : Room := { frames := 4, cells := 0, slots := 0, locals := 99 }
theorem in0_X3_executeOrder : ∀ w ∈ wsX00, w ∈ wsX3_executeOrder := fun _ h => (List.mem_cons_of_mem _ (List.mem_append_right _ h))
theorem in1_X3_executeOrder : ∀ w ∈ wsX10, w ∈ wsX3_executeOrder := fun _ h => (List.mem_cons_of_mem _ (List.mem_append_left _ (List.mem_append_left _ (List.mem_append_right _ h))))
theorem in2_X3_executeOrder : ∀ w ∈ wsX20, w ∈ wsX3_executeOrder := fun _ h => (List.mem_cons_of_mem _ (List.mem_append_left _ (List.mem_append_right _ h)))
theorem in3_X3_executeOrder : ∀ w ∈ wsX30, w ∈ wsX3_executeOrder := fun _ h => (List.mem_cons_of_mem _ (List.mem_append_left _ (List.mem_append_left _ (List.mem_append_left _ (List.mem_append_right _ h)))))
set_option maxHeartbeats 4000000 in
set_option maxRecDepth 100000 in
theorem c_X3_executeOrder (cy : Nat → ClassId) (a : Nat → Nat) (b : Nat → Nat) (r : Nat) (nx : Nat) (sn : Nat) (ln : Nat) (sv : Nat → Option Nat) (kp : Nat → Option Nat) (ik : Nat → Int32) (bf : Nat → Nat) (kd : Nat) (hg : Nat) (nu : Nat) (dg : Nat) (ng : Bool) (tk : Bool) (n : Nat) (lit : Int32) (h : Nat → Int32) (t : Nat → Int32) (s : Nat → Int32) (g : Nat → Int32) (kn : Nat) (lo : Int32) (lf : Int32) (nm : Nat → Int32) (R : va_W)  (hkd : kd < 65536) (hn : n ≤ 6) (hk : kn ≤ 8) (hnu : nu < 10000) (hhg : hg < 10000) : kI yX3_executeOrder wsX3_executeOrder rm_X3_executeOrder cy [.ref (b 0)] ((wXo b cy (a 0) r nx sn ln sv kp ik bf ++ wRd r kd hg nu dg ng tk) ++ (wSky a cy n lit h t s g kn lo lf nm ++ R)) (bI ((xStep ((kd, hg, nu, dg, ng, tk) : RT) ((n, lit, h, t, s, g, kn, lo, lf, nm) : CK)).1 = true)) ((wXo b cy (a 0) r nx sn ln sv kp ik bf ++ wRd r kd hg nu dg ng tk) ++ (wSky a cy (qN (xStep ((kd, hg, nu, dg, ng, tk) : RT) ((n, lit, h, t, s, g, kn, lo, lf, nm) : CK)).2) (qLit (xStep ((kd, hg, nu, dg, ng, tk) : RT) ((n, lit, h, t, s, g, kn, lo, lf, nm) : CK)).2) (qH (xStep ((kd, hg, nu, dg, ng, tk) : RT) ((n, lit, h, t, s, g, kn, lo, lf, nm) : CK)).2) (qT (xStep ((kd, hg, nu, dg, ng, tk) : RT) ((n, lit, h, t, s, g, kn, lo, lf, nm) : CK)).2) (qS (xStep ((kd, hg, nu, dg, ng, tk) : RT) ((n, lit, h, t, s, g, kn, lo, lf, nm) : CK)).2) (qG (xStep ((kd, hg, nu, dg, ng, tk) : RT) ((n, lit, h, t, s, g, kn, lo, lf, nm) : CK)).2) (qK (xStep ((kd, hg, nu, dg, ng, tk) : RT) ((n, lit, h, t, s, g, kn, lo, lf, nm) : CK)).2) (qLo (xStep ((kd, hg, nu, dg, ng, tk) : RT) ((n, lit, h, t, s, g, kn, lo, lf, nm) : CK)).2) (qLf (xStep ((kd, hg, nu, dg, ng, tk) : RT) ((n, lit, h, t, s, g, kn, lo, lf, nm) : CK)).2) (qNm (xStep ((kd, hg, nu, dg, ng, tk) : RT) ((n, lit, h, t, s, g, kn, lo, lf, nm) : CK)).2) ++ R)) := by
  refine kI_of (cc := cX3_executeOrder) (maxL := 1) (rt := .boolean) (by decide) rfl (kb_nar _) (Nat.le_of_ble_eq_true rfl) ?_
  intro X hR C E
  have C : kC X 1 RX3 cX3_executeOrder wsX3_executeOrder cy := C
  refine k_fr (fr2 := [(0, .ref (b 0))]) ⟨[0], rfl⟩ ?_
  refine k_aload_n (q := 1) C 0 dX3_executeOrder_0 rfl rfl ?_
  refine k_get (q := 4) (ci := 3) (v := .ref r) C 0 8 in3_X3_executeOrder rfl (List.mem_of_getElem? (i := 1) rfl) rfl rfl (by decide) rfl dX3_executeOrder_1 rfl ?_
  refine k_get (q := 7) (ci := 1) (v := .int (nI kd)) C 5 0 in1_X3_executeOrder rfl (List.mem_of_getElem? (i := 2) rfl) rfl rfl (by decide) rfl dX3_executeOrder_4 rfl ?_
  by_cases s_7_99 : kd = 99
  · refine k_lookup (q := 40) (off := 33) C dX3_executeOrder_7 (by decide +kernel) (by rw [s_7_99]; decide +kernel) (by decide) ?_
    refine k_aload_n (q := 41) C 0 dX3_executeOrder_40 rfl rfl ?_
    refine k_get (q := 44) (ci := 3) (v := .ref (a 0)) C 0 0 in3_X3_executeOrder rfl (List.mem_of_getElem? (i := 3) rfl) rfl rfl (by decide) rfl dX3_executeOrder_41 rfl ?_
    refine k_aload_n (q := 45) C 0 dX3_executeOrder_44 rfl rfl ?_
    refine k_get (q := 48) (ci := 3) (v := .ref r) C 0 8 in3_X3_executeOrder rfl (List.mem_of_getElem? (i := 1) rfl) rfl rfl (by decide) rfl dX3_executeOrder_45 rfl ?_
    refine k_get (q := 51) (ci := 1) (v := .int (nI hg)) C 5 1 in1_X3_executeOrder rfl (List.mem_of_getElem? (i := 4) rfl) rfl rfl (by decide) rfl dX3_executeOrder_48 rfl ?_
    refine k_callVI (n := 1) (q := 54) (pre := (wXo b cy (a 0) r nx sn ln sv kp ik bf ++ wRd r kd hg nu dg ng tk)) (post := R) (w2 := ((wXo b cy (a 0) r nx sn ln sv kp ik bf ++ wRd r kd hg nu dg ng tk) ++ (wSky a cy n lit h t s g kn lo lf nm ++ R))) (As := [.int (nI hg)]) (rest := []) C (c_X2_takesLayer cy a n lit h t s g kn lo lf nm (nI hg) hn) gX3_executeOrder_X2_takesLayer rfl rfl rfl (by decide +kernel) (k_room hR (by decide)) ⟨Nat.zero_le _, Nat.zero_le _⟩ (ci := 2) rfl 0 rfl rfl rfl (Nat.le_of_ble_eq_true rfl) (rfl) (rfl) dX3_executeOrder_51 rfl ?_
    refine k_ifB_ne (tgt := 59) (q := 57) C dX3_executeOrder_54 (by decide) rfl ?_ ?_
    · intro c_54
      refine k_aload_n (q := 60) C 0 dX3_executeOrder_59 rfl rfl ?_
      refine k_get (q := 63) (ci := 3) (v := .ref (a 0)) C 0 0 in3_X3_executeOrder rfl (List.mem_of_getElem? (i := 3) rfl) rfl rfl (by decide) rfl dX3_executeOrder_60 rfl ?_
      refine k_aload_n (q := 64) C 0 dX3_executeOrder_63 rfl rfl ?_
      refine k_get (q := 67) (ci := 3) (v := .ref r) C 0 8 in3_X3_executeOrder rfl (List.mem_of_getElem? (i := 1) rfl) rfl rfl (by decide) rfl dX3_executeOrder_64 rfl ?_
      refine k_get (q := 70) (ci := 1) (v := .int (nI hg)) C 5 1 in1_X3_executeOrder rfl (List.mem_of_getElem? (i := 4) rfl) rfl rfl (by decide) rfl dX3_executeOrder_67 rfl ?_
      refine k_aload_n (q := 71) C 0 dX3_executeOrder_70 rfl rfl ?_
      refine k_get (q := 74) (ci := 3) (v := .ref r) C 0 8 in3_X3_executeOrder rfl (List.mem_of_getElem? (i := 1) rfl) rfl rfl (by decide) rfl dX3_executeOrder_71 rfl ?_
      refine k_get (q := 77) (ci := 1) (v := .int (nI nu)) C 5 2 in1_X3_executeOrder rfl (List.mem_of_getElem? (i := 5) rfl) rfl rfl (by decide) rfl dX3_executeOrder_74 rfl ?_
      refine k_callVI (n := 2) (q := 80) (pre := (wXo b cy (a 0) r nx sn ln sv kp ik bf ++ wRd r kd hg nu dg ng tk)) (post := R) (w2 := ((wXo b cy (a 0) r nx sn ln sv kp ik bf ++ wRd r kd hg nu dg ng tk) ++ (wSky a cy (n + 1) lit (sIns h n (sPos h (nI hg) n) (nI hg)) (sIns t n (sPos h (nI hg) n) (nI nu)) s g kn lo lf nm ++ R))) (As := [.int (nI hg), .int (nI nu)]) (rest := []) C (c_X2_addLayer cy a n lit h t s g kn lo lf nm (nI hg) (nI nu) c_54.2) gX3_executeOrder_X2_addLayer rfl rfl rfl (by decide +kernel) (k_room hR (by decide)) ⟨Nat.zero_le _, Nat.zero_le _⟩ (ci := 2) rfl 0 rfl rfl rfl (Nat.le_of_ble_eq_true rfl) (rfl) (rfl) dX3_executeOrder_77 rfl ?_
      refine k_pop (q := 81) C dX3_executeOrder_80 rfl rfl ?_
      refine k_iconst (q := 82) (v := 1) C dX3_executeOrder_81 (by decide) rfl ?_
      have hx : xStep ((kd, hg, nu, dg, ng, tk) : RT) ((n, lit, h, t, s, g, kn, lo, lf, nm) : CK) = (true, xAdd ((n, lit, h, t, s, g, kn, lo, lf, nm) : CK) (nI hg) (nI nu)) := (if_pos (show kd = 99 from s_7_99)).trans (if_pos c_54)
      exact k_fin E dX3_executeOrder_82 (by rw [hx]; first | done | rfl) (by rw [hx]; first | done | rfl)
    · intro c_54
      refine k_iconst (q := 58) (v := 0) C dX3_executeOrder_57 (by decide) rfl ?_
      have hx : xStep ((kd, hg, nu, dg, ng, tk) : RT) ((n, lit, h, t, s, g, kn, lo, lf, nm) : CK) = (false, ((n, lit, h, t, s, g, kn, lo, lf, nm) : CK)) := (if_pos (show kd = 99 from s_7_99)).trans (if_neg c_54)
      exact k_fin E dX3_executeOrder_58 (by rw [hx]; first | done | rfl) (by rw [hx]; first | done | rfl)
  by_cases s_7_110 : kd = 110
  · refine k_lookup (q := 119) (off := 112) C dX3_executeOrder_7 (by decide +kernel) (by rw [s_7_110]; decide +kernel) (by decide) ?_
    refine k_aload_n (q := 120) C 0 dX3_executeOrder_119 rfl rfl ?_
    refine k_get (q := 123) (ci := 3) (v := .ref (a 0)) C 0 0 in3_X3_executeOrder rfl (List.mem_of_getElem? (i := 3) rfl) rfl rfl (by decide) rfl dX3_executeOrder_120 rfl ?_
    refine k_callVI (n := 0) (q := 126) (pre := (wXo b cy (a 0) r nx sn ln sv kp ik bf ++ wRd r kd hg nu dg ng tk)) (post := R) (w2 := ((wXo b cy (a 0) r nx sn ln sv kp ik bf ++ wRd r kd hg nu dg ng tk) ++ (wSky a cy n lit h t s g (min (kn + 1) 8) (lo + 1) (lf + bI ((sLg lit h t s g n).2.2.2 = true)) (sWrL nm (sLg lit h t s g n)) ++ R))) (As := []) (rest := []) C (c_X2_logNight cy a n lit h t s g kn lo lf nm hn hk) gX3_executeOrder_X2_logNight rfl rfl rfl (by decide +kernel) (k_room hR (by decide)) ⟨Nat.zero_le _, Nat.zero_le _⟩ (ci := 2) rfl 0 rfl rfl rfl (Nat.le_of_ble_eq_true rfl) (rfl) (rfl) dX3_executeOrder_123 rfl ?_
    refine k_pop (q := 127) C dX3_executeOrder_126 rfl rfl ?_
    refine k_iconst (q := 128) (v := 1) C dX3_executeOrder_127 (by decide) rfl ?_
    have hx : xStep ((kd, hg, nu, dg, ng, tk) : RT) ((n, lit, h, t, s, g, kn, lo, lf, nm) : CK) = (true, xLog ((n, lit, h, t, s, g, kn, lo, lf, nm) : CK)) := (if_neg (show ¬ kd = 99 by omega)).trans ((if_neg (show ¬ kd = 120 by omega)).trans (if_pos (show kd = 110 from s_7_110)))
    exact k_fin E dX3_executeOrder_128 (by rw [hx]; first | done | rfl) (by rw [hx]; first | done | rfl)
  by_cases s_7_120 : kd = 120
  · refine k_lookup (q := 83) (off := 76) C dX3_executeOrder_7 (by decide +kernel) (by rw [s_7_120]; decide +kernel) (by decide) ?_
    refine k_aload_n (q := 84) C 0 dX3_executeOrder_83 rfl rfl ?_
    refine k_get (q := 87) (ci := 3) (v := .ref (a 0)) C 0 0 in3_X3_executeOrder rfl (List.mem_of_getElem? (i := 3) rfl) rfl rfl (by decide) rfl dX3_executeOrder_84 rfl ?_
    refine k_aload_n (q := 88) C 0 dX3_executeOrder_87 rfl rfl ?_
    refine k_get (q := 91) (ci := 3) (v := .ref r) C 0 8 in3_X3_executeOrder rfl (List.mem_of_getElem? (i := 1) rfl) rfl rfl (by decide) rfl dX3_executeOrder_88 rfl ?_
    refine k_get (q := 94) (ci := 1) (v := .int (nI nu)) C 5 2 in1_X3_executeOrder rfl (List.mem_of_getElem? (i := 5) rfl) rfl rfl (by decide) rfl dX3_executeOrder_91 rfl ?_
    refine k_callVI (n := 1) (q := 97) (pre := (wXo b cy (a 0) r nx sn ln sv kp ik bf ++ wRd r kd hg nu dg ng tk)) (post := R) (w2 := ((wXo b cy (a 0) r nx sn ln sv kp ik bf ++ wRd r kd hg nu dg ng tk) ++ (wSky a cy n lit h t s g kn lo lf nm ++ R))) (As := [.int (nI nu)]) (rest := []) C (c_X2_hasLayer cy a n lit h t s g kn lo lf nm (nI nu)) gX3_executeOrder_X2_hasLayer rfl rfl rfl (by decide +kernel) (k_room hR (by decide)) ⟨Nat.zero_le _, Nat.zero_le _⟩ (ci := 2) rfl 0 rfl rfl rfl (Nat.le_of_ble_eq_true rfl) (rfl) (rfl) dX3_executeOrder_94 rfl ?_
    refine k_ifB_ne (tgt := 102) (q := 100) C dX3_executeOrder_97 (by decide) rfl ?_ ?_
    · intro c_97
      refine k_aload_n (q := 103) C 0 dX3_executeOrder_102 rfl rfl ?_
      refine k_get (q := 106) (ci := 3) (v := .ref (a 0)) C 0 0 in3_X3_executeOrder rfl (List.mem_of_getElem? (i := 3) rfl) rfl rfl (by decide) rfl dX3_executeOrder_103 rfl ?_
      refine k_aload_n (q := 107) C 0 dX3_executeOrder_106 rfl rfl ?_
      refine k_get (q := 110) (ci := 3) (v := .ref r) C 0 8 in3_X3_executeOrder rfl (List.mem_of_getElem? (i := 1) rfl) rfl rfl (by decide) rfl dX3_executeOrder_107 rfl ?_
      refine k_get (q := 113) (ci := 1) (v := .int (nI nu)) C 5 2 in1_X3_executeOrder rfl (List.mem_of_getElem? (i := 5) rfl) rfl rfl (by decide) rfl dX3_executeOrder_110 rfl ?_
      refine k_callVI (n := 1) (q := 116) (pre := (wXo b cy (a 0) r nx sn ln sv kp ik bf ++ wRd r kd hg nu dg ng tk)) (post := R) (w2 := ((wXo b cy (a 0) r nx sn ln sv kp ik bf ++ wRd r kd hg nu dg ng tk) ++ (wSky a cy (n - 1) lit (sDn h nu n) (sDn t nu n) s g kn lo lf nm ++ R))) (As := [.int (nI nu)]) (rest := []) C (c_X2_removeLayer cy a n lit h t s g kn lo lf nm nu hn (nI_of_lt c_97.2 (by omega) (by omega))) gX3_executeOrder_X2_removeLayer rfl rfl rfl (by decide +kernel) (k_room hR (by decide)) ⟨Nat.zero_le _, Nat.zero_le _⟩ (ci := 2) rfl 0 rfl rfl rfl (Nat.le_of_ble_eq_true rfl) (rfl) (rfl) dX3_executeOrder_113 rfl ?_
      refine k_pop (q := 117) C dX3_executeOrder_116 rfl rfl ?_
      refine k_iconst (q := 118) (v := 1) C dX3_executeOrder_117 (by decide) rfl ?_
      have hx : xStep ((kd, hg, nu, dg, ng, tk) : RT) ((n, lit, h, t, s, g, kn, lo, lf, nm) : CK) = (true, xDrop ((n, lit, h, t, s, g, kn, lo, lf, nm) : CK) nu) := (if_neg (show ¬ kd = 99 by omega)).trans ((if_pos (show kd = 120 from s_7_120)).trans (if_pos (nI_of_lt c_97.2 (by omega) (by omega))))
      exact k_fin E dX3_executeOrder_118 (by rw [hx]; first | done | rfl) (by rw [hx]; first | done | rfl)
    · intro c_97
      refine k_iconst (q := 101) (v := 0) C dX3_executeOrder_100 (by decide) rfl ?_
      have hx : xStep ((kd, hg, nu, dg, ng, tk) : RT) ((n, lit, h, t, s, g, kn, lo, lf, nm) : CK) = (false, ((n, lit, h, t, s, g, kn, lo, lf, nm) : CK)) := (if_neg (show ¬ kd = 99 by omega)).trans ((if_pos (show kd = 120 from s_7_120)).trans (if_neg (fun q => c_97 ⟨nI_pos' (by omega), nI_lt q (by omega)⟩)))
      exact k_fin E dX3_executeOrder_101 (by rw [hx]; first | done | rfl) (by rw [hx]; first | done | rfl)
  have n_7_99 : ¬ nI kd = 99 := fun q => s_7_99 ((nI_eq (a := kd) (b := 99) (by omega) (by decide)).mp q)
  have n_7_110 : ¬ nI kd = 110 := fun q => s_7_110 ((nI_eq (a := kd) (b := 110) (by omega) (by decide)).mp q)
  have n_7_120 : ¬ nI kd = 120 := fun q => s_7_120 ((nI_eq (a := kd) (b := 120) (by omega) (by decide)).mp q)
  refine k_lookup (q := 129) (off := 122) C dX3_executeOrder_7 (by decide +kernel) (by show Op.lookupswitch.offset [(99, 33), (110, 112), (120, 76)] (122) _ = _; rw [lv_osw n_7_99 (a := 99) (by decide +kernel), lv_osw n_7_110 (a := 110) (by decide +kernel), lv_osw n_7_120 (a := 120) (by decide +kernel)]; rfl) (by decide) ?_
  refine k_aload_n (q := 130) C 0 dX3_executeOrder_129 rfl rfl ?_
  refine k_get (q := 133) (ci := 3) (v := .ref (a 0)) C 0 0 in3_X3_executeOrder rfl (List.mem_of_getElem? (i := 3) rfl) rfl rfl (by decide) rfl dX3_executeOrder_130 rfl ?_
  refine k_aload_n (q := 134) C 0 dX3_executeOrder_133 rfl rfl ?_
  refine k_get (q := 137) (ci := 3) (v := .ref r) C 0 8 in3_X3_executeOrder rfl (List.mem_of_getElem? (i := 1) rfl) rfl rfl (by decide) rfl dX3_executeOrder_134 rfl ?_
  refine k_get (q := 140) (ci := 1) (v := .int (nI kd)) C 5 0 in1_X3_executeOrder rfl (List.mem_of_getElem? (i := 2) rfl) rfl rfl (by decide) rfl dX3_executeOrder_137 rfl ?_
  refine k_bipush (q := 142) (v := 97) C dX3_executeOrder_140 (by decide +kernel) rfl ?_
  refine k_nicmp_ne (a := kd) (b := 97)  (tgt := 149) (q := 145) C dX3_executeOrder_142 (by decide) rfl (by omega) (by decide) ?_ ?_
  · intro c_142
    refine k_iconst (q := 150) (v := 1) C dX3_executeOrder_149 (by decide) rfl ?_
    refine k_aload_n (q := 151) C 0 dX3_executeOrder_150 rfl rfl ?_
    refine k_get (q := 154) (ci := 3) (v := .ref r) C 0 8 in3_X3_executeOrder rfl (List.mem_of_getElem? (i := 1) rfl) rfl rfl (by decide) rfl dX3_executeOrder_151 rfl ?_
    refine k_get (q := 157) (ci := 1) (v := .int (bI (ng = true))) C 5 4 in1_X3_executeOrder rfl (List.mem_of_getElem? (i := 6) rfl) rfl rfl (by decide) rfl dX3_executeOrder_154 rfl ?_
    refine k_ifB_eq (tgt := 171) (q := 160) C dX3_executeOrder_157 (by decide) rfl ?_ ?_
    · intro c_157
      refine k_aload_n (q := 172) C 0 dX3_executeOrder_171 rfl rfl ?_
      refine k_get (q := 175) (ci := 3) (v := .ref r) C 0 8 in3_X3_executeOrder rfl (List.mem_of_getElem? (i := 1) rfl) rfl rfl (by decide) rfl dX3_executeOrder_172 rfl ?_
      refine k_get (q := 178) (ci := 1) (v := .int (nI nu)) C 5 2 in1_X3_executeOrder rfl (List.mem_of_getElem? (i := 5) rfl) rfl rfl (by decide) rfl dX3_executeOrder_175 rfl ?_
      refine k_callVI (n := 2) (q := 181) (pre := (wXo b cy (a 0) r nx sn ln sv kp ik bf ++ wRd r kd hg nu dg ng tk)) (post := R) (w2 := ((wXo b cy (a 0) r nx sn ln sv kp ik bf ++ wRd r kd hg nu dg ng tk) ++ (wSky a cy n lit h t (upd s 1 (nI nu)) g kn lo lf nm ++ R))) (As := [.int 1, .int (nI nu)]) (rest := []) C (c_X2_giveSlope cy a n lit h t s g kn lo lf nm 1 (nI nu) (by omega)) gX3_executeOrder_X2_giveSlope rfl rfl rfl (by decide +kernel) (k_room hR (by decide)) ⟨Nat.zero_le _, Nat.zero_le _⟩ (ci := 2) rfl 0 rfl rfl rfl (Nat.le_of_ble_eq_true rfl) (rfl) (rfl) dX3_executeOrder_178 rfl ?_
      refine k_pop (q := 182) C dX3_executeOrder_181 rfl rfl ?_
      refine k_iconst (q := 183) (v := 1) C dX3_executeOrder_182 (by decide) rfl ?_
      have hx := (show xStep ((kd, hg, nu, dg, ng, tk) : RT) ((n, lit, h, t, s, g, kn, lo, lf, nm) : CK) = (true, xAim ((n, lit, h, t, s, g, kn, lo, lf, nm) : CK) (if kd = 97 then 0 else 1) (if ng = true then -nI nu else nI nu)) from (if_neg (show ¬ kd = 99 from s_7_99)).trans ((if_neg (show ¬ kd = 120 from s_7_120)).trans ((if_neg (show ¬ kd = 110 from s_7_110)).trans rfl)))
      first | rw [if_pos c_142] at hx | rw [if_neg c_142] at hx
      first | rw [if_pos c_157] at hx | rw [if_neg c_157] at hx
      exact k_fin E dX3_executeOrder_183 (by rw [hx]; first | done | rfl) (by rw [hx]; first | done | rfl)
    · intro c_157
      refine k_aload_n (q := 161) C 0 dX3_executeOrder_160 rfl rfl ?_
      refine k_get (q := 164) (ci := 3) (v := .ref r) C 0 8 in3_X3_executeOrder rfl (List.mem_of_getElem? (i := 1) rfl) rfl rfl (by decide) rfl dX3_executeOrder_161 rfl ?_
      refine k_get (q := 167) (ci := 1) (v := .int (nI nu)) C 5 2 in1_X3_executeOrder rfl (List.mem_of_getElem? (i := 5) rfl) rfl rfl (by decide) rfl dX3_executeOrder_164 rfl ?_
      refine k_ineg (q := 168) C dX3_executeOrder_167 rfl ?_
      refine k_goto (q := 178) C dX3_executeOrder_168 (by decide) ?_
      refine k_callVI (n := 2) (q := 181) (pre := (wXo b cy (a 0) r nx sn ln sv kp ik bf ++ wRd r kd hg nu dg ng tk)) (post := R) (w2 := ((wXo b cy (a 0) r nx sn ln sv kp ik bf ++ wRd r kd hg nu dg ng tk) ++ (wSky a cy n lit h t (upd s 1 (-(nI nu))) g kn lo lf nm ++ R))) (As := [.int 1, .int (-(nI nu))]) (rest := []) C (c_X2_giveSlope cy a n lit h t s g kn lo lf nm 1 (-(nI nu)) (by omega)) gX3_executeOrder_X2_giveSlope rfl rfl rfl (by decide +kernel) (k_room hR (by decide)) ⟨Nat.zero_le _, Nat.zero_le _⟩ (ci := 2) rfl 0 rfl rfl rfl (Nat.le_of_ble_eq_true rfl) (rfl) (rfl) dX3_executeOrder_178 rfl ?_
      refine k_pop (q := 182) C dX3_executeOrder_181 rfl rfl ?_
      refine k_iconst (q := 183) (v := 1) C dX3_executeOrder_182 (by decide) rfl ?_
      have hx := (show xStep ((kd, hg, nu, dg, ng, tk) : RT) ((n, lit, h, t, s, g, kn, lo, lf, nm) : CK) = (true, xAim ((n, lit, h, t, s, g, kn, lo, lf, nm) : CK) (if kd = 97 then 0 else 1) (if ng = true then -nI nu else nI nu)) from (if_neg (show ¬ kd = 99 from s_7_99)).trans ((if_neg (show ¬ kd = 120 from s_7_120)).trans ((if_neg (show ¬ kd = 110 from s_7_110)).trans rfl)))
      first | rw [if_pos c_142] at hx | rw [if_neg c_142] at hx
      first | rw [if_pos c_157] at hx | rw [if_neg c_157] at hx
      exact k_fin E dX3_executeOrder_183 (by rw [hx]; first | done | rfl) (by rw [hx]; first | done | rfl)
  · intro c_142
    refine k_iconst (q := 146) (v := 0) C dX3_executeOrder_145 (by decide) rfl ?_
    refine k_goto (q := 150) C dX3_executeOrder_146 (by decide) ?_
    refine k_aload_n (q := 151) C 0 dX3_executeOrder_150 rfl rfl ?_
    refine k_get (q := 154) (ci := 3) (v := .ref r) C 0 8 in3_X3_executeOrder rfl (List.mem_of_getElem? (i := 1) rfl) rfl rfl (by decide) rfl dX3_executeOrder_151 rfl ?_
    refine k_get (q := 157) (ci := 1) (v := .int (bI (ng = true))) C 5 4 in1_X3_executeOrder rfl (List.mem_of_getElem? (i := 6) rfl) rfl rfl (by decide) rfl dX3_executeOrder_154 rfl ?_
    refine k_ifB_eq (tgt := 171) (q := 160) C dX3_executeOrder_157 (by decide) rfl ?_ ?_
    · intro c_157
      refine k_aload_n (q := 172) C 0 dX3_executeOrder_171 rfl rfl ?_
      refine k_get (q := 175) (ci := 3) (v := .ref r) C 0 8 in3_X3_executeOrder rfl (List.mem_of_getElem? (i := 1) rfl) rfl rfl (by decide) rfl dX3_executeOrder_172 rfl ?_
      refine k_get (q := 178) (ci := 1) (v := .int (nI nu)) C 5 2 in1_X3_executeOrder rfl (List.mem_of_getElem? (i := 5) rfl) rfl rfl (by decide) rfl dX3_executeOrder_175 rfl ?_
      refine k_callVI (n := 2) (q := 181) (pre := (wXo b cy (a 0) r nx sn ln sv kp ik bf ++ wRd r kd hg nu dg ng tk)) (post := R) (w2 := ((wXo b cy (a 0) r nx sn ln sv kp ik bf ++ wRd r kd hg nu dg ng tk) ++ (wSky a cy n lit h t (upd s 0 (nI nu)) g kn lo lf nm ++ R))) (As := [.int 0, .int (nI nu)]) (rest := []) C (c_X2_giveSlope cy a n lit h t s g kn lo lf nm 0 (nI nu) (by omega)) gX3_executeOrder_X2_giveSlope rfl rfl rfl (by decide +kernel) (k_room hR (by decide)) ⟨Nat.zero_le _, Nat.zero_le _⟩ (ci := 2) rfl 0 rfl rfl rfl (Nat.le_of_ble_eq_true rfl) (rfl) (rfl) dX3_executeOrder_178 rfl ?_
      refine k_pop (q := 182) C dX3_executeOrder_181 rfl rfl ?_
      refine k_iconst (q := 183) (v := 1) C dX3_executeOrder_182 (by decide) rfl ?_
      have hx := (show xStep ((kd, hg, nu, dg, ng, tk) : RT) ((n, lit, h, t, s, g, kn, lo, lf, nm) : CK) = (true, xAim ((n, lit, h, t, s, g, kn, lo, lf, nm) : CK) (if kd = 97 then 0 else 1) (if ng = true then -nI nu else nI nu)) from (if_neg (show ¬ kd = 99 from s_7_99)).trans ((if_neg (show ¬ kd = 120 from s_7_120)).trans ((if_neg (show ¬ kd = 110 from s_7_110)).trans rfl)))
      first | rw [if_pos c_142] at hx | rw [if_neg c_142] at hx
      first | rw [if_pos c_157] at hx | rw [if_neg c_157] at hx
      exact k_fin E dX3_executeOrder_183 (by rw [hx]; first | done | rfl) (by rw [hx]; first | done | rfl)
    · intro c_157
      refine k_aload_n (q := 161) C 0 dX3_executeOrder_160 rfl rfl ?_
      refine k_get (q := 164) (ci := 3) (v := .ref r) C 0 8 in3_X3_executeOrder rfl (List.mem_of_getElem? (i := 1) rfl) rfl rfl (by decide) rfl dX3_executeOrder_161 rfl ?_
      refine k_get (q := 167) (ci := 1) (v := .int (nI nu)) C 5 2 in1_X3_executeOrder rfl (List.mem_of_getElem? (i := 5) rfl) rfl rfl (by decide) rfl dX3_executeOrder_164 rfl ?_
      refine k_ineg (q := 168) C dX3_executeOrder_167 rfl ?_
      refine k_goto (q := 178) C dX3_executeOrder_168 (by decide) ?_
      refine k_callVI (n := 2) (q := 181) (pre := (wXo b cy (a 0) r nx sn ln sv kp ik bf ++ wRd r kd hg nu dg ng tk)) (post := R) (w2 := ((wXo b cy (a 0) r nx sn ln sv kp ik bf ++ wRd r kd hg nu dg ng tk) ++ (wSky a cy n lit h t (upd s 0 (-(nI nu))) g kn lo lf nm ++ R))) (As := [.int 0, .int (-(nI nu))]) (rest := []) C (c_X2_giveSlope cy a n lit h t s g kn lo lf nm 0 (-(nI nu)) (by omega)) gX3_executeOrder_X2_giveSlope rfl rfl rfl (by decide +kernel) (k_room hR (by decide)) ⟨Nat.zero_le _, Nat.zero_le _⟩ (ci := 2) rfl 0 rfl rfl rfl (Nat.le_of_ble_eq_true rfl) (rfl) (rfl) dX3_executeOrder_178 rfl ?_
      refine k_pop (q := 182) C dX3_executeOrder_181 rfl rfl ?_
      refine k_iconst (q := 183) (v := 1) C dX3_executeOrder_182 (by decide) rfl ?_
      have hx := (show xStep ((kd, hg, nu, dg, ng, tk) : RT) ((n, lit, h, t, s, g, kn, lo, lf, nm) : CK) = (true, xAim ((n, lit, h, t, s, g, kn, lo, lf, nm) : CK) (if kd = 97 then 0 else 1) (if ng = true then -nI nu else nI nu)) from (if_neg (show ¬ kd = 99 from s_7_99)).trans ((if_neg (show ¬ kd = 120 from s_7_120)).trans ((if_neg (show ¬ kd = 110 from s_7_110)).trans rfl)))
      first | rw [if_pos c_142] at hx | rw [if_neg c_142] at hx
      first | rw [if_pos c_157] at hx | rw [if_neg c_157] at hx
      exact k_fin E dX3_executeOrder_183 (by rw [hx]; first | done | rfl) (by rw [hx]; first | done | rfl)
abbrev rm_X3_readBuffer : Room := { frames := 4, cells := 0, slots := 0, locals := 81 }
theorem in1_X3_readBuffer : ∀ w ∈ wsX10, w ∈ wsX3_readBuffer := fun _ h => (List.mem_cons_of_mem _ (List.mem_append_right _ h))
theorem in3_X3_readBuffer : ∀ w ∈ wsX30, w ∈ wsX3_readBuffer := fun _ h => (List.mem_cons_of_mem _ (List.mem_append_left _ (List.mem_append_right _ h)))
set_option maxHeartbeats 4000000 in
set_option maxRecDepth 100000 in
theorem lp_X3_readBuffer_9 (cy : Nat → ClassId) (a : Nat → Nat) (b : Nat → Nat) (r : Nat) (nx : Nat) (sn : Nat) (ln : Nat) (sv : Nat → Option Nat) (kp : Nat → Option Nat) (ik : Nat → Int32) (bf : Nat → Nat) (kd : Nat) (hg : Nat) (nu : Nat) (dg : Nat) (ng : Bool) (tk : Bool) (n : Nat) (lit : Int32) (h : Nat → Int32) (t : Nat → Int32) (s : Nat → Int32) (g : Nat → Int32) (kn : Nat) (lo : Int32) (lf : Int32) (nm : Nat → Int32) (R : va_W)  (hb : ∀ i, bf i ≤ 126) (hln : ln ≤ 60) (X : kX) (hR : xR X = rm_X3_readBuffer) (C : kC X 2 RX3 cX3_readBuffer wsX3_readBuffer cy) (E : kEnd X 2 cX3_readBuffer (nI (xRead bf ln (ln + 1) 0 ((0, 0, 0, 0, false, false) : RT)).1) ((wXo b cy (a 0) r nx sn ln sv kp ik bf ++ wRd r (xRead bf ln (ln + 1) 0 ((0, 0, 0, 0, false, false) : RT)).2.1 (xRead bf ln (ln + 1) 0 ((0, 0, 0, 0, false, false) : RT)).2.2.1 (xRead bf ln (ln + 1) 0 ((0, 0, 0, 0, false, false) : RT)).2.2.2.1 (xRead bf ln (ln + 1) 0 ((0, 0, 0, 0, false, false) : RT)).2.2.2.2.1 (xRead bf ln (ln + 1) 0 ((0, 0, 0, 0, false, false) : RT)).2.2.2.2.2.1 (xRead bf ln (ln + 1) 0 ((0, 0, 0, 0, false, false) : RT)).2.2.2.2.2.2) ++ (wSky a cy n lit h t s g kn lo lf nm ++ R))) : ∀ (fu : Nat) (i : Nat) (kd1 : Nat) (hg1 : Nat) (nu1 : Nat) (dg1 : Nat) (ng1 : Bool) (tk1 : Bool), ln + 1 - i < fu → (i ≤ ln) → (rOk ((kd1, hg1, nu1, dg1, ng1, tk1) : RT) i) → (∀ f, ln - i < f → xRead bf ln f i ((kd1, hg1, nu1, dg1, ng1, tk1) : RT) = (xRead bf ln (ln + 1) 0 ((0, 0, 0, 0, false, false) : RT))) → kG X 2 0 0 ((wXo b cy (a 0) r nx sn ln sv kp ik bf ++ wRd r kd1 hg1 nu1 dg1 ng1 tk1) ++ (wSky a cy n lit h t s g kn lo lf nm ++ R)) 9 [(0, .ref (b 0)), (1, .int (nI i))] [] := by
  intro fu
  induction fu with
  | zero => intro i kd1 hg1 nu1 dg1 ng1 tk1 hfu; exact absurd hfu (Nat.not_lt_zero _)
  | succ fu ih =>
    intro i kd1 hg1 nu1 dg1 ng1 tk1 hfu hi hro hR1
    have hbi := hb i
    have hR2 := hR1 (ln - i + 1) (by omega)
    have hR3 := fun f hf => hR1 (f + 1) hf
    rw [xRead] at hR2
    refine k_iload_n (q := 10) C 1 dX3_readBuffer_9 rfl rfl ?_
    refine k_aload_n (q := 11) C 0 dX3_readBuffer_10 rfl rfl ?_
    refine k_get (q := 14) (ci := 3) (v := .int (nI ln)) C 0 7 in3_X3_readBuffer rfl (List.mem_of_getElem? (i := 2) rfl) rfl rfl (by decide) rfl dX3_readBuffer_11 rfl ?_
    refine k_nicmp_ge (a := i) (b := ln)  (tgt := 41) (q := 17) C dX3_readBuffer_14 (by decide) rfl (by omega) (by omega) ?_ ?_
    · intro c_14
      refine k_aload_n (q := 42) C 0 dX3_readBuffer_41 rfl rfl ?_
      refine k_get (q := 45) (ci := 3) (v := .int (nI ln)) C 0 7 in3_X3_readBuffer rfl (List.mem_of_getElem? (i := 2) rfl) rfl rfl (by decide) rfl dX3_readBuffer_42 rfl ?_
      rw [if_neg (show ¬ i < ln by omega)] at hR2
      exact k_fin E dX3_readBuffer_45 (by rw [← hR2]) (by rw [← hR2])
    · intro c_14
      refine k_aload_n (q := 18) C 0 dX3_readBuffer_17 rfl rfl ?_
      refine k_get (q := 21) (ci := 3) (v := .ref r) C 0 8 in3_X3_readBuffer rfl (List.mem_of_getElem? (i := 1) rfl) rfl rfl (by decide) rfl dX3_readBuffer_18 rfl ?_
      refine k_aload_n (q := 22) C 0 dX3_readBuffer_21 rfl rfl ?_
      refine k_get (q := 25) (ci := 3) (v := .ref (b 4)) C 0 6 in3_X3_readBuffer rfl (List.mem_of_getElem? (i := 3) rfl) rfl rfl (by decide) rfl dX3_readBuffer_22 rfl ?_
      refine k_iload_n (q := 26) C 1 dX3_readBuffer_25 rfl rfl ?_
      refine k_cald (q := 27) C 4 rfl (vp_in_nI (n := i) (by omega) (by decide)) dX3_readBuffer_26 rfl ?_
      refine k_st (st2 := (.int ((fun j => nI (bf j)) i) :: _)) (congrArg (fun z => Value.int z :: _) (show (fun j => nI (bf j)) (nI i).toNatClampNeg = (fun j => nI (bf j)) i from congrArg (fun j => nI (bf j)) (nI_clamp (n := i) (by omega)))) ?_
      refine k_st (st2 := (.int (nI (bf i)) :: _)) (congrArg (fun z => Value.int z :: _) (show (fun j => nI (bf j)) i = nI (bf i) from rfl)) ?_
      refine k_callVI (n := 1) (q := 30) (pre := (wXo b cy (a 0) r nx sn ln sv kp ik bf)) (post := (wSky a cy n lit h t s g kn lo lf nm ++ R)) (w2 := ((wXo b cy (a 0) r nx sn ln sv kp ik bf ++ wRd r (rTakes (bf i) (kd1, hg1, nu1, dg1, ng1, tk1)).2.1 (rTakes (bf i) (kd1, hg1, nu1, dg1, ng1, tk1)).2.2.1 (rTakes (bf i) (kd1, hg1, nu1, dg1, ng1, tk1)).2.2.2.1 (rTakes (bf i) (kd1, hg1, nu1, dg1, ng1, tk1)).2.2.2.2.1 (rTakes (bf i) (kd1, hg1, nu1, dg1, ng1, tk1)).2.2.2.2.2.1 (rTakes (bf i) (kd1, hg1, nu1, dg1, ng1, tk1)).2.2.2.2.2.2) ++ (wSky a cy n lit h t s g kn lo lf nm ++ R))) (As := [.int (nI (bf i))]) (rest := []) C (c_X1_takes cy r kd1 hg1 nu1 dg1 ng1 tk1 (bf i) (Nat.lt_of_lt_of_le hro.1 (by decide)) (Nat.lt_of_le_of_lt hro.2.1 (by decide)) (Nat.lt_of_le_of_lt hro.2.2.1 (by omega)) (Nat.lt_of_le_of_lt (hb i) (by decide))) gX3_readBuffer_X1_takes rfl rfl rfl (by decide +kernel) (k_room hR (by decide)) ⟨Nat.zero_le _, Nat.zero_le _⟩ (ci := 1) rfl 0 rfl rfl rfl (Nat.le_of_ble_eq_true rfl) (rfl) (rfl) dX3_readBuffer_27 rfl ?_
      refine k_ifB_ne (tgt := 35) (q := 33) C dX3_readBuffer_30 (by decide) rfl ?_ ?_
      · intro c_30
        refine k_iinc (q := 38) (v := nI (i + 1)) (fr2 := [(1, .int (nI (i + 1))), (0, .ref (b 0))]) C 1 dX3_readBuffer_35 rfl (nI_add i 1) (by decide) rfl rfl ?_
        refine k_goto (q := 9) C dX3_readBuffer_38 (by decide) ?_
        refine k_fr (fr2 := [(0, .ref (b 0)), (1, .int (nI (i + 1)))]) ⟨[1, 0], rfl⟩ ?_
        exact ih (i + 1) (rTakes (bf i) (kd1, hg1, nu1, dg1, ng1, tk1)).2.1 (rTakes (bf i) (kd1, hg1, nu1, dg1, ng1, tk1)).2.2.1 (rTakes (bf i) (kd1, hg1, nu1, dg1, ng1, tk1)).2.2.2.1 (rTakes (bf i) (kd1, hg1, nu1, dg1, ng1, tk1)).2.2.2.2.1 (rTakes (bf i) (kd1, hg1, nu1, dg1, ng1, tk1)).2.2.2.2.2.1 (rTakes (bf i) (kd1, hg1, nu1, dg1, ng1, tk1)).2.2.2.2.2.2 (by omega) (by omega) (rTakes_ok hro (by omega)) (fun f hf => by have q := hR3 f (by omega); rw [xRead, if_pos c_14, if_pos c_30] at q; exact q)
      · intro c_30
        refine k_iload_n (q := 34) C 1 dX3_readBuffer_33 rfl rfl ?_
        rw [if_pos c_14, if_neg c_30] at hR2
        exact k_fin E dX3_readBuffer_34 (by rw [← hR2]) (by rw [← hR2])
set_option maxHeartbeats 4000000 in
set_option maxRecDepth 100000 in
theorem c_X3_readBuffer (cy : Nat → ClassId) (a : Nat → Nat) (b : Nat → Nat) (r : Nat) (nx : Nat) (sn : Nat) (ln : Nat) (sv : Nat → Option Nat) (kp : Nat → Option Nat) (ik : Nat → Int32) (bf : Nat → Nat) (kd : Nat) (hg : Nat) (nu : Nat) (dg : Nat) (ng : Bool) (tk : Bool) (n : Nat) (lit : Int32) (h : Nat → Int32) (t : Nat → Int32) (s : Nat → Int32) (g : Nat → Int32) (kn : Nat) (lo : Int32) (lf : Int32) (nm : Nat → Int32) (R : va_W)  (hb : ∀ i, bf i ≤ 126) (hln : ln ≤ 60) : kI yX3_readBuffer wsX3_readBuffer rm_X3_readBuffer cy [.ref (b 0)] ((wXo b cy (a 0) r nx sn ln sv kp ik bf ++ wRd r kd hg nu dg ng tk) ++ (wSky a cy n lit h t s g kn lo lf nm ++ R)) (nI (xRead bf ln (ln + 1) 0 ((0, 0, 0, 0, false, false) : RT)).1) ((wXo b cy (a 0) r nx sn ln sv kp ik bf ++ wRd r (xRead bf ln (ln + 1) 0 ((0, 0, 0, 0, false, false) : RT)).2.1 (xRead bf ln (ln + 1) 0 ((0, 0, 0, 0, false, false) : RT)).2.2.1 (xRead bf ln (ln + 1) 0 ((0, 0, 0, 0, false, false) : RT)).2.2.2.1 (xRead bf ln (ln + 1) 0 ((0, 0, 0, 0, false, false) : RT)).2.2.2.2.1 (xRead bf ln (ln + 1) 0 ((0, 0, 0, 0, false, false) : RT)).2.2.2.2.2.1 (xRead bf ln (ln + 1) 0 ((0, 0, 0, 0, false, false) : RT)).2.2.2.2.2.2) ++ (wSky a cy n lit h t s g kn lo lf nm ++ R)) := by
  refine kI_of (cc := cX3_readBuffer) (maxL := 2) (rt := .int) (by decide) rfl (rfl) (Nat.le_of_ble_eq_true rfl) ?_
  intro X hR C E
  have C : kC X 2 RX3 cX3_readBuffer wsX3_readBuffer cy := C
  refine k_fr (fr2 := [(0, .ref (b 0))]) ⟨[0], rfl⟩ ?_
  refine k_aload_n (q := 1) C 0 dX3_readBuffer_0 rfl rfl ?_
  refine k_get (q := 4) (ci := 3) (v := .ref r) C 0 8 in3_X3_readBuffer rfl (List.mem_of_getElem? (i := 1) rfl) rfl rfl (by decide) rfl dX3_readBuffer_1 rfl ?_
  refine k_callVV (n := 0) (q := 7) (pre := (wXo b cy (a 0) r nx sn ln sv kp ik bf)) (post := (wSky a cy n lit h t s g kn lo lf nm ++ R)) (w2 := ((wXo b cy (a 0) r nx sn ln sv kp ik bf ++ wRd r 0 0 0 0 false false) ++ (wSky a cy n lit h t s g kn lo lf nm ++ R))) (As := []) (rest := []) C (c_X1_startOrder cy r kd hg nu dg ng tk) gX3_readBuffer_X1_startOrder rfl rfl rfl (by decide +kernel) (k_room hR (by decide)) ⟨Nat.zero_le _, Nat.zero_le _⟩ (ci := 1) rfl 0 rfl rfl rfl (Nat.le_of_ble_eq_true rfl) (rfl) (rfl) dX3_readBuffer_4 rfl ?_
  refine k_iconst (q := 8) (v := 0) C dX3_readBuffer_7 (by decide) rfl ?_
  refine k_istore_n (q := 9) (fr2 := [(1, .int 0), (0, .ref (b 0))]) C dX3_readBuffer_8 (by decide) rfl rfl ?_
  refine k_fr (fr2 := [(0, .ref (b 0)), (1, .int 0)]) ⟨[1, 0], rfl⟩ ?_
  exact lp_X3_readBuffer_9 cy a b r nx sn ln sv kp ik bf kd hg nu dg ng tk n lit h t s g kn lo lf nm R hb hln X hR C E _ 0 0 0 0 0 false false (Nat.lt_succ_self _) (Nat.zero_le _) ⟨by decide, Nat.zero_le _, Nat.zero_le _, Nat.zero_le _⟩ (fun f hf => xRead_fuel f (ln + 1) 0 _ hf (by omega))
abbrev rm_X3_firstError : Room := { frames := 5, cells := 0, slots := 0, locals := 102 }
theorem in1_X3_firstError : ∀ w ∈ wsX10, w ∈ wsX3_firstError := fun _ h => (List.mem_cons_of_mem _ (List.mem_append_right _ h))
theorem in3_X3_firstError : ∀ w ∈ wsX30, w ∈ wsX3_firstError := fun _ h => (List.mem_cons_of_mem _ (List.mem_append_left _ (List.mem_append_right _ h)))
set_option maxHeartbeats 4000000 in
set_option maxRecDepth 100000 in
theorem c_X3_firstError (cy : Nat → ClassId) (a : Nat → Nat) (b : Nat → Nat) (r : Nat) (nx : Nat) (sn : Nat) (ln : Nat) (sv : Nat → Option Nat) (kp : Nat → Option Nat) (ik : Nat → Int32) (bf : Nat → Nat) (kd : Nat) (hg : Nat) (nu : Nat) (dg : Nat) (ng : Bool) (tk : Bool) (n : Nat) (lit : Int32) (h : Nat → Int32) (t : Nat → Int32) (s : Nat → Int32) (g : Nat → Int32) (kn : Nat) (lo : Int32) (lf : Int32) (nm : Nat → Int32) (R : va_W)  (hb : ∀ i, bf i ≤ 126) (hln : ln ≤ 60) : kI yX3_firstError wsX3_firstError rm_X3_firstError cy [.ref (b 0)] ((wXo b cy (a 0) r nx sn ln sv kp ik bf ++ wRd r kd hg nu dg ng tk) ++ (wSky a cy n lit h t s g kn lo lf nm ++ R)) (nI (xRead bf ln (ln + 1) 0 ((0, 0, 0, 0, false, false) : RT)).1) ((wXo b cy (a 0) r nx sn ln sv kp ik bf ++ wRd r (xRead bf ln (ln + 1) 0 ((0, 0, 0, 0, false, false) : RT)).2.1 (xRead bf ln (ln + 1) 0 ((0, 0, 0, 0, false, false) : RT)).2.2.1 (xRead bf ln (ln + 1) 0 ((0, 0, 0, 0, false, false) : RT)).2.2.2.1 (xRead bf ln (ln + 1) 0 ((0, 0, 0, 0, false, false) : RT)).2.2.2.2.1 (xRead bf ln (ln + 1) 0 ((0, 0, 0, 0, false, false) : RT)).2.2.2.2.2.1 (xRead bf ln (ln + 1) 0 ((0, 0, 0, 0, false, false) : RT)).2.2.2.2.2.2) ++ (wSky a cy n lit h t s g kn lo lf nm ++ R)) := by
  refine kI_of (cc := cX3_firstError) (maxL := 1) (rt := .int) (by decide) rfl (rfl) (Nat.le_of_ble_eq_true rfl) ?_
  intro X hR C E
  have C : kC X 1 RX3 cX3_firstError wsX3_firstError cy := C
  refine k_fr (fr2 := [(0, .ref (b 0))]) ⟨[0], rfl⟩ ?_
  refine k_aload_n (q := 1) C 0 dX3_firstError_0 rfl rfl ?_
  refine k_callVI (n := 0) (q := 4) (pre := ([] : va_W)) (post := ([] : va_W)) (w2 := ((wXo b cy (a 0) r nx sn ln sv kp ik bf ++ wRd r (xRead bf ln (ln + 1) 0 ((0, 0, 0, 0, false, false) : RT)).2.1 (xRead bf ln (ln + 1) 0 ((0, 0, 0, 0, false, false) : RT)).2.2.1 (xRead bf ln (ln + 1) 0 ((0, 0, 0, 0, false, false) : RT)).2.2.2.1 (xRead bf ln (ln + 1) 0 ((0, 0, 0, 0, false, false) : RT)).2.2.2.2.1 (xRead bf ln (ln + 1) 0 ((0, 0, 0, 0, false, false) : RT)).2.2.2.2.2.1 (xRead bf ln (ln + 1) 0 ((0, 0, 0, 0, false, false) : RT)).2.2.2.2.2.2) ++ (wSky a cy n lit h t s g kn lo lf nm ++ R))) (As := []) (rest := []) C (c_X3_readBuffer cy a b r nx sn ln sv kp ik bf kd hg nu dg ng tk n lit h t s g kn lo lf nm R hb hln) gX3_firstError_X3_readBuffer rfl rfl rfl (by decide +kernel) (k_room hR (by decide)) ⟨Nat.zero_le _, Nat.zero_le _⟩ (ci := 3) rfl 0 rfl rfl rfl (Nat.le_of_ble_eq_true rfl) ((List.append_nil _).symm) (List.append_nil _) dX3_firstError_1 rfl ?_
  exact k_fin E dX3_firstError_4 (rfl) (rfl)
abbrev rm_X3_executeOrders : Room := { frames := 5, cells := 0, slots := 0, locals := 119 }
theorem in0_X3_executeOrders : ∀ w ∈ wsX00, w ∈ wsX3_executeOrders := fun _ h => (List.mem_cons_of_mem _ (List.mem_append_right _ h))
theorem in1_X3_executeOrders : ∀ w ∈ wsX10, w ∈ wsX3_executeOrders := fun _ h => (List.mem_cons_of_mem _ (List.mem_append_left _ (List.mem_append_left _ (List.mem_append_right _ h))))
theorem in2_X3_executeOrders : ∀ w ∈ wsX20, w ∈ wsX3_executeOrders := fun _ h => (List.mem_cons_of_mem _ (List.mem_append_left _ (List.mem_append_right _ h)))
theorem in3_X3_executeOrders : ∀ w ∈ wsX30, w ∈ wsX3_executeOrders := fun _ h => (List.mem_cons_of_mem _ (List.mem_append_left _ (List.mem_append_left _ (List.mem_append_left _ (List.mem_append_right _ h)))))
set_option maxHeartbeats 4000000 in
set_option maxRecDepth 100000 in
theorem lp_X3_executeOrders_11 (cy : Nat → ClassId) (a : Nat → Nat) (b : Nat → Nat) (r : Nat) (nx : Nat) (sn : Nat) (ln : Nat) (sv : Nat → Option Nat) (kp : Nat → Option Nat) (ik : Nat → Int32) (bf : Nat → Nat) (kd : Nat) (hg : Nat) (nu : Nat) (dg : Nat) (ng : Bool) (tk : Bool) (n : Nat) (lit : Int32) (h : Nat → Int32) (t : Nat → Int32) (s : Nat → Int32) (g : Nat → Int32) (kn : Nat) (lo : Int32) (lf : Int32) (nm : Nat → Int32) (R : va_W)  (hb : ∀ i, bf i ≤ 126) (hln : ln ≤ 60) (hn : n ≤ 6) (hk : kn ≤ 8) (X : kX) (hR : xR X = rm_X3_executeOrders) (C : kC X 3 RX3 cX3_executeOrders wsX3_executeOrders cy) (E : kEnd X 3 cX3_executeOrders (nI (xRun bf ln (ln + 1) 0 0 ((0, 0, 0, 0, false, false) : RT) ((n, lit, h, t, s, g, kn, lo, lf, nm) : CK)).1) ((wXo b cy (a 0) r nx sn ln sv kp ik bf ++ wRd r (xRun bf ln (ln + 1) 0 0 ((0, 0, 0, 0, false, false) : RT) ((n, lit, h, t, s, g, kn, lo, lf, nm) : CK)).2.1.1 (xRun bf ln (ln + 1) 0 0 ((0, 0, 0, 0, false, false) : RT) ((n, lit, h, t, s, g, kn, lo, lf, nm) : CK)).2.1.2.1 (xRun bf ln (ln + 1) 0 0 ((0, 0, 0, 0, false, false) : RT) ((n, lit, h, t, s, g, kn, lo, lf, nm) : CK)).2.1.2.2.1 (xRun bf ln (ln + 1) 0 0 ((0, 0, 0, 0, false, false) : RT) ((n, lit, h, t, s, g, kn, lo, lf, nm) : CK)).2.1.2.2.2.1 (xRun bf ln (ln + 1) 0 0 ((0, 0, 0, 0, false, false) : RT) ((n, lit, h, t, s, g, kn, lo, lf, nm) : CK)).2.1.2.2.2.2.1 (xRun bf ln (ln + 1) 0 0 ((0, 0, 0, 0, false, false) : RT) ((n, lit, h, t, s, g, kn, lo, lf, nm) : CK)).2.1.2.2.2.2.2) ++ (wSky a cy (qN (xRun bf ln (ln + 1) 0 0 ((0, 0, 0, 0, false, false) : RT) ((n, lit, h, t, s, g, kn, lo, lf, nm) : CK)).2.2) (qLit (xRun bf ln (ln + 1) 0 0 ((0, 0, 0, 0, false, false) : RT) ((n, lit, h, t, s, g, kn, lo, lf, nm) : CK)).2.2) (qH (xRun bf ln (ln + 1) 0 0 ((0, 0, 0, 0, false, false) : RT) ((n, lit, h, t, s, g, kn, lo, lf, nm) : CK)).2.2) (qT (xRun bf ln (ln + 1) 0 0 ((0, 0, 0, 0, false, false) : RT) ((n, lit, h, t, s, g, kn, lo, lf, nm) : CK)).2.2) (qS (xRun bf ln (ln + 1) 0 0 ((0, 0, 0, 0, false, false) : RT) ((n, lit, h, t, s, g, kn, lo, lf, nm) : CK)).2.2) (qG (xRun bf ln (ln + 1) 0 0 ((0, 0, 0, 0, false, false) : RT) ((n, lit, h, t, s, g, kn, lo, lf, nm) : CK)).2.2) (qK (xRun bf ln (ln + 1) 0 0 ((0, 0, 0, 0, false, false) : RT) ((n, lit, h, t, s, g, kn, lo, lf, nm) : CK)).2.2) (qLo (xRun bf ln (ln + 1) 0 0 ((0, 0, 0, 0, false, false) : RT) ((n, lit, h, t, s, g, kn, lo, lf, nm) : CK)).2.2) (qLf (xRun bf ln (ln + 1) 0 0 ((0, 0, 0, 0, false, false) : RT) ((n, lit, h, t, s, g, kn, lo, lf, nm) : CK)).2.2) (qNm (xRun bf ln (ln + 1) 0 0 ((0, 0, 0, 0, false, false) : RT) ((n, lit, h, t, s, g, kn, lo, lf, nm) : CK)).2.2) ++ R))) : ∀ (fu : Nat) (i : Nat) (d : Nat) (kd1 : Nat) (hg1 : Nat) (nu1 : Nat) (dg1 : Nat) (ng1 : Bool) (tk1 : Bool) (n1 : Nat) (lit1 : Int32) (h1 : Nat → Int32) (t1 : Nat → Int32) (s1 : Nat → Int32) (g1 : Nat → Int32) (kn1 : Nat) (lo1 : Int32) (lf1 : Int32) (nm1 : Nat → Int32), ln + 1 - i < fu → (i ≤ ln) → (rOk ((kd1, hg1, nu1, dg1, ng1, tk1) : RT) i) → (qInv ((n1, lit1, h1, t1, s1, g1, kn1, lo1, lf1, nm1) : CK)) → (∀ f, ln - i < f → xRun bf ln f i d ((kd1, hg1, nu1, dg1, ng1, tk1) : RT) ((n1, lit1, h1, t1, s1, g1, kn1, lo1, lf1, nm1) : CK) = (xRun bf ln (ln + 1) 0 0 ((0, 0, 0, 0, false, false) : RT) ((n, lit, h, t, s, g, kn, lo, lf, nm) : CK))) → kG X 3 0 0 ((wXo b cy (a 0) r nx sn ln sv kp ik bf ++ wRd r kd1 hg1 nu1 dg1 ng1 tk1) ++ (wSky a cy n1 lit1 h1 t1 s1 g1 kn1 lo1 lf1 nm1 ++ R)) 11 [(0, .ref (b 0)), (1, .int (nI d)), (2, .int (nI i))] [] := by
  intro fu
  induction fu with
  | zero => intro i d kd1 hg1 nu1 dg1 ng1 tk1 n1 lit1 h1 t1 s1 g1 kn1 lo1 lf1 nm1 hfu; exact absurd hfu (Nat.not_lt_zero _)
  | succ fu ih =>
    intro i d kd1 hg1 nu1 dg1 ng1 tk1 n1 lit1 h1 t1 s1 g1 kn1 lo1 lf1 nm1 hfu hi hro hq hR1
    have hbi := hb i
    have hR2 := hR1 (ln - i + 1) (by omega)
    have hR3 := fun f hf => hR1 (f + 1) hf
    rw [xRun] at hR2
    refine k_iload_n (q := 12) C 2 dX3_executeOrders_11 rfl rfl ?_
    refine k_aload_n (q := 13) C 0 dX3_executeOrders_12 rfl rfl ?_
    refine k_get (q := 16) (ci := 3) (v := .int (nI ln)) C 0 7 in3_X3_executeOrders rfl (List.mem_of_getElem? (i := 2) rfl) rfl rfl (by decide) rfl dX3_executeOrders_13 rfl ?_
    refine k_nicmp_ge (a := i) (b := ln)  (tgt := 62) (q := 19) C dX3_executeOrders_16 (by decide) rfl (by omega) (by omega) ?_ ?_
    · intro c_16
      refine k_aload_n (q := 63) C 0 dX3_executeOrders_62 rfl rfl ?_
      refine k_callVI (n := 0) (q := 66) (pre := ([] : va_W)) (post := ([] : va_W)) (w2 := ((wXo b cy (a 0) r nx sn ln sv kp ik bf ++ wRd r kd1 hg1 nu1 dg1 ng1 tk1) ++ (wSky a cy (qN (xStep ((kd1, hg1, nu1, dg1, ng1, tk1) : RT) ((n1, lit1, h1, t1, s1, g1, kn1, lo1, lf1, nm1) : CK)).2) (qLit (xStep ((kd1, hg1, nu1, dg1, ng1, tk1) : RT) ((n1, lit1, h1, t1, s1, g1, kn1, lo1, lf1, nm1) : CK)).2) (qH (xStep ((kd1, hg1, nu1, dg1, ng1, tk1) : RT) ((n1, lit1, h1, t1, s1, g1, kn1, lo1, lf1, nm1) : CK)).2) (qT (xStep ((kd1, hg1, nu1, dg1, ng1, tk1) : RT) ((n1, lit1, h1, t1, s1, g1, kn1, lo1, lf1, nm1) : CK)).2) (qS (xStep ((kd1, hg1, nu1, dg1, ng1, tk1) : RT) ((n1, lit1, h1, t1, s1, g1, kn1, lo1, lf1, nm1) : CK)).2) (qG (xStep ((kd1, hg1, nu1, dg1, ng1, tk1) : RT) ((n1, lit1, h1, t1, s1, g1, kn1, lo1, lf1, nm1) : CK)).2) (qK (xStep ((kd1, hg1, nu1, dg1, ng1, tk1) : RT) ((n1, lit1, h1, t1, s1, g1, kn1, lo1, lf1, nm1) : CK)).2) (qLo (xStep ((kd1, hg1, nu1, dg1, ng1, tk1) : RT) ((n1, lit1, h1, t1, s1, g1, kn1, lo1, lf1, nm1) : CK)).2) (qLf (xStep ((kd1, hg1, nu1, dg1, ng1, tk1) : RT) ((n1, lit1, h1, t1, s1, g1, kn1, lo1, lf1, nm1) : CK)).2) (qNm (xStep ((kd1, hg1, nu1, dg1, ng1, tk1) : RT) ((n1, lit1, h1, t1, s1, g1, kn1, lo1, lf1, nm1) : CK)).2) ++ R))) (As := []) (rest := []) C (c_X3_executeOrder cy a b r nx sn ln sv kp ik bf kd1 hg1 nu1 dg1 ng1 tk1 n1 lit1 h1 t1 s1 g1 kn1 lo1 lf1 nm1 R (Nat.lt_of_lt_of_le hro.1 (by decide)) hq.1 hq.2 (Nat.lt_of_le_of_lt hro.2.1 (by decide)) (Nat.lt_of_le_of_lt hro.2.2.2 (by decide))) gX3_executeOrders_X3_executeOrder rfl rfl rfl (by decide +kernel) (k_room hR (by decide)) ⟨Nat.zero_le _, Nat.zero_le _⟩ (ci := 3) rfl 0 rfl rfl rfl (Nat.le_of_ble_eq_true rfl) ((List.append_nil _).symm) (List.append_nil _) dX3_executeOrders_63 rfl ?_
      refine k_ifB_eq (tgt := 75) (q := 69) C dX3_executeOrders_66 (by decide) rfl ?_ ?_
      · intro c_66
        refine k_iload_n (q := 76) C 1 dX3_executeOrders_75 rfl rfl ?_
        rw [if_neg (show ¬ i < ln by omega), if_neg c_66] at hR2
        exact k_fin E dX3_executeOrders_76 (by rw [← hR2]) (by rw [← hR2])
      · intro c_66
        refine k_iload_n (q := 70) C 1 dX3_executeOrders_69 rfl rfl ?_
        refine k_iconst (q := 71) (v := 1) C dX3_executeOrders_70 (by decide) rfl ?_
        refine k_iadd (q := 72) C dX3_executeOrders_71 rfl ?_
        refine k_st (st2 := (.int (nI (d + 1)) :: _)) (congrArg (fun z => Value.int z :: _) (show (nI d) + 1 = nI (d + 1) from nI_add d 1)) ?_
        refine k_goto (q := 76) C dX3_executeOrders_72 (by decide) ?_
        rw [if_neg (show ¬ i < ln by omega), if_pos c_66] at hR2
        exact k_fin E dX3_executeOrders_76 (by rw [← hR2]) (by rw [← hR2])
    · intro c_16
      refine k_aload_n (q := 20) C 0 dX3_executeOrders_19 rfl rfl ?_
      refine k_get (q := 23) (ci := 3) (v := .ref (b 4)) C 0 6 in3_X3_executeOrders rfl (List.mem_of_getElem? (i := 3) rfl) rfl rfl (by decide) rfl dX3_executeOrders_20 rfl ?_
      refine k_iload_n (q := 24) C 2 dX3_executeOrders_23 rfl rfl ?_
      refine k_cald (q := 25) C 4 rfl (vp_in_nI (n := i) (by omega) (by decide)) dX3_executeOrders_24 rfl ?_
      refine k_st (st2 := (.int ((fun j => nI (bf j)) i) :: _)) (congrArg (fun z => Value.int z :: _) (show (fun j => nI (bf j)) (nI i).toNatClampNeg = (fun j => nI (bf j)) i from congrArg (fun j => nI (bf j)) (nI_clamp (n := i) (by omega)))) ?_
      refine k_st (st2 := (.int (nI (bf i)) :: _)) (congrArg (fun z => Value.int z :: _) (show (fun j => nI (bf j)) i = nI (bf i) from rfl)) ?_
      refine k_bipush (q := 27) (v := 59) C dX3_executeOrders_25 (by decide +kernel) rfl ?_
      refine k_nicmp_ne (a := bf i) (b := 59)  (tgt := 42) (q := 30) C dX3_executeOrders_27 (by decide) rfl (by omega) (by decide) ?_ ?_
      · intro c_27
        refine k_aload_n (q := 43) C 0 dX3_executeOrders_42 rfl rfl ?_
        refine k_get (q := 46) (ci := 3) (v := .ref r) C 0 8 in3_X3_executeOrders rfl (List.mem_of_getElem? (i := 1) rfl) rfl rfl (by decide) rfl dX3_executeOrders_43 rfl ?_
        refine k_aload_n (q := 47) C 0 dX3_executeOrders_46 rfl rfl ?_
        refine k_get (q := 50) (ci := 3) (v := .ref (b 4)) C 0 6 in3_X3_executeOrders rfl (List.mem_of_getElem? (i := 3) rfl) rfl rfl (by decide) rfl dX3_executeOrders_47 rfl ?_
        refine k_iload_n (q := 51) C 2 dX3_executeOrders_50 rfl rfl ?_
        refine k_cald (q := 52) C 4 rfl (vp_in_nI (n := i) (by omega) (by decide)) dX3_executeOrders_51 rfl ?_
        refine k_st (st2 := (.int ((fun j => nI (bf j)) i) :: _)) (congrArg (fun z => Value.int z :: _) (show (fun j => nI (bf j)) (nI i).toNatClampNeg = (fun j => nI (bf j)) i from congrArg (fun j => nI (bf j)) (nI_clamp (n := i) (by omega)))) ?_
        refine k_st (st2 := (.int (nI (bf i)) :: _)) (congrArg (fun z => Value.int z :: _) (show (fun j => nI (bf j)) i = nI (bf i) from rfl)) ?_
        refine k_callVI (n := 1) (q := 55) (pre := (wXo b cy (a 0) r nx sn ln sv kp ik bf)) (post := (wSky a cy n1 lit1 h1 t1 s1 g1 kn1 lo1 lf1 nm1 ++ R)) (w2 := ((wXo b cy (a 0) r nx sn ln sv kp ik bf ++ wRd r (rTakes (bf i) (kd1, hg1, nu1, dg1, ng1, tk1)).2.1 (rTakes (bf i) (kd1, hg1, nu1, dg1, ng1, tk1)).2.2.1 (rTakes (bf i) (kd1, hg1, nu1, dg1, ng1, tk1)).2.2.2.1 (rTakes (bf i) (kd1, hg1, nu1, dg1, ng1, tk1)).2.2.2.2.1 (rTakes (bf i) (kd1, hg1, nu1, dg1, ng1, tk1)).2.2.2.2.2.1 (rTakes (bf i) (kd1, hg1, nu1, dg1, ng1, tk1)).2.2.2.2.2.2) ++ (wSky a cy n1 lit1 h1 t1 s1 g1 kn1 lo1 lf1 nm1 ++ R))) (As := [.int (nI (bf i))]) (rest := []) C (c_X1_takes cy r kd1 hg1 nu1 dg1 ng1 tk1 (bf i) (Nat.lt_of_lt_of_le hro.1 (by decide)) (Nat.lt_of_le_of_lt hro.2.1 (by decide)) (Nat.lt_of_le_of_lt hro.2.2.1 (by omega)) (Nat.lt_of_le_of_lt (hb i) (by decide))) gX3_executeOrders_X1_takes rfl rfl rfl (by decide +kernel) (k_room hR (by decide)) ⟨Nat.zero_le _, Nat.zero_le _⟩ (ci := 1) rfl 0 rfl rfl rfl (Nat.le_of_ble_eq_true rfl) (rfl) (rfl) dX3_executeOrders_52 rfl ?_
        refine k_pop (q := 56) C dX3_executeOrders_55 rfl rfl ?_
        refine k_iinc (q := 59) (v := nI (i + 1)) (fr2 := [(2, .int (nI (i + 1))), (0, .ref (b 0)), (1, .int (nI d))]) C 2 dX3_executeOrders_56 rfl (nI_add i 1) (by decide) rfl rfl ?_
        refine k_goto (q := 11) C dX3_executeOrders_59 (by decide) ?_
        refine k_fr (fr2 := [(0, .ref (b 0)), (1, .int (nI d)), (2, .int (nI (i + 1)))]) ⟨[1, 2, 0], rfl⟩ ?_
        exact ih (i + 1) d (rTakes (bf i) (kd1, hg1, nu1, dg1, ng1, tk1)).2.1 (rTakes (bf i) (kd1, hg1, nu1, dg1, ng1, tk1)).2.2.1 (rTakes (bf i) (kd1, hg1, nu1, dg1, ng1, tk1)).2.2.2.1 (rTakes (bf i) (kd1, hg1, nu1, dg1, ng1, tk1)).2.2.2.2.1 (rTakes (bf i) (kd1, hg1, nu1, dg1, ng1, tk1)).2.2.2.2.2.1 (rTakes (bf i) (kd1, hg1, nu1, dg1, ng1, tk1)).2.2.2.2.2.2 n1 lit1 h1 t1 s1 g1 kn1 lo1 lf1 nm1 (by omega) (by omega) (rTakes_ok hro (by omega)) hq (fun f hf => by have q := hR3 f (by omega); rw [xRun, if_pos c_16, if_neg c_27] at q; exact q)
      · intro c_27
        refine k_aload_n (q := 31) C 0 dX3_executeOrders_30 rfl rfl ?_
        refine k_callVI (n := 0) (q := 34) (pre := ([] : va_W)) (post := ([] : va_W)) (w2 := ((wXo b cy (a 0) r nx sn ln sv kp ik bf ++ wRd r kd1 hg1 nu1 dg1 ng1 tk1) ++ (wSky a cy (qN (xStep ((kd1, hg1, nu1, dg1, ng1, tk1) : RT) ((n1, lit1, h1, t1, s1, g1, kn1, lo1, lf1, nm1) : CK)).2) (qLit (xStep ((kd1, hg1, nu1, dg1, ng1, tk1) : RT) ((n1, lit1, h1, t1, s1, g1, kn1, lo1, lf1, nm1) : CK)).2) (qH (xStep ((kd1, hg1, nu1, dg1, ng1, tk1) : RT) ((n1, lit1, h1, t1, s1, g1, kn1, lo1, lf1, nm1) : CK)).2) (qT (xStep ((kd1, hg1, nu1, dg1, ng1, tk1) : RT) ((n1, lit1, h1, t1, s1, g1, kn1, lo1, lf1, nm1) : CK)).2) (qS (xStep ((kd1, hg1, nu1, dg1, ng1, tk1) : RT) ((n1, lit1, h1, t1, s1, g1, kn1, lo1, lf1, nm1) : CK)).2) (qG (xStep ((kd1, hg1, nu1, dg1, ng1, tk1) : RT) ((n1, lit1, h1, t1, s1, g1, kn1, lo1, lf1, nm1) : CK)).2) (qK (xStep ((kd1, hg1, nu1, dg1, ng1, tk1) : RT) ((n1, lit1, h1, t1, s1, g1, kn1, lo1, lf1, nm1) : CK)).2) (qLo (xStep ((kd1, hg1, nu1, dg1, ng1, tk1) : RT) ((n1, lit1, h1, t1, s1, g1, kn1, lo1, lf1, nm1) : CK)).2) (qLf (xStep ((kd1, hg1, nu1, dg1, ng1, tk1) : RT) ((n1, lit1, h1, t1, s1, g1, kn1, lo1, lf1, nm1) : CK)).2) (qNm (xStep ((kd1, hg1, nu1, dg1, ng1, tk1) : RT) ((n1, lit1, h1, t1, s1, g1, kn1, lo1, lf1, nm1) : CK)).2) ++ R))) (As := []) (rest := []) C (c_X3_executeOrder cy a b r nx sn ln sv kp ik bf kd1 hg1 nu1 dg1 ng1 tk1 n1 lit1 h1 t1 s1 g1 kn1 lo1 lf1 nm1 R (Nat.lt_of_lt_of_le hro.1 (by decide)) hq.1 hq.2 (Nat.lt_of_le_of_lt hro.2.1 (by decide)) (Nat.lt_of_le_of_lt hro.2.2.2 (by decide))) gX3_executeOrders_X3_executeOrder rfl rfl rfl (by decide +kernel) (k_room hR (by decide)) ⟨Nat.zero_le _, Nat.zero_le _⟩ (ci := 3) rfl 0 rfl rfl rfl (Nat.le_of_ble_eq_true rfl) ((List.append_nil _).symm) (List.append_nil _) dX3_executeOrders_31 rfl ?_
        refine k_ifB_ne (tgt := 39) (q := 37) C dX3_executeOrders_34 (by decide) rfl ?_ ?_
        · intro c_34
          refine k_iinc (q := 42) (v := nI (d + 1)) (fr2 := [(1, .int (nI (d + 1))), (0, .ref (b 0)), (2, .int (nI i))]) C 1 dX3_executeOrders_39 rfl (nI_add d 1) (by decide) rfl rfl ?_
          refine k_aload_n (q := 43) C 1 dX3_executeOrders_42 rfl rfl ?_
          refine k_get (q := 46) (ci := 3) (v := .ref r) C 0 8 in3_X3_executeOrders rfl (List.mem_of_getElem? (i := 1) rfl) rfl rfl (by decide) rfl dX3_executeOrders_43 rfl ?_
          refine k_aload_n (q := 47) C 1 dX3_executeOrders_46 rfl rfl ?_
          refine k_get (q := 50) (ci := 3) (v := .ref (b 4)) C 0 6 in3_X3_executeOrders rfl (List.mem_of_getElem? (i := 3) rfl) rfl rfl (by decide) rfl dX3_executeOrders_47 rfl ?_
          refine k_iload_n (q := 51) C 2 dX3_executeOrders_50 rfl rfl ?_
          refine k_cald (q := 52) C 4 rfl (vp_in_nI (n := i) (by omega) (by decide)) dX3_executeOrders_51 rfl ?_
          refine k_st (st2 := (.int ((fun j => nI (bf j)) i) :: _)) (congrArg (fun z => Value.int z :: _) (show (fun j => nI (bf j)) (nI i).toNatClampNeg = (fun j => nI (bf j)) i from congrArg (fun j => nI (bf j)) (nI_clamp (n := i) (by omega)))) ?_
          refine k_st (st2 := (.int (nI (bf i)) :: _)) (congrArg (fun z => Value.int z :: _) (show (fun j => nI (bf j)) i = nI (bf i) from rfl)) ?_
          refine k_callVI (n := 1) (q := 55) (pre := (wXo b cy (a 0) r nx sn ln sv kp ik bf)) (post := (wSky a cy (qN (xStep ((kd1, hg1, nu1, dg1, ng1, tk1) : RT) ((n1, lit1, h1, t1, s1, g1, kn1, lo1, lf1, nm1) : CK)).2) (qLit (xStep ((kd1, hg1, nu1, dg1, ng1, tk1) : RT) ((n1, lit1, h1, t1, s1, g1, kn1, lo1, lf1, nm1) : CK)).2) (qH (xStep ((kd1, hg1, nu1, dg1, ng1, tk1) : RT) ((n1, lit1, h1, t1, s1, g1, kn1, lo1, lf1, nm1) : CK)).2) (qT (xStep ((kd1, hg1, nu1, dg1, ng1, tk1) : RT) ((n1, lit1, h1, t1, s1, g1, kn1, lo1, lf1, nm1) : CK)).2) (qS (xStep ((kd1, hg1, nu1, dg1, ng1, tk1) : RT) ((n1, lit1, h1, t1, s1, g1, kn1, lo1, lf1, nm1) : CK)).2) (qG (xStep ((kd1, hg1, nu1, dg1, ng1, tk1) : RT) ((n1, lit1, h1, t1, s1, g1, kn1, lo1, lf1, nm1) : CK)).2) (qK (xStep ((kd1, hg1, nu1, dg1, ng1, tk1) : RT) ((n1, lit1, h1, t1, s1, g1, kn1, lo1, lf1, nm1) : CK)).2) (qLo (xStep ((kd1, hg1, nu1, dg1, ng1, tk1) : RT) ((n1, lit1, h1, t1, s1, g1, kn1, lo1, lf1, nm1) : CK)).2) (qLf (xStep ((kd1, hg1, nu1, dg1, ng1, tk1) : RT) ((n1, lit1, h1, t1, s1, g1, kn1, lo1, lf1, nm1) : CK)).2) (qNm (xStep ((kd1, hg1, nu1, dg1, ng1, tk1) : RT) ((n1, lit1, h1, t1, s1, g1, kn1, lo1, lf1, nm1) : CK)).2) ++ R)) (w2 := ((wXo b cy (a 0) r nx sn ln sv kp ik bf ++ wRd r (rTakes (bf i) (kd1, hg1, nu1, dg1, ng1, tk1)).2.1 (rTakes (bf i) (kd1, hg1, nu1, dg1, ng1, tk1)).2.2.1 (rTakes (bf i) (kd1, hg1, nu1, dg1, ng1, tk1)).2.2.2.1 (rTakes (bf i) (kd1, hg1, nu1, dg1, ng1, tk1)).2.2.2.2.1 (rTakes (bf i) (kd1, hg1, nu1, dg1, ng1, tk1)).2.2.2.2.2.1 (rTakes (bf i) (kd1, hg1, nu1, dg1, ng1, tk1)).2.2.2.2.2.2) ++ (wSky a cy (qN (xStep ((kd1, hg1, nu1, dg1, ng1, tk1) : RT) ((n1, lit1, h1, t1, s1, g1, kn1, lo1, lf1, nm1) : CK)).2) (qLit (xStep ((kd1, hg1, nu1, dg1, ng1, tk1) : RT) ((n1, lit1, h1, t1, s1, g1, kn1, lo1, lf1, nm1) : CK)).2) (qH (xStep ((kd1, hg1, nu1, dg1, ng1, tk1) : RT) ((n1, lit1, h1, t1, s1, g1, kn1, lo1, lf1, nm1) : CK)).2) (qT (xStep ((kd1, hg1, nu1, dg1, ng1, tk1) : RT) ((n1, lit1, h1, t1, s1, g1, kn1, lo1, lf1, nm1) : CK)).2) (qS (xStep ((kd1, hg1, nu1, dg1, ng1, tk1) : RT) ((n1, lit1, h1, t1, s1, g1, kn1, lo1, lf1, nm1) : CK)).2) (qG (xStep ((kd1, hg1, nu1, dg1, ng1, tk1) : RT) ((n1, lit1, h1, t1, s1, g1, kn1, lo1, lf1, nm1) : CK)).2) (qK (xStep ((kd1, hg1, nu1, dg1, ng1, tk1) : RT) ((n1, lit1, h1, t1, s1, g1, kn1, lo1, lf1, nm1) : CK)).2) (qLo (xStep ((kd1, hg1, nu1, dg1, ng1, tk1) : RT) ((n1, lit1, h1, t1, s1, g1, kn1, lo1, lf1, nm1) : CK)).2) (qLf (xStep ((kd1, hg1, nu1, dg1, ng1, tk1) : RT) ((n1, lit1, h1, t1, s1, g1, kn1, lo1, lf1, nm1) : CK)).2) (qNm (xStep ((kd1, hg1, nu1, dg1, ng1, tk1) : RT) ((n1, lit1, h1, t1, s1, g1, kn1, lo1, lf1, nm1) : CK)).2) ++ R))) (As := [.int (nI (bf i))]) (rest := []) C (c_X1_takes cy r kd1 hg1 nu1 dg1 ng1 tk1 (bf i) (Nat.lt_of_lt_of_le hro.1 (by decide)) (Nat.lt_of_le_of_lt hro.2.1 (by decide)) (Nat.lt_of_le_of_lt hro.2.2.1 (by omega)) (Nat.lt_of_le_of_lt (hb i) (by decide))) gX3_executeOrders_X1_takes rfl rfl rfl (by decide +kernel) (k_room hR (by decide)) ⟨Nat.zero_le _, Nat.zero_le _⟩ (ci := 1) rfl 0 rfl rfl rfl (Nat.le_of_ble_eq_true rfl) (rfl) (rfl) dX3_executeOrders_52 rfl ?_
          refine k_pop (q := 56) C dX3_executeOrders_55 rfl rfl ?_
          refine k_iinc (q := 59) (v := nI (i + 1)) (fr2 := [(2, .int (nI (i + 1))), (1, .int (nI (d + 1))), (0, .ref (b 0))]) C 2 dX3_executeOrders_56 rfl (nI_add i 1) (by decide) rfl rfl ?_
          refine k_goto (q := 11) C dX3_executeOrders_59 (by decide) ?_
          refine k_fr (fr2 := [(0, .ref (b 0)), (1, .int (nI (d + 1))), (2, .int (nI (i + 1)))]) ⟨[2, 1, 0], rfl⟩ ?_
          exact ih (i + 1) (d + 1) (rTakes (bf i) (kd1, hg1, nu1, dg1, ng1, tk1)).2.1 (rTakes (bf i) (kd1, hg1, nu1, dg1, ng1, tk1)).2.2.1 (rTakes (bf i) (kd1, hg1, nu1, dg1, ng1, tk1)).2.2.2.1 (rTakes (bf i) (kd1, hg1, nu1, dg1, ng1, tk1)).2.2.2.2.1 (rTakes (bf i) (kd1, hg1, nu1, dg1, ng1, tk1)).2.2.2.2.2.1 (rTakes (bf i) (kd1, hg1, nu1, dg1, ng1, tk1)).2.2.2.2.2.2 (qN (xStep ((kd1, hg1, nu1, dg1, ng1, tk1) : RT) ((n1, lit1, h1, t1, s1, g1, kn1, lo1, lf1, nm1) : CK)).2) (qLit (xStep ((kd1, hg1, nu1, dg1, ng1, tk1) : RT) ((n1, lit1, h1, t1, s1, g1, kn1, lo1, lf1, nm1) : CK)).2) (qH (xStep ((kd1, hg1, nu1, dg1, ng1, tk1) : RT) ((n1, lit1, h1, t1, s1, g1, kn1, lo1, lf1, nm1) : CK)).2) (qT (xStep ((kd1, hg1, nu1, dg1, ng1, tk1) : RT) ((n1, lit1, h1, t1, s1, g1, kn1, lo1, lf1, nm1) : CK)).2) (qS (xStep ((kd1, hg1, nu1, dg1, ng1, tk1) : RT) ((n1, lit1, h1, t1, s1, g1, kn1, lo1, lf1, nm1) : CK)).2) (qG (xStep ((kd1, hg1, nu1, dg1, ng1, tk1) : RT) ((n1, lit1, h1, t1, s1, g1, kn1, lo1, lf1, nm1) : CK)).2) (qK (xStep ((kd1, hg1, nu1, dg1, ng1, tk1) : RT) ((n1, lit1, h1, t1, s1, g1, kn1, lo1, lf1, nm1) : CK)).2) (qLo (xStep ((kd1, hg1, nu1, dg1, ng1, tk1) : RT) ((n1, lit1, h1, t1, s1, g1, kn1, lo1, lf1, nm1) : CK)).2) (qLf (xStep ((kd1, hg1, nu1, dg1, ng1, tk1) : RT) ((n1, lit1, h1, t1, s1, g1, kn1, lo1, lf1, nm1) : CK)).2) (qNm (xStep ((kd1, hg1, nu1, dg1, ng1, tk1) : RT) ((n1, lit1, h1, t1, s1, g1, kn1, lo1, lf1, nm1) : CK)).2) (by omega) (by omega) (rTakes_ok hro (by omega)) (xStep_inv hq) (fun f hf => by have q := hR3 f (by omega); rw [xRun, if_pos c_16, if_pos c_27, if_pos c_34] at q; exact q)
        · intro c_34
          refine k_iload_n (q := 38) C 1 dX3_executeOrders_37 rfl rfl ?_
          rw [if_pos c_16, if_pos c_27, if_neg c_34] at hR2
          exact k_fin E dX3_executeOrders_38 (by rw [← hR2]) (by rw [← hR2])
set_option maxHeartbeats 4000000 in
set_option maxRecDepth 100000 in
theorem c_X3_executeOrders (cy : Nat → ClassId) (a : Nat → Nat) (b : Nat → Nat) (r : Nat) (nx : Nat) (sn : Nat) (ln : Nat) (sv : Nat → Option Nat) (kp : Nat → Option Nat) (ik : Nat → Int32) (bf : Nat → Nat) (kd : Nat) (hg : Nat) (nu : Nat) (dg : Nat) (ng : Bool) (tk : Bool) (n : Nat) (lit : Int32) (h : Nat → Int32) (t : Nat → Int32) (s : Nat → Int32) (g : Nat → Int32) (kn : Nat) (lo : Int32) (lf : Int32) (nm : Nat → Int32) (R : va_W)  (hb : ∀ i, bf i ≤ 126) (hln : ln ≤ 60) (hn : n ≤ 6) (hk : kn ≤ 8) : kI yX3_executeOrders wsX3_executeOrders rm_X3_executeOrders cy [.ref (b 0)] ((wXo b cy (a 0) r nx sn ln sv kp ik bf ++ wRd r kd hg nu dg ng tk) ++ (wSky a cy n lit h t s g kn lo lf nm ++ R)) (nI (xRun bf ln (ln + 1) 0 0 ((0, 0, 0, 0, false, false) : RT) ((n, lit, h, t, s, g, kn, lo, lf, nm) : CK)).1) ((wXo b cy (a 0) r nx sn ln sv kp ik bf ++ wRd r (xRun bf ln (ln + 1) 0 0 ((0, 0, 0, 0, false, false) : RT) ((n, lit, h, t, s, g, kn, lo, lf, nm) : CK)).2.1.1 (xRun bf ln (ln + 1) 0 0 ((0, 0, 0, 0, false, false) : RT) ((n, lit, h, t, s, g, kn, lo, lf, nm) : CK)).2.1.2.1 (xRun bf ln (ln + 1) 0 0 ((0, 0, 0, 0, false, false) : RT) ((n, lit, h, t, s, g, kn, lo, lf, nm) : CK)).2.1.2.2.1 (xRun bf ln (ln + 1) 0 0 ((0, 0, 0, 0, false, false) : RT) ((n, lit, h, t, s, g, kn, lo, lf, nm) : CK)).2.1.2.2.2.1 (xRun bf ln (ln + 1) 0 0 ((0, 0, 0, 0, false, false) : RT) ((n, lit, h, t, s, g, kn, lo, lf, nm) : CK)).2.1.2.2.2.2.1 (xRun bf ln (ln + 1) 0 0 ((0, 0, 0, 0, false, false) : RT) ((n, lit, h, t, s, g, kn, lo, lf, nm) : CK)).2.1.2.2.2.2.2) ++ (wSky a cy (qN (xRun bf ln (ln + 1) 0 0 ((0, 0, 0, 0, false, false) : RT) ((n, lit, h, t, s, g, kn, lo, lf, nm) : CK)).2.2) (qLit (xRun bf ln (ln + 1) 0 0 ((0, 0, 0, 0, false, false) : RT) ((n, lit, h, t, s, g, kn, lo, lf, nm) : CK)).2.2) (qH (xRun bf ln (ln + 1) 0 0 ((0, 0, 0, 0, false, false) : RT) ((n, lit, h, t, s, g, kn, lo, lf, nm) : CK)).2.2) (qT (xRun bf ln (ln + 1) 0 0 ((0, 0, 0, 0, false, false) : RT) ((n, lit, h, t, s, g, kn, lo, lf, nm) : CK)).2.2) (qS (xRun bf ln (ln + 1) 0 0 ((0, 0, 0, 0, false, false) : RT) ((n, lit, h, t, s, g, kn, lo, lf, nm) : CK)).2.2) (qG (xRun bf ln (ln + 1) 0 0 ((0, 0, 0, 0, false, false) : RT) ((n, lit, h, t, s, g, kn, lo, lf, nm) : CK)).2.2) (qK (xRun bf ln (ln + 1) 0 0 ((0, 0, 0, 0, false, false) : RT) ((n, lit, h, t, s, g, kn, lo, lf, nm) : CK)).2.2) (qLo (xRun bf ln (ln + 1) 0 0 ((0, 0, 0, 0, false, false) : RT) ((n, lit, h, t, s, g, kn, lo, lf, nm) : CK)).2.2) (qLf (xRun bf ln (ln + 1) 0 0 ((0, 0, 0, 0, false, false) : RT) ((n, lit, h, t, s, g, kn, lo, lf, nm) : CK)).2.2) (qNm (xRun bf ln (ln + 1) 0 0 ((0, 0, 0, 0, false, false) : RT) ((n, lit, h, t, s, g, kn, lo, lf, nm) : CK)).2.2) ++ R)) := by
  refine kI_of (cc := cX3_executeOrders) (maxL := 3) (rt := .int) (by decide) rfl (rfl) (Nat.le_of_ble_eq_true rfl) ?_
  intro X hR C E
  have C : kC X 3 RX3 cX3_executeOrders wsX3_executeOrders cy := C
  refine k_fr (fr2 := [(0, .ref (b 0))]) ⟨[0], rfl⟩ ?_
  refine k_iconst (q := 1) (v := 0) C dX3_executeOrders_0 (by decide) rfl ?_
  refine k_istore_n (q := 2) (fr2 := [(1, .int 0), (0, .ref (b 0))]) C dX3_executeOrders_1 (by decide) rfl rfl ?_
  refine k_aload_n (q := 3) C 1 dX3_executeOrders_2 rfl rfl ?_
  refine k_get (q := 6) (ci := 3) (v := .ref r) C 0 8 in3_X3_executeOrders rfl (List.mem_of_getElem? (i := 1) rfl) rfl rfl (by decide) rfl dX3_executeOrders_3 rfl ?_
  refine k_callVV (n := 0) (q := 9) (pre := (wXo b cy (a 0) r nx sn ln sv kp ik bf)) (post := (wSky a cy n lit h t s g kn lo lf nm ++ R)) (w2 := ((wXo b cy (a 0) r nx sn ln sv kp ik bf ++ wRd r 0 0 0 0 false false) ++ (wSky a cy n lit h t s g kn lo lf nm ++ R))) (As := []) (rest := []) C (c_X1_startOrder cy r kd hg nu dg ng tk) gX3_executeOrders_X1_startOrder rfl rfl rfl (by decide +kernel) (k_room hR (by decide)) ⟨Nat.zero_le _, Nat.zero_le _⟩ (ci := 1) rfl 0 rfl rfl rfl (Nat.le_of_ble_eq_true rfl) (rfl) (rfl) dX3_executeOrders_6 rfl ?_
  refine k_iconst (q := 10) (v := 0) C dX3_executeOrders_9 (by decide) rfl ?_
  refine k_istore_n (q := 11) (fr2 := [(2, .int 0), (1, .int 0), (0, .ref (b 0))]) C dX3_executeOrders_10 (by decide) rfl rfl ?_
  refine k_fr (fr2 := [(0, .ref (b 0)), (1, .int 0), (2, .int 0)]) ⟨[2, 1, 0], rfl⟩ ?_
  exact lp_X3_executeOrders_11 cy a b r nx sn ln sv kp ik bf kd hg nu dg ng tk n lit h t s g kn lo lf nm R hb hln hn hk X hR C E _ 0 0 0 0 0 0 false false n lit h t s g kn lo lf nm (Nat.lt_succ_self _) (Nat.zero_le _) ⟨by decide, Nat.zero_le _, Nat.zero_le _, Nat.zero_le _⟩ ⟨hn, hk⟩ (fun f hf => xRun_fuel f (ln + 1) 0 0 _ _ hf (by omega))
abbrev rm_X3_clearEnough : Room := { frames := 3, cells := 0, slots := 0, locals := 71 }
theorem in2_X3_clearEnough : ∀ w ∈ wsX20, w ∈ wsX3_clearEnough := fun _ h => (List.mem_cons_of_mem _ (List.mem_append_right _ h))
theorem in3_X3_clearEnough : ∀ w ∈ wsX30, w ∈ wsX3_clearEnough := fun _ h => (List.mem_cons_of_mem _ (List.mem_append_left _ (List.mem_append_right _ h)))
set_option maxHeartbeats 4000000 in
set_option maxRecDepth 100000 in
theorem lp_X3_clearEnough_13 (cy : Nat → ClassId) (a : Nat → Nat) (b : Nat → Nat) (r : Nat) (nx : Nat) (sn : Nat) (ln : Nat) (sv : Nat → Option Nat) (kp : Nat → Option Nat) (ik : Nat → Int32) (bf : Nat → Nat) (kd : Nat) (hg : Nat) (nu : Nat) (dg : Nat) (ng : Bool) (tk : Bool) (n : Nat) (lit : Int32) (h : Nat → Int32) (t : Nat → Int32) (s : Nat → Int32) (g : Nat → Int32) (kn : Nat) (lo : Int32) (lf : Int32) (nm : Nat → Int32) (R : va_W)  (hn : n ≤ 6) (X : kX) (hR : xR X = rm_X3_clearEnough) (C : kC X 3 RX3 cX3_clearEnough wsX3_clearEnough cy) (E : kEnd X 3 cX3_clearEnough (nI (mHz (fun k => sBits (nI (sMask h t g (nI k) n)) * sBits lit) (sBits (nI (sMask h t g 0 n)) * sBits lit) 1000)) ((wXo b cy (a 0) r nx sn ln sv kp ik bf ++ wRd r kd hg nu dg ng tk) ++ (wSky a cy n lit h t s g kn lo lf nm ++ R))) : ∀ (fu : Nat) (k : Nat), k < fu → (k ≤ 1000) → (mHz (fun k => sBits (nI (sMask h t g (nI k) n)) * sBits lit) (sBits (nI (sMask h t g 0 n)) * sBits lit) k = mHz (fun k => sBits (nI (sMask h t g (nI k) n)) * sBits lit) (sBits (nI (sMask h t g 0 n)) * sBits lit) 1000) → kG X 3 0 0 ((wXo b cy (a 0) r nx sn ln sv kp ik bf ++ wRd r kd hg nu dg ng tk) ++ (wSky a cy n lit h t s g kn lo lf nm ++ R)) 13 [(0, .ref (b 0)), (1, .int (sBits (nI (sMask h t g 0 n)) * sBits lit)), (2, .int (nI k))] [] := by
  intro fu
  induction fu with
  | zero => intro k hfu; exact absurd hfu (Nat.not_lt_zero _)
  | succ fu ih =>
    intro k hfu hk hh
    refine k_iload_n (q := 14) C 2 dX3_clearEnough_13 rfl rfl ?_
    refine k_nif_le (a := k)  (tgt := 37) (q := 17) C dX3_clearEnough_14 (by decide) rfl (by omega) ?_ ?_
    · intro c_14
      refine k_iconst (q := 38) (v := 0) C dX3_clearEnough_37 (by decide) rfl ?_
      have hk0 : k = 0 := by omega
      exact k_fin E dX3_clearEnough_38 (by rw [← hh, hk0]; rfl) (rfl)
    · intro c_14
      refine k_aload_n (q := 18) C 0 dX3_clearEnough_17 rfl rfl ?_
      refine k_get (q := 21) (ci := 3) (v := .ref (a 0)) C 0 0 in3_X3_clearEnough rfl (List.mem_of_getElem? (i := 1) rfl) rfl rfl (by decide) rfl dX3_clearEnough_18 rfl ?_
      refine k_iload_n (q := 22) C 2 dX3_clearEnough_21 rfl rfl ?_
      refine k_callVI (n := 1) (q := 25) (pre := (wXo b cy (a 0) r nx sn ln sv kp ik bf ++ wRd r kd hg nu dg ng tk)) (post := R) (w2 := ((wXo b cy (a 0) r nx sn ln sv kp ik bf ++ wRd r kd hg nu dg ng tk) ++ (wSky a cy n lit h t s g kn lo lf nm ++ R))) (As := [.int (nI k)]) (rest := []) C (c_X2_seenSpots cy a n lit h t s g kn lo lf nm (nI k) hn) gX3_clearEnough_X2_seenSpots rfl rfl rfl (by decide +kernel) (k_room hR (by decide)) ⟨Nat.zero_le _, Nat.zero_le _⟩ (ci := 2) rfl 0 rfl rfl rfl (Nat.le_of_ble_eq_true rfl) (rfl) (rfl) dX3_clearEnough_22 rfl ?_
      refine k_iload_n (q := 26) C 1 dX3_clearEnough_25 rfl rfl ?_
      refine k_icmp_ne (tgt := 31) (q := 29) C dX3_clearEnough_26 (by decide) rfl ?_ ?_
      · intro c_26
        refine k_iinc (q := 34) (v := nI (k - 1)) (fr2 := [(2, .int (nI (k - 1))), (0, .ref (b 0)), (1, .int (sBits (nI (sMask h t g 0 n)) * sBits lit))]) C 2 dX3_clearEnough_31 rfl ((by rw [show (Int32.ofInt (-1)) = -1 from by decide +kernel, ← Int32.sub_eq_add_neg]; exact pk_sub (a := k) (b := 1) (by omega))) (by decide) rfl rfl ?_
        refine k_goto (q := 13) C dX3_clearEnough_34 (by decide) ?_
        refine k_fr (fr2 := [(0, .ref (b 0)), (1, .int (sBits (nI (sMask h t g 0 n)) * sBits lit)), (2, .int (nI (k - 1)))]) ⟨[1, 2, 0], rfl⟩ ?_
        exact ih (k - 1) (by omega) (by omega) (by rw [← hh]; exact (mHz_n (f := (fun k => sBits (nI (sMask h t g (nI k) n)) * sBits lit)) (by omega) c_26).symm)
      · intro c_26
        refine k_iload_n (q := 30) C 2 dX3_clearEnough_29 rfl rfl ?_
        exact k_fin E dX3_clearEnough_30 (by rw [← hh]; exact congrArg nI (mHz_y (f := (fun k => sBits (nI (sMask h t g (nI k) n)) * sBits lit)) c_26).symm) (rfl)
set_option maxHeartbeats 4000000 in
set_option maxRecDepth 100000 in
theorem c_X3_clearEnough (cy : Nat → ClassId) (a : Nat → Nat) (b : Nat → Nat) (r : Nat) (nx : Nat) (sn : Nat) (ln : Nat) (sv : Nat → Option Nat) (kp : Nat → Option Nat) (ik : Nat → Int32) (bf : Nat → Nat) (kd : Nat) (hg : Nat) (nu : Nat) (dg : Nat) (ng : Bool) (tk : Bool) (n : Nat) (lit : Int32) (h : Nat → Int32) (t : Nat → Int32) (s : Nat → Int32) (g : Nat → Int32) (kn : Nat) (lo : Int32) (lf : Int32) (nm : Nat → Int32) (R : va_W)  (hn : n ≤ 6) : kI yX3_clearEnough wsX3_clearEnough rm_X3_clearEnough cy [.ref (b 0)] ((wXo b cy (a 0) r nx sn ln sv kp ik bf ++ wRd r kd hg nu dg ng tk) ++ (wSky a cy n lit h t s g kn lo lf nm ++ R)) (nI (mHz (fun k => sBits (nI (sMask h t g (nI k) n)) * sBits lit) (sBits (nI (sMask h t g 0 n)) * sBits lit) 1000)) ((wXo b cy (a 0) r nx sn ln sv kp ik bf ++ wRd r kd hg nu dg ng tk) ++ (wSky a cy n lit h t s g kn lo lf nm ++ R)) := by
  refine kI_of (cc := cX3_clearEnough) (maxL := 3) (rt := .int) (by decide) rfl (rfl) (Nat.le_of_ble_eq_true rfl) ?_
  intro X hR C E
  have C : kC X 3 RX3 cX3_clearEnough wsX3_clearEnough cy := C
  refine k_fr (fr2 := [(0, .ref (b 0))]) ⟨[0], rfl⟩ ?_
  refine k_aload_n (q := 1) C 0 dX3_clearEnough_0 rfl rfl ?_
  refine k_get (q := 4) (ci := 3) (v := .ref (a 0)) C 0 0 in3_X3_clearEnough rfl (List.mem_of_getElem? (i := 1) rfl) rfl rfl (by decide) rfl dX3_clearEnough_1 rfl ?_
  refine k_iconst (q := 5) (v := 0) C dX3_clearEnough_4 (by decide) rfl ?_
  refine k_callVI (n := 1) (q := 8) (pre := (wXo b cy (a 0) r nx sn ln sv kp ik bf ++ wRd r kd hg nu dg ng tk)) (post := R) (w2 := ((wXo b cy (a 0) r nx sn ln sv kp ik bf ++ wRd r kd hg nu dg ng tk) ++ (wSky a cy n lit h t s g kn lo lf nm ++ R))) (As := [.int 0]) (rest := []) C (c_X2_seenSpots cy a n lit h t s g kn lo lf nm 0 hn) gX3_clearEnough_X2_seenSpots rfl rfl rfl (by decide +kernel) (k_room hR (by decide)) ⟨Nat.zero_le _, Nat.zero_le _⟩ (ci := 2) rfl 0 rfl rfl rfl (Nat.le_of_ble_eq_true rfl) (rfl) (rfl) dX3_clearEnough_5 rfl ?_
  refine k_istore_n (q := 9) (fr2 := [(1, .int (sBits (nI (sMask h t g 0 n)) * sBits lit)), (0, .ref (b 0))]) C dX3_clearEnough_8 (by decide) rfl rfl ?_
  refine k_sipush (q := 12) (v := 1000) C dX3_clearEnough_9 (by decide +kernel) rfl ?_
  refine k_istore_n (q := 13) (fr2 := [(2, .int 1000), (1, .int (sBits (nI (sMask h t g 0 n)) * sBits lit)), (0, .ref (b 0))]) C dX3_clearEnough_12 (by decide) rfl rfl ?_
  refine k_fr (fr2 := [(0, .ref (b 0)), (1, .int (sBits (nI (sMask h t g 0 n)) * sBits lit)), (2, .int 1000)]) ⟨[2, 1, 0], rfl⟩ ?_
  exact lp_X3_clearEnough_13 cy a b r nx sn ln sv kp ik bf kd hg nu dg ng tk n lit h t s g kn lo lf nm R hn X hR C E _ 1000 (Nat.lt_succ_self _) (by omega) (by omega)
abbrev rm_X3_log : Room := { frames := 5, cells := 0, slots := 0, locals := 115 }
theorem in0_X3_log : ∀ w ∈ wsX00, w ∈ wsX3_log := fun _ h => (List.mem_cons_of_mem _ (List.mem_append_right _ h))
theorem in2_X3_log : ∀ w ∈ wsX20, w ∈ wsX3_log := fun _ h => (List.mem_cons_of_mem _ (List.mem_append_left _ (List.mem_append_right _ h)))
theorem in3_X3_log : ∀ w ∈ wsX30, w ∈ wsX3_log := fun _ h => (List.mem_cons_of_mem _ (List.mem_append_left _ (List.mem_append_left _ (List.mem_append_right _ h))))
set_option maxHeartbeats 4000000 in
set_option maxRecDepth 100000 in
theorem c_X3_log (cy : Nat → ClassId) (a : Nat → Nat) (b : Nat → Nat) (r : Nat) (nx : Nat) (sn : Nat) (ln : Nat) (sk : Nat → Nat → Nat) (S : Nat → CK) (ik : Nat → Int32) (bf : Nat → Nat) (kd : Nat) (hg : Nat) (nu : Nat) (dg : Nat) (ng : Bool) (tk : Bool) (n : Nat) (lit : Int32) (h : Nat → Int32) (t : Nat → Int32) (s : Nat → Int32) (g : Nat → Int32) (kn : Nat) (lo : Int32) (lf : Int32) (nm : Nat → Int32)  (hnx : nx < 6) (hsn : sn ≤ 6) (hn : n ≤ 6) (hk : kn ≤ 8) : kI yX3_log wsX3_log rm_X3_log cy [.ref (b 0)] ((wXo b cy (a 0) r nx sn ln (svOf sk) (kpOf sk) ik bf ++ wRd r kd hg nu dg ng tk) ++ (wSky a cy n lit h t s g kn lo lf nm ++ wOth sk cy S)) (nI (min (kn + 1) 8)) ((wXo b cy (a 0) r ((nx + 1) % 6) (min (sn + 1) 6) ln (svOf sk) (kpOf sk) ik bf ++ wRd r kd hg nu dg ng tk) ++ (wSky a cy n lit h t s g (min (kn + 1) 8) (lo + 1) (lf + bI ((sLg lit h t s g n).2.2.2 = true)) (sWrL nm (sLg lit h t s g n)) ++ wOth sk cy (updS S nx (cLike (n, lit, h, t, s, g, kn, lo, lf, nm) (S nx))))) := by
  refine kI_of (cc := cX3_log) (maxL := 1) (rt := .int) (by decide) rfl (rfl) (Nat.le_of_ble_eq_true rfl) ?_
  intro X hR C E
  have C : kC X 1 RX3 cX3_log wsX3_log cy := C
  refine k_fr (fr2 := [(0, .ref (b 0))]) ⟨[0], rfl⟩ ?_
  refine k_aload_n (q := 1) C 0 dX3_log_0 rfl rfl ?_
  refine k_callVV (n := 0) (q := 4) (pre := ([] : va_W)) (post := ([] : va_W)) (w2 := ((wXo b cy (a 0) r ((nx + 1) % 6) (min (sn + 1) 6) ln (svOf sk) (kpOf sk) ik bf ++ wRd r kd hg nu dg ng tk) ++ (wSky a cy n lit h t s g kn lo lf nm ++ wOth sk cy (updS S nx (cLike (n, lit, h, t, s, g, kn, lo, lf, nm) (S nx)))))) (As := []) (rest := []) C (c_X3_saveState cy a b r nx sn ln sk S ik bf kd hg nu dg ng tk n lit h t s g kn lo lf nm hnx hsn) gX3_log_X3_saveState rfl rfl rfl (by decide +kernel) (k_room hR (by decide)) ⟨Nat.zero_le _, Nat.zero_le _⟩ (ci := 3) rfl 0 rfl rfl rfl (Nat.le_of_ble_eq_true rfl) ((List.append_nil _).symm) (List.append_nil _) dX3_log_1 rfl ?_
  refine k_aload_n (q := 5) C 0 dX3_log_4 rfl rfl ?_
  refine k_get (q := 8) (ci := 3) (v := .ref (a 0)) C 0 0 in3_X3_log rfl (List.mem_of_getElem? (i := 1) rfl) rfl rfl (by decide) rfl dX3_log_5 rfl ?_
  refine k_callVI (n := 0) (q := 11) (pre := (wXo b cy (a 0) r ((nx + 1) % 6) (min (sn + 1) 6) ln (svOf sk) (kpOf sk) ik bf ++ wRd r kd hg nu dg ng tk)) (post := (wOth sk cy (updS S nx (cLike (n, lit, h, t, s, g, kn, lo, lf, nm) (S nx))))) (w2 := ((wXo b cy (a 0) r ((nx + 1) % 6) (min (sn + 1) 6) ln (svOf sk) (kpOf sk) ik bf ++ wRd r kd hg nu dg ng tk) ++ (wSky a cy n lit h t s g (min (kn + 1) 8) (lo + 1) (lf + bI ((sLg lit h t s g n).2.2.2 = true)) (sWrL nm (sLg lit h t s g n)) ++ wOth sk cy (updS S nx (cLike (n, lit, h, t, s, g, kn, lo, lf, nm) (S nx)))))) (As := []) (rest := []) C (c_X2_logNight cy a n lit h t s g kn lo lf nm hn hk) gX3_log_X2_logNight rfl rfl rfl (by decide +kernel) (k_room hR (by decide)) ⟨Nat.zero_le _, Nat.zero_le _⟩ (ci := 2) rfl 0 rfl rfl rfl (Nat.le_of_ble_eq_true rfl) (rfl) (rfl) dX3_log_8 rfl ?_
  exact k_fin E dX3_log_11 (rfl) (rfl)
