abbrev rmE_X3_layer : Room := { frames := 6, cells := 1, slots := 6, locals := 115 }
set_option maxHeartbeats 4000000 in
set_option maxRecDepth 100000 in
theorem c_X3_layer_e (cy : Nat → ClassId) (a : Nat → Nat) (b : Nat → Nat) (r : Nat) (nx : Nat) (sn : Nat) (ln : Nat) (sv : Nat → Option Nat) (kp : Nat → Option Nat) (ik : Nat → Int32) (bf : Nat → Nat) (kd : Nat) (hg : Nat) (nu : Nat) (dg : Nat) (ng : Bool) (tk : Bool) (n : Nat) (lit : Int32) (h : Nat → Int32) (t : Nat → Int32) (s : Nat → Int32) (g : Nat → Int32) (kn : Nat) (lo : Int32) (lf : Int32) (nm : Nat → Int32) (R : va_W) (x : Int32) (y : Int32)  (hn : n ≤ 6) (hx : ¬ ((50 ≤ x ∧ x ≤ 3000) ∧ (1 ≤ y ∧ y ≤ 100))) : kE yX3_layer wsX3_layer rmE_X3_layer cy [.ref (b 0), .int x, .int y] ((wXo b cy (a 0) r nx sn ln sv kp ik bf ++ wRd r kd hg nu dg ng tk) ++ (wSky a cy n lit h t s g kn lo lf nm ++ R)) "java/lang/IllegalArgumentException" ((wXo b cy (a 0) r nx sn ln sv kp ik bf ++ wRd r kd hg nu dg ng tk) ++ (wSky a cy n lit h t s g kn lo lf nm ++ R)) := by
  refine kE_of (cc := cX3_layer) (maxL := 3) (rt := .int) rfl (by decide) rfl (Nat.le_of_ble_eq_true rfl) (by decide) ?_
  intro X hR C Z E
  have C : kC X 3 RX3 cX3_layer wsX3_layer cy := C
  refine k_fr (fr2 := [(0, .ref (b 0)), (1, .int x), (2, .int y)]) ⟨[0, 1, 2], rfl⟩ ?_
  refine k_iload_n (q := 1) C 1 dX3_layer_0 rfl rfl ?_
  refine k_bipush (q := 3) (v := 50) C dX3_layer_1 (by decide +kernel) rfl ?_
  refine k_icmp_lt (tgt := 20) (q := 6) C dX3_layer_3 (by decide) rfl ?_ ?_
  · intro c_3
    exact k_thr (text := _) E (rfl) zA (List.mem_of_getElem? (i := 1) rfl) (List.mem_of_getElem? (i := 2) rfl) (fun _ h => (List.mem_cons_of_mem _ (List.mem_append_left _ (List.mem_append_right _ h)))) (List.mem_of_getElem? (i := 0) rfl) dX3_layer_20 dX3_layer_23 dX3_layer_24 dX3_layer_26 dX3_layer_29
  · intro c_3
    refine k_iload_n (q := 7) C 1 dX3_layer_6 rfl rfl ?_
    refine k_sipush (q := 10) (v := 3000) C dX3_layer_7 (by decide +kernel) rfl ?_
    refine k_icmp_gt (tgt := 20) (q := 13) C dX3_layer_10 (by decide) rfl ?_ ?_
    · intro c_10
      exact k_thr (text := _) E (rfl) zA (List.mem_of_getElem? (i := 1) rfl) (List.mem_of_getElem? (i := 2) rfl) (fun _ h => (List.mem_cons_of_mem _ (List.mem_append_left _ (List.mem_append_right _ h)))) (List.mem_of_getElem? (i := 0) rfl) dX3_layer_20 dX3_layer_23 dX3_layer_24 dX3_layer_26 dX3_layer_29
    · intro c_10
      refine k_iload_n (q := 14) C 2 dX3_layer_13 rfl rfl ?_
      refine k_callSI (n := 1) (q := 17) (pre := ([] : va_W)) (post := ((wXo b cy (a 0) r nx sn ln sv kp ik bf ++ wRd r kd hg nu dg ng tk) ++ (wSky a cy n lit h t s g kn lo lf nm ++ R))) (w2 := ((wXo b cy (a 0) r nx sn ln sv kp ik bf ++ wRd r kd hg nu dg ng tk) ++ (wSky a cy n lit h t s g kn lo lf nm ++ R))) (As := [.int y]) (rest := []) C (c_X3_isThickness y) gX3_layer_X3_isThickness rfl rfl rfl (by decide +kernel) (k_room hR (by decide)) ⟨Nat.zero_le _, Nat.zero_le _⟩  rfl rfl (Nat.le_of_ble_eq_true rfl) (rfl) (rfl) dX3_layer_14 rfl ?_
      refine k_ifB_ne (tgt := 30) (q := 20) C dX3_layer_17 (by decide) rfl ?_ ?_
      · exact fun c_17 => absurd ⟨⟨Int32.not_lt.mp c_3, Int32.not_lt.mp c_10⟩, c_17⟩ hx
      · intro c_17
        exact k_thr (text := _) E (rfl) zA (List.mem_of_getElem? (i := 1) rfl) (List.mem_of_getElem? (i := 2) rfl) (fun _ h => (List.mem_cons_of_mem _ (List.mem_append_left _ (List.mem_append_right _ h)))) (List.mem_of_getElem? (i := 0) rfl) dX3_layer_20 dX3_layer_23 dX3_layer_24 dX3_layer_26 dX3_layer_29
set_option maxHeartbeats 4000000 in
set_option maxRecDepth 100000 in
theorem c_X3_layer_e2 (cy : Nat → ClassId) (a : Nat → Nat) (b : Nat → Nat) (r : Nat) (nx : Nat) (sn : Nat) (ln : Nat) (sv : Nat → Option Nat) (kp : Nat → Option Nat) (ik : Nat → Int32) (bf : Nat → Nat) (kd : Nat) (hg : Nat) (nu : Nat) (dg : Nat) (ng : Bool) (tk : Bool) (n : Nat) (lit : Int32) (h : Nat → Int32) (t : Nat → Int32) (s : Nat → Int32) (g : Nat → Int32) (kn : Nat) (lo : Int32) (lf : Int32) (nm : Nat → Int32) (R : va_W) (x : Int32) (y : Int32)  (hn : n ≤ 6) (hx : (50 ≤ x ∧ x ≤ 3000) ∧ (1 ≤ y ∧ y ≤ 100)) (hz : ¬ (sAny h x n = false ∧ n < 6)) : kE yX3_layer wsX3_layer rmE_X3_layer cy [.ref (b 0), .int x, .int y] ((wXo b cy (a 0) r nx sn ln sv kp ik bf ++ wRd r kd hg nu dg ng tk) ++ (wSky a cy n lit h t s g kn lo lf nm ++ R)) "java/lang/IllegalStateException" ((wXo b cy (a 0) r nx sn ln sv kp ik bf ++ wRd r kd hg nu dg ng tk) ++ (wSky a cy n lit h t s g kn lo lf nm ++ R)) := by
  refine kE_of (cc := cX3_layer) (maxL := 3) (rt := .int) rfl (by decide) rfl (Nat.le_of_ble_eq_true rfl) (by decide) ?_
  intro X hR C Z E
  have C : kC X 3 RX3 cX3_layer wsX3_layer cy := C
  refine k_fr (fr2 := [(0, .ref (b 0)), (1, .int x), (2, .int y)]) ⟨[0, 1, 2], rfl⟩ ?_
  refine k_iload_n (q := 1) C 1 dX3_layer_0 rfl rfl ?_
  refine k_bipush (q := 3) (v := 50) C dX3_layer_1 (by decide +kernel) rfl ?_
  refine k_icmp_lt (tgt := 20) (q := 6) C dX3_layer_3 (by decide) rfl ?_ ?_
  · exact fun c_3 => absurd c_3 (Int32.not_lt.mpr hx.1.1)
  · intro c_3
    refine k_iload_n (q := 7) C 1 dX3_layer_6 rfl rfl ?_
    refine k_sipush (q := 10) (v := 3000) C dX3_layer_7 (by decide +kernel) rfl ?_
    refine k_icmp_gt (tgt := 20) (q := 13) C dX3_layer_10 (by decide) rfl ?_ ?_
    · exact fun c_10 => absurd c_10 (Int32.not_lt.mpr hx.1.2)
    · intro c_10
      refine k_iload_n (q := 14) C 2 dX3_layer_13 rfl rfl ?_
      refine k_callSI (n := 1) (q := 17) (pre := ([] : va_W)) (post := ((wXo b cy (a 0) r nx sn ln sv kp ik bf ++ wRd r kd hg nu dg ng tk) ++ (wSky a cy n lit h t s g kn lo lf nm ++ R))) (w2 := ((wXo b cy (a 0) r nx sn ln sv kp ik bf ++ wRd r kd hg nu dg ng tk) ++ (wSky a cy n lit h t s g kn lo lf nm ++ R))) (As := [.int y]) (rest := []) C (c_X3_isThickness y) gX3_layer_X3_isThickness rfl rfl rfl (by decide +kernel) (k_room hR (by decide)) ⟨Nat.zero_le _, Nat.zero_le _⟩  rfl rfl (Nat.le_of_ble_eq_true rfl) (rfl) (rfl) dX3_layer_14 rfl ?_
      refine k_ifB_ne (tgt := 30) (q := 20) C dX3_layer_17 (by decide) rfl ?_ ?_
      · intro c_17
        refine k_aload_n (q := 31) C 0 dX3_layer_30 rfl rfl ?_
        refine k_get (q := 34) (ci := 3) (v := .ref (a 0)) C 0 0 in3_X3_layer rfl (List.mem_of_getElem? (i := 5) rfl) rfl rfl (by decide) rfl dX3_layer_31 rfl ?_
        refine k_iload_n (q := 35) C 1 dX3_layer_34 rfl rfl ?_
        refine k_callVI (n := 1) (q := 38) (pre := (wXo b cy (a 0) r nx sn ln sv kp ik bf ++ wRd r kd hg nu dg ng tk)) (post := R) (w2 := ((wXo b cy (a 0) r nx sn ln sv kp ik bf ++ wRd r kd hg nu dg ng tk) ++ (wSky a cy n lit h t s g kn lo lf nm ++ R))) (As := [.int x]) (rest := []) C (c_X2_takesLayer cy a n lit h t s g kn lo lf nm x (by omega)) gX3_layer_X2_takesLayer rfl rfl rfl (by decide +kernel) (k_room hR (by decide)) ⟨Nat.zero_le _, Nat.zero_le _⟩ (ci := 2) rfl 0 rfl rfl rfl (Nat.le_of_ble_eq_true rfl) (rfl) (rfl) dX3_layer_35 rfl ?_
        refine k_ifB_ne (tgt := 51) (q := 41) C dX3_layer_38 (by decide) rfl ?_ ?_
        · exact fun c_38 => absurd c_38 hz
        · intro c_38
          exact k_thr (text := _) E (rfl) zB (List.mem_of_getElem? (i := 3) rfl) (List.mem_of_getElem? (i := 4) rfl) (fun _ h => (List.mem_cons_of_mem _ (List.mem_append_right _ h))) (List.mem_of_getElem? (i := 1) rfl) dX3_layer_41 dX3_layer_44 dX3_layer_45 dX3_layer_47 dX3_layer_50
      · exact fun c_17 => absurd hx.2 c_17
abbrev rmE_X3_clear : Room := { frames := 6, cells := 1, slots := 6, locals := 115 }
set_option maxHeartbeats 4000000 in
set_option maxRecDepth 100000 in
theorem c_X3_clear_e (cy : Nat → ClassId) (a : Nat → Nat) (b : Nat → Nat) (r : Nat) (nx : Nat) (sn : Nat) (ln : Nat) (sv : Nat → Option Nat) (kp : Nat → Option Nat) (ik : Nat → Int32) (bf : Nat → Nat) (kd : Nat) (hg : Nat) (nu : Nat) (dg : Nat) (ng : Bool) (tk : Bool) (n : Nat) (lit : Int32) (h : Nat → Int32) (t : Nat → Int32) (s : Nat → Int32) (g : Nat → Int32) (kn : Nat) (lo : Int32) (lf : Int32) (nm : Nat → Int32) (R : va_W) (x : Int32)  (hx : ¬ (0 ≤ x ∧ x < nI n)) : kE yX3_clear wsX3_clear rmE_X3_clear cy [.ref (b 0), .int x] ((wXo b cy (a 0) r nx sn ln sv kp ik bf ++ wRd r kd hg nu dg ng tk) ++ (wSky a cy n lit h t s g kn lo lf nm ++ R)) "java/lang/IndexOutOfBoundsException" ((wXo b cy (a 0) r nx sn ln sv kp ik bf ++ wRd r kd hg nu dg ng tk) ++ (wSky a cy n lit h t s g kn lo lf nm ++ R)) := by
  refine kE_of (cc := cX3_clear) (maxL := 2) (rt := .int) rfl (by decide) rfl (Nat.le_of_ble_eq_true rfl) (by decide) ?_
  intro X hR C Z E
  have C : kC X 2 RX3 cX3_clear wsX3_clear cy := C
  refine k_fr (fr2 := [(0, .ref (b 0)), (1, .int x)]) ⟨[0, 1], rfl⟩ ?_
  refine k_aload_n (q := 1) C 0 dX3_clear_0 rfl rfl ?_
  refine k_get (q := 4) (ci := 3) (v := .ref (a 0)) C 0 0 in3_X3_clear rfl (List.mem_of_getElem? (i := 3) rfl) rfl rfl (by decide) rfl dX3_clear_1 rfl ?_
  refine k_iload_n (q := 5) C 1 dX3_clear_4 rfl rfl ?_
  refine k_callVI (n := 1) (q := 8) (pre := (wXo b cy (a 0) r nx sn ln sv kp ik bf ++ wRd r kd hg nu dg ng tk)) (post := R) (w2 := ((wXo b cy (a 0) r nx sn ln sv kp ik bf ++ wRd r kd hg nu dg ng tk) ++ (wSky a cy n lit h t s g kn lo lf nm ++ R))) (As := [.int x]) (rest := []) C (c_X2_hasLayer cy a n lit h t s g kn lo lf nm x) gX3_clear_X2_hasLayer rfl rfl rfl (by decide +kernel) (k_room hR (by decide)) ⟨Nat.zero_le _, Nat.zero_le _⟩ (ci := 2) rfl 0 rfl rfl rfl (Nat.le_of_ble_eq_true rfl) (rfl) (rfl) dX3_clear_5 rfl ?_
  refine k_ifB_ne (tgt := 21) (q := 11) C dX3_clear_8 (by decide) rfl ?_ ?_
  · exact fun c_8 => absurd c_8 hx
  · intro c_8
    exact k_thr (text := _) E (rfl) zC (List.mem_of_getElem? (i := 1) rfl) (List.mem_of_getElem? (i := 2) rfl) (fun _ h => (List.mem_cons_of_mem _ (List.mem_append_right _ h))) (List.mem_of_getElem? (i := 2) rfl) dX3_clear_11 dX3_clear_14 dX3_clear_15 dX3_clear_17 dX3_clear_20
abbrev rmE_X3_clearThin : Room := { frames := 6, cells := 1, slots := 6, locals := 115 }
set_option maxHeartbeats 4000000 in
set_option maxRecDepth 100000 in
theorem c_X3_clearThin_e (cy : Nat → ClassId) (a : Nat → Nat) (b : Nat → Nat) (r : Nat) (nx : Nat) (sn : Nat) (ln : Nat) (sv : Nat → Option Nat) (kp : Nat → Option Nat) (ik : Nat → Int32) (bf : Nat → Nat) (kd : Nat) (hg : Nat) (nu : Nat) (dg : Nat) (ng : Bool) (tk : Bool) (n : Nat) (lit : Int32) (h : Nat → Int32) (t : Nat → Int32) (s : Nat → Int32) (g : Nat → Int32) (kn : Nat) (lo : Int32) (lf : Int32) (nm : Nat → Int32) (R : va_W) (x : Int32)  (hx : ¬ (1 ≤ x ∧ x ≤ 100)) : kE yX3_clearThin wsX3_clearThin rmE_X3_clearThin cy [.ref (b 0), .int x] ((wXo b cy (a 0) r nx sn ln sv kp ik bf ++ wRd r kd hg nu dg ng tk) ++ (wSky a cy n lit h t s g kn lo lf nm ++ R)) "java/lang/IllegalArgumentException" ((wXo b cy (a 0) r nx sn ln sv kp ik bf ++ wRd r kd hg nu dg ng tk) ++ (wSky a cy n lit h t s g kn lo lf nm ++ R)) := by
  refine kE_of (cc := cX3_clearThin) (maxL := 2) (rt := .int) rfl (by decide) rfl (Nat.le_of_ble_eq_true rfl) (by decide) ?_
  intro X hR C Z E
  have C : kC X 2 RX3 cX3_clearThin wsX3_clearThin cy := C
  refine k_fr (fr2 := [(0, .ref (b 0)), (1, .int x)]) ⟨[0, 1], rfl⟩ ?_
  refine k_iload_n (q := 1) C 1 dX3_clearThin_0 rfl rfl ?_
  refine k_callSI (n := 1) (q := 4) (pre := ([] : va_W)) (post := ((wXo b cy (a 0) r nx sn ln sv kp ik bf ++ wRd r kd hg nu dg ng tk) ++ (wSky a cy n lit h t s g kn lo lf nm ++ R))) (w2 := ((wXo b cy (a 0) r nx sn ln sv kp ik bf ++ wRd r kd hg nu dg ng tk) ++ (wSky a cy n lit h t s g kn lo lf nm ++ R))) (As := [.int x]) (rest := []) C (c_X3_isThickness x) gX3_clearThin_X3_isThickness rfl rfl rfl (by decide +kernel) (k_room hR (by decide)) ⟨Nat.zero_le _, Nat.zero_le _⟩  rfl rfl (Nat.le_of_ble_eq_true rfl) (rfl) (rfl) dX3_clearThin_1 rfl ?_
  refine k_ifB_ne (tgt := 17) (q := 7) C dX3_clearThin_4 (by decide) rfl ?_ ?_
  · exact fun c_4 => absurd c_4 hx
  · intro c_4
    exact k_thr (text := _) E (rfl) zA (List.mem_of_getElem? (i := 1) rfl) (List.mem_of_getElem? (i := 2) rfl) (fun _ h => (List.mem_cons_of_mem _ (List.mem_append_right _ h))) (List.mem_of_getElem? (i := 3) rfl) dX3_clearThin_7 dX3_clearThin_10 dX3_clearThin_11 dX3_clearThin_13 dX3_clearThin_16
abbrev rmE_X3_aim : Room := { frames := 6, cells := 1, slots := 6, locals := 115 }
set_option maxHeartbeats 4000000 in
set_option maxRecDepth 100000 in
theorem c_X3_aim_e (cy : Nat → ClassId) (a : Nat → Nat) (b : Nat → Nat) (r : Nat) (nx : Nat) (sn : Nat) (ln : Nat) (sv : Nat → Option Nat) (kp : Nat → Option Nat) (ik : Nat → Int32) (bf : Nat → Nat) (kd : Nat) (hg : Nat) (nu : Nat) (dg : Nat) (ng : Bool) (tk : Bool) (n : Nat) (lit : Int32) (h : Nat → Int32) (t : Nat → Int32) (s : Nat → Int32) (g : Nat → Int32) (kn : Nat) (lo : Int32) (lf : Int32) (nm : Nat → Int32) (R : va_W) (x : Int32) (y : Int32)  (hx : ¬ (0 ≤ x ∧ x ≤ 1)) : kE yX3_aim wsX3_aim rmE_X3_aim cy [.ref (b 0), .int x, .int y] ((wXo b cy (a 0) r nx sn ln sv kp ik bf ++ wRd r kd hg nu dg ng tk) ++ (wSky a cy n lit h t s g kn lo lf nm ++ R)) "java/lang/IndexOutOfBoundsException" ((wXo b cy (a 0) r nx sn ln sv kp ik bf ++ wRd r kd hg nu dg ng tk) ++ (wSky a cy n lit h t s g kn lo lf nm ++ R)) := by
  refine kE_of (cc := cX3_aim) (maxL := 3) (rt := .int) rfl (by decide) rfl (Nat.le_of_ble_eq_true rfl) (by decide) ?_
  intro X hR C Z E
  have C : kC X 3 RX3 cX3_aim wsX3_aim cy := C
  refine k_fr (fr2 := [(0, .ref (b 0)), (1, .int x), (2, .int y)]) ⟨[0, 1, 2], rfl⟩ ?_
  refine k_iload_n (q := 1) C 1 dX3_aim_0 rfl rfl ?_
  refine k_callSI (n := 1) (q := 4) (pre := ([] : va_W)) (post := ((wXo b cy (a 0) r nx sn ln sv kp ik bf ++ wRd r kd hg nu dg ng tk) ++ (wSky a cy n lit h t s g kn lo lf nm ++ R))) (w2 := ((wXo b cy (a 0) r nx sn ln sv kp ik bf ++ wRd r kd hg nu dg ng tk) ++ (wSky a cy n lit h t s g kn lo lf nm ++ R))) (As := [.int x]) (rest := []) C (c_X3_isLight x) gX3_aim_X3_isLight rfl rfl rfl (by decide +kernel) (k_room hR (by decide)) ⟨Nat.zero_le _, Nat.zero_le _⟩  rfl rfl (Nat.le_of_ble_eq_true rfl) (rfl) (rfl) dX3_aim_1 rfl ?_
  refine k_ifB_ne (tgt := 17) (q := 7) C dX3_aim_4 (by decide) rfl ?_ ?_
  · exact fun c_4 => absurd c_4 hx
  · intro c_4
    exact k_thr (text := _) E (rfl) zC (List.mem_of_getElem? (i := 1) rfl) (List.mem_of_getElem? (i := 2) rfl) (fun _ h => (List.mem_cons_of_mem _ (List.mem_append_left _ (List.mem_append_right _ h)))) (List.mem_of_getElem? (i := 4) rfl) dX3_aim_7 dX3_aim_10 dX3_aim_11 dX3_aim_13 dX3_aim_16
set_option maxHeartbeats 4000000 in
set_option maxRecDepth 100000 in
theorem c_X3_aim_e2 (cy : Nat → ClassId) (a : Nat → Nat) (b : Nat → Nat) (r : Nat) (nx : Nat) (sn : Nat) (ln : Nat) (sv : Nat → Option Nat) (kp : Nat → Option Nat) (ik : Nat → Int32) (bf : Nat → Nat) (kd : Nat) (hg : Nat) (nu : Nat) (dg : Nat) (ng : Bool) (tk : Bool) (n : Nat) (lit : Int32) (h : Nat → Int32) (t : Nat → Int32) (s : Nat → Int32) (g : Nat → Int32) (kn : Nat) (lo : Int32) (lf : Int32) (nm : Nat → Int32) (R : va_W) (j : Nat) (y : Int32)  (hj : j < 2) (hy : ¬ (-30 ≤ y ∧ y ≤ 30)) : kE yX3_aim wsX3_aim rmE_X3_aim cy [.ref (b 0), .int (nI j), .int y] ((wXo b cy (a 0) r nx sn ln sv kp ik bf ++ wRd r kd hg nu dg ng tk) ++ (wSky a cy n lit h t s g kn lo lf nm ++ R)) "java/lang/IllegalArgumentException" ((wXo b cy (a 0) r nx sn ln sv kp ik bf ++ wRd r kd hg nu dg ng tk) ++ (wSky a cy n lit h t s g kn lo lf nm ++ R)) := by
  refine kE_of (cc := cX3_aim) (maxL := 3) (rt := .int) rfl (by decide) rfl (Nat.le_of_ble_eq_true rfl) (by decide) ?_
  intro X hR C Z E
  have C : kC X 3 RX3 cX3_aim wsX3_aim cy := C
  refine k_fr (fr2 := [(0, .ref (b 0)), (1, .int (nI j)), (2, .int y)]) ⟨[0, 1, 2], rfl⟩ ?_
  refine k_iload_n (q := 1) C 1 dX3_aim_0 rfl rfl ?_
  refine k_callSI (n := 1) (q := 4) (pre := ([] : va_W)) (post := ((wXo b cy (a 0) r nx sn ln sv kp ik bf ++ wRd r kd hg nu dg ng tk) ++ (wSky a cy n lit h t s g kn lo lf nm ++ R))) (w2 := ((wXo b cy (a 0) r nx sn ln sv kp ik bf ++ wRd r kd hg nu dg ng tk) ++ (wSky a cy n lit h t s g kn lo lf nm ++ R))) (As := [.int (nI j)]) (rest := []) C (c_X3_isLight (nI j)) gX3_aim_X3_isLight rfl rfl rfl (by decide +kernel) (k_room hR (by decide)) ⟨Nat.zero_le _, Nat.zero_le _⟩  rfl rfl (Nat.le_of_ble_eq_true rfl) (rfl) (rfl) dX3_aim_1 rfl ?_
  refine k_ifB_ne (tgt := 17) (q := 7) C dX3_aim_4 (by decide) rfl ?_ ?_
  · intro c_4
    refine k_iload_n (q := 18) C 2 dX3_aim_17 rfl rfl ?_
    refine k_bipush (q := 20) (v := -30) C dX3_aim_18 (by decide +kernel) rfl ?_
    refine k_icmp_lt (tgt := 29) (q := 23) C dX3_aim_20 (by decide) rfl ?_ ?_
    · intro c_20
      exact k_thr (text := _) E (rfl) zA (List.mem_of_getElem? (i := 3) rfl) (List.mem_of_getElem? (i := 4) rfl) (fun _ h => (List.mem_cons_of_mem _ (List.mem_append_right _ h))) (List.mem_of_getElem? (i := 5) rfl) dX3_aim_29 dX3_aim_32 dX3_aim_33 dX3_aim_35 dX3_aim_38
    · intro c_20
      refine k_iload_n (q := 24) C 2 dX3_aim_23 rfl rfl ?_
      refine k_bipush (q := 26) (v := 30) C dX3_aim_24 (by decide +kernel) rfl ?_
      refine k_icmp_le (tgt := 39) (q := 29) C dX3_aim_26 (by decide) rfl ?_ ?_
      · exact fun c_26 => absurd ⟨Int32.not_lt.mp c_20, c_26⟩ hy
      · intro c_26
        exact k_thr (text := _) E (rfl) zA (List.mem_of_getElem? (i := 3) rfl) (List.mem_of_getElem? (i := 4) rfl) (fun _ h => (List.mem_cons_of_mem _ (List.mem_append_right _ h))) (List.mem_of_getElem? (i := 5) rfl) dX3_aim_29 dX3_aim_32 dX3_aim_33 dX3_aim_35 dX3_aim_38
  · exact fun c_4 => absurd (mSlot hj) c_4
abbrev rmE_X3_turn : Room := { frames := 6, cells := 1, slots := 6, locals := 115 }
set_option maxHeartbeats 4000000 in
set_option maxRecDepth 100000 in
theorem c_X3_turn_e (cy : Nat → ClassId) (a : Nat → Nat) (b : Nat → Nat) (r : Nat) (nx : Nat) (sn : Nat) (ln : Nat) (sv : Nat → Option Nat) (kp : Nat → Option Nat) (ik : Nat → Int32) (bf : Nat → Nat) (kd : Nat) (hg : Nat) (nu : Nat) (dg : Nat) (ng : Bool) (tk : Bool) (n : Nat) (lit : Int32) (h : Nat → Int32) (t : Nat → Int32) (s : Nat → Int32) (g : Nat → Int32) (kn : Nat) (lo : Int32) (lf : Int32) (nm : Nat → Int32) (R : va_W) (x : Int32)  (hx : ¬ (0 ≤ x ∧ x ≤ 1)) : kE yX3_turn wsX3_turn rmE_X3_turn cy [.ref (b 0), .int x] ((wXo b cy (a 0) r nx sn ln sv kp ik bf ++ wRd r kd hg nu dg ng tk) ++ (wSky a cy n lit h t s g kn lo lf nm ++ R)) "java/lang/IndexOutOfBoundsException" ((wXo b cy (a 0) r nx sn ln sv kp ik bf ++ wRd r kd hg nu dg ng tk) ++ (wSky a cy n lit h t s g kn lo lf nm ++ R)) := by
  refine kE_of (cc := cX3_turn) (maxL := 2) (rt := .int) rfl (by decide) rfl (Nat.le_of_ble_eq_true rfl) (by decide) ?_
  intro X hR C Z E
  have C : kC X 2 RX3 cX3_turn wsX3_turn cy := C
  refine k_fr (fr2 := [(0, .ref (b 0)), (1, .int x)]) ⟨[0, 1], rfl⟩ ?_
  refine k_iload_n (q := 1) C 1 dX3_turn_0 rfl rfl ?_
  refine k_callSI (n := 1) (q := 4) (pre := ([] : va_W)) (post := ((wXo b cy (a 0) r nx sn ln sv kp ik bf ++ wRd r kd hg nu dg ng tk) ++ (wSky a cy n lit h t s g kn lo lf nm ++ R))) (w2 := ((wXo b cy (a 0) r nx sn ln sv kp ik bf ++ wRd r kd hg nu dg ng tk) ++ (wSky a cy n lit h t s g kn lo lf nm ++ R))) (As := [.int x]) (rest := []) C (c_X3_isLight x) gX3_turn_X3_isLight rfl rfl rfl (by decide +kernel) (k_room hR (by decide)) ⟨Nat.zero_le _, Nat.zero_le _⟩  rfl rfl (Nat.le_of_ble_eq_true rfl) (rfl) (rfl) dX3_turn_1 rfl ?_
  refine k_ifB_ne (tgt := 17) (q := 7) C dX3_turn_4 (by decide) rfl ?_ ?_
  · exact fun c_4 => absurd c_4 hx
  · intro c_4
    exact k_thr (text := _) E (rfl) zC (List.mem_of_getElem? (i := 1) rfl) (List.mem_of_getElem? (i := 2) rfl) (fun _ h => (List.mem_cons_of_mem _ (List.mem_append_right _ h))) (List.mem_of_getElem? (i := 4) rfl) dX3_turn_7 dX3_turn_10 dX3_turn_11 dX3_turn_13 dX3_turn_16
abbrev rmE_X3_set : Room := { frames := 6, cells := 1, slots := 6, locals := 115 }
set_option maxHeartbeats 4000000 in
set_option maxRecDepth 100000 in
theorem c_X3_set_e (cy : Nat → ClassId) (a : Nat → Nat) (b : Nat → Nat) (r : Nat) (nx : Nat) (sn : Nat) (ln : Nat) (sv : Nat → Option Nat) (kp : Nat → Option Nat) (ik : Nat → Int32) (bf : Nat → Nat) (kd : Nat) (hg : Nat) (nu : Nat) (dg : Nat) (ng : Bool) (tk : Bool) (n : Nat) (lit : Int32) (h : Nat → Int32) (t : Nat → Int32) (s : Nat → Int32) (g : Nat → Int32) (kn : Nat) (lo : Int32) (lf : Int32) (nm : Nat → Int32) (R : va_W) (x : Int32) (y : Int32)  (hx : ¬ (0 ≤ x ∧ x ≤ 3)) : kE yX3_set wsX3_set rmE_X3_set cy [.ref (b 0), .int x, .int y] ((wXo b cy (a 0) r nx sn ln sv kp ik bf ++ wRd r kd hg nu dg ng tk) ++ (wSky a cy n lit h t s g kn lo lf nm ++ R)) "java/lang/IndexOutOfBoundsException" ((wXo b cy (a 0) r nx sn ln sv kp ik bf ++ wRd r kd hg nu dg ng tk) ++ (wSky a cy n lit h t s g kn lo lf nm ++ R)) := by
  refine kE_of (cc := cX3_set) (maxL := 4) (rt := .int) rfl (by decide) rfl (Nat.le_of_ble_eq_true rfl) (by decide) ?_
  intro X hR C Z E
  have C : kC X 4 RX3 cX3_set wsX3_set cy := C
  refine k_fr (fr2 := [(0, .ref (b 0)), (1, .int x), (2, .int y)]) ⟨[0, 1, 2], rfl⟩ ?_
  refine k_iload_n (q := 1) C 1 dX3_set_0 rfl rfl ?_
  refine k_if_lt (tgt := 9) (q := 4) C dX3_set_1 (by decide) rfl ?_ ?_
  · intro c_1
    exact k_thr (text := _) E (rfl) zC (List.mem_of_getElem? (i := 1) rfl) (List.mem_of_getElem? (i := 2) rfl) (fun _ h => (List.mem_cons_of_mem _ (List.mem_append_left _ (List.mem_append_right _ h)))) (List.mem_of_getElem? (i := 6) rfl) dX3_set_9 dX3_set_12 dX3_set_13 dX3_set_15 dX3_set_18
  · intro c_1
    refine k_iload_n (q := 5) C 1 dX3_set_4 rfl rfl ?_
    refine k_iconst (q := 6) (v := 4) C dX3_set_5 (by decide) rfl ?_
    refine k_icmp_lt (tgt := 19) (q := 9) C dX3_set_6 (by decide) rfl ?_ ?_
    · exact fun c_6 => absurd ⟨Int32.not_lt.mp c_1, i_lt4 c_6⟩ hx
    · intro c_6
      exact k_thr (text := _) E (rfl) zC (List.mem_of_getElem? (i := 1) rfl) (List.mem_of_getElem? (i := 2) rfl) (fun _ h => (List.mem_cons_of_mem _ (List.mem_append_left _ (List.mem_append_right _ h)))) (List.mem_of_getElem? (i := 6) rfl) dX3_set_9 dX3_set_12 dX3_set_13 dX3_set_15 dX3_set_18
abbrev rmE_X3_scan : Room := { frames := 6, cells := 1, slots := 6, locals := 115 }
set_option maxHeartbeats 4000000 in
set_option maxRecDepth 100000 in
theorem c_X3_scan_e (cy : Nat → ClassId) (a : Nat → Nat) (b : Nat → Nat) (r : Nat) (nx : Nat) (sn : Nat) (ln : Nat) (sv : Nat → Option Nat) (kp : Nat → Option Nat) (ik : Nat → Int32) (bf : Nat → Nat) (kd : Nat) (hg : Nat) (nu : Nat) (dg : Nat) (ng : Bool) (tk : Bool) (n : Nat) (lit : Int32) (h : Nat → Int32) (t : Nat → Int32) (s : Nat → Int32) (g : Nat → Int32) (kn : Nat) (lo : Int32) (lf : Int32) (nm : Nat → Int32) (R : va_W) (x : Int32) (y : Int32)  (hx : ¬ ((0 ≤ x ∧ x ≤ 1) ∧ (0 ≤ y ∧ y < nI n))) : kE yX3_scan wsX3_scan rmE_X3_scan cy [.ref (b 0), .int x, .int y] ((wXo b cy (a 0) r nx sn ln sv kp ik bf ++ wRd r kd hg nu dg ng tk) ++ (wSky a cy n lit h t s g kn lo lf nm ++ R)) "java/lang/IndexOutOfBoundsException" ((wXo b cy (a 0) r nx sn ln sv kp ik bf ++ wRd r kd hg nu dg ng tk) ++ (wSky a cy n lit h t s g kn lo lf nm ++ R)) := by
  refine kE_of (cc := cX3_scan) (maxL := 3) (rt := .int) rfl (by decide) rfl (Nat.le_of_ble_eq_true rfl) (by decide) ?_
  intro X hR C Z E
  have C : kC X 3 RX3 cX3_scan wsX3_scan cy := C
  refine k_fr (fr2 := [(0, .ref (b 0)), (1, .int x), (2, .int y)]) ⟨[0, 1, 2], rfl⟩ ?_
  refine k_iload_n (q := 1) C 1 dX3_scan_0 rfl rfl ?_
  refine k_callSI (n := 1) (q := 4) (pre := ([] : va_W)) (post := ((wXo b cy (a 0) r nx sn ln sv kp ik bf ++ wRd r kd hg nu dg ng tk) ++ (wSky a cy n lit h t s g kn lo lf nm ++ R))) (w2 := ((wXo b cy (a 0) r nx sn ln sv kp ik bf ++ wRd r kd hg nu dg ng tk) ++ (wSky a cy n lit h t s g kn lo lf nm ++ R))) (As := [.int x]) (rest := []) C (c_X3_isLight x) gX3_scan_X3_isLight rfl rfl rfl (by decide +kernel) (k_room hR (by decide)) ⟨Nat.zero_le _, Nat.zero_le _⟩  rfl rfl (Nat.le_of_ble_eq_true rfl) (rfl) (rfl) dX3_scan_1 rfl ?_
  refine k_ifB_eq (tgt := 18) (q := 7) C dX3_scan_4 (by decide) rfl ?_ ?_
  · intro c_4
    exact k_thr (text := _) E (rfl) zC (List.mem_of_getElem? (i := 1) rfl) (List.mem_of_getElem? (i := 2) rfl) (fun _ h => (List.mem_cons_of_mem _ (List.mem_append_right _ h))) (List.mem_of_getElem? (i := 8) rfl) dX3_scan_18 dX3_scan_21 dX3_scan_22 dX3_scan_24 dX3_scan_27
  · intro c_4
    refine k_aload_n (q := 8) C 0 dX3_scan_7 rfl rfl ?_
    refine k_get (q := 11) (ci := 3) (v := .ref (a 0)) C 0 0 in3_X3_scan rfl (List.mem_of_getElem? (i := 3) rfl) rfl rfl (by decide) rfl dX3_scan_8 rfl ?_
    refine k_iload_n (q := 12) C 2 dX3_scan_11 rfl rfl ?_
    refine k_callVI (n := 1) (q := 15) (pre := (wXo b cy (a 0) r nx sn ln sv kp ik bf ++ wRd r kd hg nu dg ng tk)) (post := R) (w2 := ((wXo b cy (a 0) r nx sn ln sv kp ik bf ++ wRd r kd hg nu dg ng tk) ++ (wSky a cy n lit h t s g kn lo lf nm ++ R))) (As := [.int y]) (rest := []) C (c_X2_hasLayer cy a n lit h t s g kn lo lf nm y) gX3_scan_X2_hasLayer rfl rfl rfl (by decide +kernel) (k_room hR (by decide)) ⟨Nat.zero_le _, Nat.zero_le _⟩ (ci := 2) rfl 0 rfl rfl rfl (Nat.le_of_ble_eq_true rfl) (rfl) (rfl) dX3_scan_12 rfl ?_
    refine k_ifB_ne (tgt := 28) (q := 18) C dX3_scan_15 (by decide) rfl ?_ ?_
    · exact fun c_15 => absurd ⟨c_4, c_15⟩ hx
    · intro c_15
      exact k_thr (text := _) E (rfl) zC (List.mem_of_getElem? (i := 1) rfl) (List.mem_of_getElem? (i := 2) rfl) (fun _ h => (List.mem_cons_of_mem _ (List.mem_append_right _ h))) (List.mem_of_getElem? (i := 8) rfl) dX3_scan_18 dX3_scan_21 dX3_scan_22 dX3_scan_24 dX3_scan_27
abbrev rmE_X3_append : Room := { frames := 6, cells := 1, slots := 6, locals := 82 }
set_option maxHeartbeats 4000000 in
set_option maxRecDepth 100000 in
theorem c_X3_append_e (cy : Nat → ClassId) (a : Nat → Nat) (b : Nat → Nat) (r : Nat) (nx : Nat) (sn : Nat) (ln : Nat) (sv : Nat → Option Nat) (kp : Nat → Option Nat) (ik : Nat → Int32) (bf : Nat → Nat) (kd : Nat) (hg : Nat) (nu : Nat) (dg : Nat) (ng : Bool) (tk : Bool) (n : Nat) (lit : Int32) (h : Nat → Int32) (t : Nat → Int32) (s : Nat → Int32) (g : Nat → Int32) (kn : Nat) (lo : Int32) (lf : Int32) (nm : Nat → Int32) (R : va_W) (x : Int32)  (hx : ¬ (33 ≤ x ∧ x ≤ 126)) : kE yX3_append wsX3_append rmE_X3_append cy [.ref (b 0), .int x] ((wXo b cy (a 0) r nx sn ln sv kp ik bf ++ wRd r kd hg nu dg ng tk) ++ (wSky a cy n lit h t s g kn lo lf nm ++ R)) "java/lang/IllegalArgumentException" ((wXo b cy (a 0) r nx sn ln sv kp ik bf ++ wRd r kd hg nu dg ng tk) ++ (wSky a cy n lit h t s g kn lo lf nm ++ R)) := by
  refine kE_of (cc := cX3_append) (maxL := 2) (rt := .int) rfl (by decide) rfl (Nat.le_of_ble_eq_true rfl) (by decide) ?_
  intro X hR C Z E
  have C : kC X 2 RX3 cX3_append wsX3_append cy := C
  refine k_fr (fr2 := [(0, .ref (b 0)), (1, .int x)]) ⟨[0, 1], rfl⟩ ?_
  refine k_iload_n (q := 1) C 1 dX3_append_0 rfl rfl ?_
  refine k_bipush (q := 3) (v := 33) C dX3_append_1 (by decide +kernel) rfl ?_
  refine k_icmp_lt (tgt := 12) (q := 6) C dX3_append_3 (by decide) rfl ?_ ?_
  · intro c_3
    exact k_thr (text := _) E (rfl) zA (List.mem_of_getElem? (i := 1) rfl) (List.mem_of_getElem? (i := 2) rfl) (fun _ h => (List.mem_cons_of_mem _ (List.mem_append_left _ (List.mem_append_right _ h)))) (List.mem_of_getElem? (i := 9) rfl) dX3_append_12 dX3_append_15 dX3_append_16 dX3_append_18 dX3_append_21
  · intro c_3
    refine k_iload_n (q := 7) C 1 dX3_append_6 rfl rfl ?_
    refine k_bipush (q := 9) (v := 126) C dX3_append_7 (by decide +kernel) rfl ?_
    refine k_icmp_le (tgt := 22) (q := 12) C dX3_append_9 (by decide) rfl ?_ ?_
    · exact fun c_9 => absurd ⟨Int32.not_lt.mp c_3, c_9⟩ hx
    · intro c_9
      exact k_thr (text := _) E (rfl) zA (List.mem_of_getElem? (i := 1) rfl) (List.mem_of_getElem? (i := 2) rfl) (fun _ h => (List.mem_cons_of_mem _ (List.mem_append_left _ (List.mem_append_right _ h)))) (List.mem_of_getElem? (i := 9) rfl) dX3_append_12 dX3_append_15 dX3_append_16 dX3_append_18 dX3_append_21
set_option maxHeartbeats 4000000 in
set_option maxRecDepth 100000 in
theorem c_X3_append_e2 (cy : Nat → ClassId) (a : Nat → Nat) (b : Nat → Nat) (r : Nat) (nx : Nat) (sn : Nat) (ln : Nat) (sv : Nat → Option Nat) (kp : Nat → Option Nat) (ik : Nat → Int32) (bf : Nat → Nat) (kd : Nat) (hg : Nat) (nu : Nat) (dg : Nat) (ng : Bool) (tk : Bool) (n : Nat) (lit : Int32) (h : Nat → Int32) (t : Nat → Int32) (s : Nat → Int32) (g : Nat → Int32) (kn : Nat) (lo : Int32) (lf : Int32) (nm : Nat → Int32) (R : va_W) (c : Nat)  (hc : 33 ≤ c ∧ c ≤ 126) (hl : ln = 60) : kE yX3_append wsX3_append rmE_X3_append cy [.ref (b 0), .int (nI c)] ((wXo b cy (a 0) r nx sn ln sv kp ik bf ++ wRd r kd hg nu dg ng tk) ++ (wSky a cy n lit h t s g kn lo lf nm ++ R)) "java/lang/IllegalStateException" ((wXo b cy (a 0) r nx sn ln sv kp ik bf ++ wRd r kd hg nu dg ng tk) ++ (wSky a cy n lit h t s g kn lo lf nm ++ R)) := by
  refine kE_of (cc := cX3_append) (maxL := 2) (rt := .int) rfl (by decide) rfl (Nat.le_of_ble_eq_true rfl) (by decide) ?_
  intro X hR C Z E
  have C : kC X 2 RX3 cX3_append wsX3_append cy := C
  refine k_fr (fr2 := [(0, .ref (b 0)), (1, .int (nI c))]) ⟨[0, 1], rfl⟩ ?_
  refine k_iload_n (q := 1) C 1 dX3_append_0 rfl rfl ?_
  refine k_bipush (q := 3) (v := 33) C dX3_append_1 (by decide +kernel) rfl ?_
  refine k_nicmp_lt (a := c) (b := 33)  (tgt := 12) (q := 6) C dX3_append_3 (by decide) rfl (by omega) (by decide) ?_ ?_
  · exact fun c_3 => absurd c_3 (by omega)
  · intro c_3
    refine k_iload_n (q := 7) C 1 dX3_append_6 rfl rfl ?_
    refine k_bipush (q := 9) (v := 126) C dX3_append_7 (by decide +kernel) rfl ?_
    refine k_nicmp_le (a := c) (b := 126)  (tgt := 22) (q := 12) C dX3_append_9 (by decide) rfl (by omega) (by decide) ?_ ?_
    · intro c_9
      refine k_aload_n (q := 23) C 0 dX3_append_22 rfl rfl ?_
      refine k_get (q := 26) (ci := 3) (v := .int (nI ln)) C 0 7 in3_X3_append rfl (List.mem_of_getElem? (i := 5) rfl) rfl rfl (by decide) rfl dX3_append_23 rfl ?_
      refine k_bipush (q := 28) (v := 60) C dX3_append_26 (by decide +kernel) rfl ?_
      refine k_nicmp_lt (a := ln) (b := 60)  (tgt := 41) (q := 31) C dX3_append_28 (by decide) rfl (by omega) (by decide) ?_ ?_
      · exact fun c_28 => absurd hl (by omega)
      · intro c_28
        exact k_thr (text := _) E (rfl) zB (List.mem_of_getElem? (i := 3) rfl) (List.mem_of_getElem? (i := 4) rfl) (fun _ h => (List.mem_cons_of_mem _ (List.mem_append_right _ h))) (List.mem_of_getElem? (i := 10) rfl) dX3_append_31 dX3_append_34 dX3_append_35 dX3_append_37 dX3_append_40
    · exact fun c_9 => absurd hc (by omega)
abbrev rmE_X3_execute : Room := { frames := 6, cells := 1, slots := 6, locals := 141 }
set_option maxHeartbeats 4000000 in
set_option maxRecDepth 100000 in
theorem c_X3_execute_e (cy : Nat → ClassId) (a : Nat → Nat) (b : Nat → Nat) (r : Nat) (nx : Nat) (sn : Nat) (ln : Nat) (sv : Nat → Option Nat) (kp : Nat → Option Nat) (ik : Nat → Int32) (bf : Nat → Nat) (kd : Nat) (hg : Nat) (nu : Nat) (dg : Nat) (ng : Bool) (tk : Bool) (n : Nat) (lit : Int32) (h : Nat → Int32) (t : Nat → Int32) (s : Nat → Int32) (g : Nat → Int32) (kn : Nat) (lo : Int32) (lf : Int32) (nm : Nat → Int32) (R : va_W)  (hb : ∀ i, bf i ≤ 126) (hln : ln ≤ 60) (he : (xRead bf ln (ln + 1) 0 ((0, 0, 0, 0, false, false) : RT)).1 < ln) : kE yX3_execute wsX3_execute rmE_X3_execute cy [.ref (b 0)] ((wXo b cy (a 0) r nx sn ln sv kp ik bf ++ wRd r kd hg nu dg ng tk) ++ (wSky a cy n lit h t s g kn lo lf nm ++ R)) "java/lang/IllegalArgumentException" ((wXo b cy (a 0) r nx sn ln sv kp ik bf ++ wRd r (xRead bf ln (ln + 1) 0 ((0, 0, 0, 0, false, false) : RT)).2.1 (xRead bf ln (ln + 1) 0 ((0, 0, 0, 0, false, false) : RT)).2.2.1 (xRead bf ln (ln + 1) 0 ((0, 0, 0, 0, false, false) : RT)).2.2.2.1 (xRead bf ln (ln + 1) 0 ((0, 0, 0, 0, false, false) : RT)).2.2.2.2.1 (xRead bf ln (ln + 1) 0 ((0, 0, 0, 0, false, false) : RT)).2.2.2.2.2.1 (xRead bf ln (ln + 1) 0 ((0, 0, 0, 0, false, false) : RT)).2.2.2.2.2.2) ++ (wSky a cy n lit h t s g kn lo lf nm ++ R)) := by
  refine kE_of (cc := cX3_execute) (maxL := 2) (rt := .int) rfl (by decide) rfl (Nat.le_of_ble_eq_true rfl) (by decide) ?_
  intro X hR C Z E
  have C : kC X 2 RX3 cX3_execute wsX3_execute cy := C
  refine k_fr (fr2 := [(0, .ref (b 0))]) ⟨[0], rfl⟩ ?_
  obtain ⟨ho, hle⟩ := xRead_ok (ln := ln) hb (ln + 1) 0 ((0, 0, 0, 0, false, false) : RT) (Nat.zero_le _) ⟨by decide, Nat.zero_le _, Nat.zero_le _, Nat.zero_le _⟩
  refine k_aload_n (q := 1) C 0 dX3_execute_0 rfl rfl ?_
  refine k_callVI (n := 0) (q := 4) (pre := ([] : va_W)) (post := ([] : va_W)) (w2 := ((wXo b cy (a 0) r nx sn ln sv kp ik bf ++ wRd r (xRead bf ln (ln + 1) 0 ((0, 0, 0, 0, false, false) : RT)).2.1 (xRead bf ln (ln + 1) 0 ((0, 0, 0, 0, false, false) : RT)).2.2.1 (xRead bf ln (ln + 1) 0 ((0, 0, 0, 0, false, false) : RT)).2.2.2.1 (xRead bf ln (ln + 1) 0 ((0, 0, 0, 0, false, false) : RT)).2.2.2.2.1 (xRead bf ln (ln + 1) 0 ((0, 0, 0, 0, false, false) : RT)).2.2.2.2.2.1 (xRead bf ln (ln + 1) 0 ((0, 0, 0, 0, false, false) : RT)).2.2.2.2.2.2) ++ (wSky a cy n lit h t s g kn lo lf nm ++ R))) (As := []) (rest := []) C (c_X3_readBuffer cy a b r nx sn ln sv kp ik bf kd hg nu dg ng tk n lit h t s g kn lo lf nm R hb hln) gX3_execute_X3_readBuffer rfl rfl rfl (by decide +kernel) (k_room hR (by decide)) ⟨Nat.zero_le _, Nat.zero_le _⟩ (ci := 3) rfl 0 rfl rfl rfl (Nat.le_of_ble_eq_true rfl) ((List.append_nil _).symm) (List.append_nil _) dX3_execute_1 rfl ?_
  refine k_aload_n (q := 5) C 0 dX3_execute_4 rfl rfl ?_
  refine k_get (q := 8) (ci := 3) (v := .int (nI ln)) C 0 7 in3_X3_execute rfl (List.mem_of_getElem? (i := 3) rfl) rfl rfl (by decide) rfl dX3_execute_5 rfl ?_
  refine k_nicmp_lt (a := (xRead bf ln (ln + 1) 0 ((0, 0, 0, 0, false, false) : RT)).1) (b := ln)  (tgt := 21) (q := 11) C dX3_execute_8 (by decide) rfl (by omega) (by omega) ?_ ?_
  · intro c_8
    exact k_thr (text := _) E (rfl) zA (List.mem_of_getElem? (i := 1) rfl) (List.mem_of_getElem? (i := 2) rfl) (fun _ h => (List.mem_cons_of_mem _ (List.mem_append_right _ h))) (List.mem_of_getElem? (i := 11) rfl) dX3_execute_21 dX3_execute_24 dX3_execute_25 dX3_execute_27 dX3_execute_30
  · exact fun c_8 => absurd he (by omega)
set_option maxHeartbeats 4000000 in
set_option maxRecDepth 100000 in
theorem c_X3_execute_e2 (cy : Nat → ClassId) (a : Nat → Nat) (b : Nat → Nat) (r : Nat) (nx : Nat) (sn : Nat) (ln : Nat) (sv : Nat → Option Nat) (kp : Nat → Option Nat) (ik : Nat → Int32) (bf : Nat → Nat) (kd : Nat) (hg : Nat) (nu : Nat) (dg : Nat) (ng : Bool) (tk : Bool) (n : Nat) (lit : Int32) (h : Nat → Int32) (t : Nat → Int32) (s : Nat → Int32) (g : Nat → Int32) (kn : Nat) (lo : Int32) (lf : Int32) (nm : Nat → Int32) (R : va_W)  (hb : ∀ i, bf i ≤ 126) (hln : ln ≤ 60) (he : (xRead bf ln (ln + 1) 0 ((0, 0, 0, 0, false, false) : RT)).1 = ln) (hw : ¬ rWhole (xRead bf ln (ln + 1) 0 ((0, 0, 0, 0, false, false) : RT)).2.1 (xRead bf ln (ln + 1) 0 ((0, 0, 0, 0, false, false) : RT)).2.2.2.2.1 (xRead bf ln (ln + 1) 0 ((0, 0, 0, 0, false, false) : RT)).2.2.2.2.2.2 = true) : kE yX3_execute wsX3_execute rmE_X3_execute cy [.ref (b 0)] ((wXo b cy (a 0) r nx sn ln sv kp ik bf ++ wRd r kd hg nu dg ng tk) ++ (wSky a cy n lit h t s g kn lo lf nm ++ R)) "java/lang/IllegalArgumentException" ((wXo b cy (a 0) r nx sn ln sv kp ik bf ++ wRd r (xRead bf ln (ln + 1) 0 ((0, 0, 0, 0, false, false) : RT)).2.1 (xRead bf ln (ln + 1) 0 ((0, 0, 0, 0, false, false) : RT)).2.2.1 (xRead bf ln (ln + 1) 0 ((0, 0, 0, 0, false, false) : RT)).2.2.2.1 (xRead bf ln (ln + 1) 0 ((0, 0, 0, 0, false, false) : RT)).2.2.2.2.1 (xRead bf ln (ln + 1) 0 ((0, 0, 0, 0, false, false) : RT)).2.2.2.2.2.1 (xRead bf ln (ln + 1) 0 ((0, 0, 0, 0, false, false) : RT)).2.2.2.2.2.2) ++ (wSky a cy n lit h t s g kn lo lf nm ++ R)) := by
  refine kE_of (cc := cX3_execute) (maxL := 2) (rt := .int) rfl (by decide) rfl (Nat.le_of_ble_eq_true rfl) (by decide) ?_
  intro X hR C Z E
  have C : kC X 2 RX3 cX3_execute wsX3_execute cy := C
  refine k_fr (fr2 := [(0, .ref (b 0))]) ⟨[0], rfl⟩ ?_
  obtain ⟨ho, hle⟩ := xRead_ok (ln := ln) hb (ln + 1) 0 ((0, 0, 0, 0, false, false) : RT) (Nat.zero_le _) ⟨by decide, Nat.zero_le _, Nat.zero_le _, Nat.zero_le _⟩
  refine k_aload_n (q := 1) C 0 dX3_execute_0 rfl rfl ?_
  refine k_callVI (n := 0) (q := 4) (pre := ([] : va_W)) (post := ([] : va_W)) (w2 := ((wXo b cy (a 0) r nx sn ln sv kp ik bf ++ wRd r (xRead bf ln (ln + 1) 0 ((0, 0, 0, 0, false, false) : RT)).2.1 (xRead bf ln (ln + 1) 0 ((0, 0, 0, 0, false, false) : RT)).2.2.1 (xRead bf ln (ln + 1) 0 ((0, 0, 0, 0, false, false) : RT)).2.2.2.1 (xRead bf ln (ln + 1) 0 ((0, 0, 0, 0, false, false) : RT)).2.2.2.2.1 (xRead bf ln (ln + 1) 0 ((0, 0, 0, 0, false, false) : RT)).2.2.2.2.2.1 (xRead bf ln (ln + 1) 0 ((0, 0, 0, 0, false, false) : RT)).2.2.2.2.2.2) ++ (wSky a cy n lit h t s g kn lo lf nm ++ R))) (As := []) (rest := []) C (c_X3_readBuffer cy a b r nx sn ln sv kp ik bf kd hg nu dg ng tk n lit h t s g kn lo lf nm R hb hln) gX3_execute_X3_readBuffer rfl rfl rfl (by decide +kernel) (k_room hR (by decide)) ⟨Nat.zero_le _, Nat.zero_le _⟩ (ci := 3) rfl 0 rfl rfl rfl (Nat.le_of_ble_eq_true rfl) ((List.append_nil _).symm) (List.append_nil _) dX3_execute_1 rfl ?_
  refine k_aload_n (q := 5) C 0 dX3_execute_4 rfl rfl ?_
  refine k_get (q := 8) (ci := 3) (v := .int (nI ln)) C 0 7 in3_X3_execute rfl (List.mem_of_getElem? (i := 3) rfl) rfl rfl (by decide) rfl dX3_execute_5 rfl ?_
  refine k_nicmp_lt (a := (xRead bf ln (ln + 1) 0 ((0, 0, 0, 0, false, false) : RT)).1) (b := ln)  (tgt := 21) (q := 11) C dX3_execute_8 (by decide) rfl (by omega) (by omega) ?_ ?_
  · exact fun c_8 => absurd he (Nat.ne_of_lt c_8)
  · intro c_8
    refine k_aload_n (q := 12) C 0 dX3_execute_11 rfl rfl ?_
    refine k_get (q := 15) (ci := 3) (v := .ref r) C 0 8 in3_X3_execute rfl (List.mem_of_getElem? (i := 4) rfl) rfl rfl (by decide) rfl dX3_execute_12 rfl ?_
    refine k_callVI (n := 0) (q := 18) (pre := (wXo b cy (a 0) r nx sn ln sv kp ik bf)) (post := (wSky a cy n lit h t s g kn lo lf nm ++ R)) (w2 := ((wXo b cy (a 0) r nx sn ln sv kp ik bf ++ wRd r (xRead bf ln (ln + 1) 0 ((0, 0, 0, 0, false, false) : RT)).2.1 (xRead bf ln (ln + 1) 0 ((0, 0, 0, 0, false, false) : RT)).2.2.1 (xRead bf ln (ln + 1) 0 ((0, 0, 0, 0, false, false) : RT)).2.2.2.1 (xRead bf ln (ln + 1) 0 ((0, 0, 0, 0, false, false) : RT)).2.2.2.2.1 (xRead bf ln (ln + 1) 0 ((0, 0, 0, 0, false, false) : RT)).2.2.2.2.2.1 (xRead bf ln (ln + 1) 0 ((0, 0, 0, 0, false, false) : RT)).2.2.2.2.2.2) ++ (wSky a cy n lit h t s g kn lo lf nm ++ R))) (As := []) (rest := []) C (c_X1_isWholeOrder cy r (xRead bf ln (ln + 1) 0 ((0, 0, 0, 0, false, false) : RT)).2.1 (xRead bf ln (ln + 1) 0 ((0, 0, 0, 0, false, false) : RT)).2.2.1 (xRead bf ln (ln + 1) 0 ((0, 0, 0, 0, false, false) : RT)).2.2.2.1 (xRead bf ln (ln + 1) 0 ((0, 0, 0, 0, false, false) : RT)).2.2.2.2.1 (xRead bf ln (ln + 1) 0 ((0, 0, 0, 0, false, false) : RT)).2.2.2.2.2.1 (xRead bf ln (ln + 1) 0 ((0, 0, 0, 0, false, false) : RT)).2.2.2.2.2.2 ho.1 (Nat.lt_of_le_of_lt ho.2.2.1 (by omega))) gX3_execute_X1_isWholeOrder rfl rfl rfl (by decide +kernel) (k_room hR (by decide)) ⟨Nat.zero_le _, Nat.zero_le _⟩ (ci := 1) rfl 0 rfl rfl rfl (Nat.le_of_ble_eq_true rfl) (rfl) (rfl) dX3_execute_15 rfl ?_
    refine k_ifB_ne (tgt := 31) (q := 21) C dX3_execute_18 (by decide) rfl ?_ ?_
    · exact fun c_18 => absurd c_18 hw
    · intro c_18
      exact k_thr (text := _) E (rfl) zA (List.mem_of_getElem? (i := 1) rfl) (List.mem_of_getElem? (i := 2) rfl) (fun _ h => (List.mem_cons_of_mem _ (List.mem_append_right _ h))) (List.mem_of_getElem? (i := 11) rfl) dX3_execute_21 dX3_execute_24 dX3_execute_25 dX3_execute_27 dX3_execute_30
abbrev rmE_X3_undo : Room := { frames := 6, cells := 1, slots := 6, locals := 95 }
set_option maxHeartbeats 4000000 in
set_option maxRecDepth 100000 in
theorem c_X3_undo_e (cy : Nat → ClassId) (a : Nat → Nat) (b : Nat → Nat) (r : Nat) (nx : Nat) (sn : Nat) (ln : Nat) (sv : Nat → Option Nat) (kp : Nat → Option Nat) (ik : Nat → Int32) (bf : Nat → Nat) (kd : Nat) (hg : Nat) (nu : Nat) (dg : Nat) (ng : Bool) (tk : Bool) (n : Nat) (lit : Int32) (h : Nat → Int32) (t : Nat → Int32) (s : Nat → Int32) (g : Nat → Int32) (kn : Nat) (lo : Int32) (lf : Int32) (nm : Nat → Int32) (R : va_W)  (h0 : sn = 0) : kE yX3_undo wsX3_undo rmE_X3_undo cy [.ref (b 0)] ((wXo b cy (a 0) r nx sn ln sv kp ik bf ++ wRd r kd hg nu dg ng tk) ++ (wSky a cy n lit h t s g kn lo lf nm ++ R)) "java/lang/IllegalStateException" ((wXo b cy (a 0) r nx sn ln sv kp ik bf ++ wRd r kd hg nu dg ng tk) ++ (wSky a cy n lit h t s g kn lo lf nm ++ R)) := by
  refine kE_of (cc := cX3_undo) (maxL := 1) (rt := .int) rfl (by decide) rfl (Nat.le_of_ble_eq_true rfl) (by decide) ?_
  intro X hR C Z E
  have C : kC X 1 RX3 cX3_undo wsX3_undo cy := C
  refine k_fr (fr2 := [(0, .ref (b 0))]) ⟨[0], rfl⟩ ?_
  refine k_aload_n (q := 1) C 0 dX3_undo_0 rfl rfl ?_
  refine k_get (q := 4) (ci := 3) (v := .int (nI sn)) C 0 3 in3_X3_undo rfl (List.mem_of_getElem? (i := 3) rfl) rfl rfl (by decide) rfl dX3_undo_1 rfl ?_
  refine k_nif_gt (a := sn)  (tgt := 17) (q := 7) C dX3_undo_4 (by decide) rfl (by omega) ?_ ?_
  · exact fun c_4 => absurd h0 (by omega)
  · intro c_4
    exact k_thr (text := _) E (rfl) zB (List.mem_of_getElem? (i := 1) rfl) (List.mem_of_getElem? (i := 2) rfl) (fun _ h => (List.mem_cons_of_mem _ (List.mem_append_right _ h))) (List.mem_of_getElem? (i := 12) rfl) dX3_undo_7 dX3_undo_10 dX3_undo_11 dX3_undo_13 dX3_undo_16
abbrev rmE_X3_keep : Room := { frames := 6, cells := 1, slots := 6, locals := 95 }
set_option maxHeartbeats 4000000 in
set_option maxRecDepth 100000 in
theorem c_X3_keep_e (cy : Nat → ClassId) (a : Nat → Nat) (b : Nat → Nat) (r : Nat) (nx : Nat) (sn : Nat) (ln : Nat) (sv : Nat → Option Nat) (kp : Nat → Option Nat) (ik : Nat → Int32) (bf : Nat → Nat) (kd : Nat) (hg : Nat) (nu : Nat) (dg : Nat) (ng : Bool) (tk : Bool) (n : Nat) (lit : Int32) (h : Nat → Int32) (t : Nat → Int32) (s : Nat → Int32) (g : Nat → Int32) (kn : Nat) (lo : Int32) (lf : Int32) (nm : Nat → Int32) (R : va_W) (x : Int32)  (hx : ¬ (0 ≤ x ∧ x ≤ 1)) : kE yX3_keep wsX3_keep rmE_X3_keep cy [.ref (b 0), .int x] ((wXo b cy (a 0) r nx sn ln sv kp ik bf ++ wRd r kd hg nu dg ng tk) ++ (wSky a cy n lit h t s g kn lo lf nm ++ R)) "java/lang/IllegalArgumentException" ((wXo b cy (a 0) r nx sn ln sv kp ik bf ++ wRd r kd hg nu dg ng tk) ++ (wSky a cy n lit h t s g kn lo lf nm ++ R)) := by
  refine kE_of (cc := cX3_keep) (maxL := 2) (rt := .int) rfl (by decide) rfl (Nat.le_of_ble_eq_true rfl) (by decide) ?_
  intro X hR C Z E
  have C : kC X 2 RX3 cX3_keep wsX3_keep cy := C
  refine k_fr (fr2 := [(0, .ref (b 0)), (1, .int x)]) ⟨[0, 1], rfl⟩ ?_
  refine k_iload_n (q := 1) C 1 dX3_keep_0 rfl rfl ?_
  refine k_callSI (n := 1) (q := 4) (pre := ([] : va_W)) (post := ((wXo b cy (a 0) r nx sn ln sv kp ik bf ++ wRd r kd hg nu dg ng tk) ++ (wSky a cy n lit h t s g kn lo lf nm ++ R))) (w2 := ((wXo b cy (a 0) r nx sn ln sv kp ik bf ++ wRd r kd hg nu dg ng tk) ++ (wSky a cy n lit h t s g kn lo lf nm ++ R))) (As := [.int x]) (rest := []) C (c_X3_isSlot x) gX3_keep_X3_isSlot rfl rfl rfl (by decide +kernel) (k_room hR (by decide)) ⟨Nat.zero_le _, Nat.zero_le _⟩  rfl rfl (Nat.le_of_ble_eq_true rfl) (rfl) (rfl) dX3_keep_1 rfl ?_
  refine k_ifB_ne (tgt := 17) (q := 7) C dX3_keep_4 (by decide) rfl ?_ ?_
  · exact fun c_4 => absurd c_4 hx
  · intro c_4
    exact k_thr (text := _) E (rfl) zA (List.mem_of_getElem? (i := 1) rfl) (List.mem_of_getElem? (i := 2) rfl) (fun _ h => (List.mem_cons_of_mem _ (List.mem_append_right _ h))) (List.mem_of_getElem? (i := 13) rfl) dX3_keep_7 dX3_keep_10 dX3_keep_11 dX3_keep_13 dX3_keep_16
abbrev rmE_X3_goBack : Room := { frames := 6, cells := 1, slots := 6, locals := 115 }
set_option maxHeartbeats 4000000 in
set_option maxRecDepth 100000 in
theorem c_X3_goBack_e (cy : Nat → ClassId) (a : Nat → Nat) (b : Nat → Nat) (r : Nat) (nx : Nat) (sn : Nat) (ln : Nat) (sv : Nat → Option Nat) (kp : Nat → Option Nat) (ik : Nat → Int32) (bf : Nat → Nat) (kd : Nat) (hg : Nat) (nu : Nat) (dg : Nat) (ng : Bool) (tk : Bool) (n : Nat) (lit : Int32) (h : Nat → Int32) (t : Nat → Int32) (s : Nat → Int32) (g : Nat → Int32) (kn : Nat) (lo : Int32) (lf : Int32) (nm : Nat → Int32) (R : va_W) (x : Int32)  (hx : ¬ (0 ≤ x ∧ x ≤ 1)) : kE yX3_goBack wsX3_goBack rmE_X3_goBack cy [.ref (b 0), .int x] ((wXo b cy (a 0) r nx sn ln sv kp ik bf ++ wRd r kd hg nu dg ng tk) ++ (wSky a cy n lit h t s g kn lo lf nm ++ R)) "java/lang/IllegalArgumentException" ((wXo b cy (a 0) r nx sn ln sv kp ik bf ++ wRd r kd hg nu dg ng tk) ++ (wSky a cy n lit h t s g kn lo lf nm ++ R)) := by
  refine kE_of (cc := cX3_goBack) (maxL := 2) (rt := .int) rfl (by decide) rfl (Nat.le_of_ble_eq_true rfl) (by decide) ?_
  intro X hR C Z E
  have C : kC X 2 RX3 cX3_goBack wsX3_goBack cy := C
  refine k_fr (fr2 := [(0, .ref (b 0)), (1, .int x)]) ⟨[0, 1], rfl⟩ ?_
  refine k_iload_n (q := 1) C 1 dX3_goBack_0 rfl rfl ?_
  refine k_callSI (n := 1) (q := 4) (pre := ([] : va_W)) (post := ((wXo b cy (a 0) r nx sn ln sv kp ik bf ++ wRd r kd hg nu dg ng tk) ++ (wSky a cy n lit h t s g kn lo lf nm ++ R))) (w2 := ((wXo b cy (a 0) r nx sn ln sv kp ik bf ++ wRd r kd hg nu dg ng tk) ++ (wSky a cy n lit h t s g kn lo lf nm ++ R))) (As := [.int x]) (rest := []) C (c_X3_isSlot x) gX3_goBack_X3_isSlot rfl rfl rfl (by decide +kernel) (k_room hR (by decide)) ⟨Nat.zero_le _, Nat.zero_le _⟩  rfl rfl (Nat.le_of_ble_eq_true rfl) (rfl) (rfl) dX3_goBack_1 rfl ?_
  refine k_ifB_ne (tgt := 17) (q := 7) C dX3_goBack_4 (by decide) rfl ?_ ?_
  · exact fun c_4 => absurd c_4 hx
  · intro c_4
    exact k_thr (text := _) E (rfl) zA (List.mem_of_getElem? (i := 1) rfl) (List.mem_of_getElem? (i := 2) rfl) (fun _ h => (List.mem_cons_of_mem _ (List.mem_append_left _ (List.mem_append_right _ h)))) (List.mem_of_getElem? (i := 13) rfl) dX3_goBack_7 dX3_goBack_10 dX3_goBack_11 dX3_goBack_13 dX3_goBack_16
set_option maxHeartbeats 4000000 in
set_option maxRecDepth 100000 in
theorem c_X3_goBack_e2 (cy : Nat → ClassId) (a : Nat → Nat) (b : Nat → Nat) (r : Nat) (nx : Nat) (sn : Nat) (ln : Nat) (sv : Nat → Option Nat) (kp : Nat → Option Nat) (ik : Nat → Int32) (bf : Nat → Nat) (kd : Nat) (hg : Nat) (nu : Nat) (dg : Nat) (ng : Bool) (tk : Bool) (n : Nat) (lit : Int32) (h : Nat → Int32) (t : Nat → Int32) (s : Nat → Int32) (g : Nat → Int32) (kn : Nat) (lo : Int32) (lf : Int32) (nm : Nat → Int32) (R : va_W) (j : Nat)  (hj : j < 2) (hi : ik j = 0) : kE yX3_goBack wsX3_goBack rmE_X3_goBack cy [.ref (b 0), .int (nI j)] ((wXo b cy (a 0) r nx sn ln sv kp ik bf ++ wRd r kd hg nu dg ng tk) ++ (wSky a cy n lit h t s g kn lo lf nm ++ R)) "java/lang/IllegalStateException" ((wXo b cy (a 0) r nx sn ln sv kp ik bf ++ wRd r kd hg nu dg ng tk) ++ (wSky a cy n lit h t s g kn lo lf nm ++ R)) := by
  refine kE_of (cc := cX3_goBack) (maxL := 2) (rt := .int) rfl (by decide) rfl (Nat.le_of_ble_eq_true rfl) (by decide) ?_
  intro X hR C Z E
  have C : kC X 2 RX3 cX3_goBack wsX3_goBack cy := C
  refine k_fr (fr2 := [(0, .ref (b 0)), (1, .int (nI j))]) ⟨[0, 1], rfl⟩ ?_
  refine k_iload_n (q := 1) C 1 dX3_goBack_0 rfl rfl ?_
  refine k_callSI (n := 1) (q := 4) (pre := ([] : va_W)) (post := ((wXo b cy (a 0) r nx sn ln sv kp ik bf ++ wRd r kd hg nu dg ng tk) ++ (wSky a cy n lit h t s g kn lo lf nm ++ R))) (w2 := ((wXo b cy (a 0) r nx sn ln sv kp ik bf ++ wRd r kd hg nu dg ng tk) ++ (wSky a cy n lit h t s g kn lo lf nm ++ R))) (As := [.int (nI j)]) (rest := []) C (c_X3_isSlot (nI j)) gX3_goBack_X3_isSlot rfl rfl rfl (by decide +kernel) (k_room hR (by decide)) ⟨Nat.zero_le _, Nat.zero_le _⟩  rfl rfl (Nat.le_of_ble_eq_true rfl) (rfl) (rfl) dX3_goBack_1 rfl ?_
  refine k_ifB_ne (tgt := 17) (q := 7) C dX3_goBack_4 (by decide) rfl ?_ ?_
  · intro c_4
    refine k_aload_n (q := 18) C 0 dX3_goBack_17 rfl rfl ?_
    refine k_get (q := 21) (ci := 3) (v := .ref (b 3)) C 0 5 in3_X3_goBack rfl (List.mem_of_getElem? (i := 5) rfl) rfl rfl (by decide) rfl dX3_goBack_18 rfl ?_
    refine k_iload_n (q := 22) C 1 dX3_goBack_21 rfl rfl ?_
    refine k_zald (q := 23) C 3 rfl (vp_in_nI (n := j) (by omega) (by decide)) dX3_goBack_22 rfl ?_
    refine k_st (st2 := (.int (ik j) :: _)) (congrArg (fun z => Value.int z :: _) (show ik (nI j).toNatClampNeg = ik j from congrArg ik (nI_clamp (n := j) (by omega)))) ?_
    refine k_if_ne (tgt := 36) (q := 26) C dX3_goBack_23 (by decide) rfl ?_ ?_
    · exact fun c_23 => absurd hi c_23
    · intro c_23
      exact k_thr (text := _) E (rfl) zB (List.mem_of_getElem? (i := 3) rfl) (List.mem_of_getElem? (i := 4) rfl) (fun _ h => (List.mem_cons_of_mem _ (List.mem_append_right _ h))) (List.mem_of_getElem? (i := 14) rfl) dX3_goBack_26 dX3_goBack_29 dX3_goBack_30 dX3_goBack_32 dX3_goBack_35
  · exact fun c_4 => absurd (mSlot hj) c_4
abbrev rmE_X3_layerOf : Room := { frames := 6, cells := 1, slots := 6, locals := 112 }
set_option maxHeartbeats 4000000 in
set_option maxRecDepth 100000 in
theorem c_X3_layerOf_e (cy : Nat → ClassId) (a : Nat → Nat) (b : Nat → Nat) (r : Nat) (nx : Nat) (sn : Nat) (ln : Nat) (sv : Nat → Option Nat) (kp : Nat → Option Nat) (ik : Nat → Int32) (bf : Nat → Nat) (kd : Nat) (hg : Nat) (nu : Nat) (dg : Nat) (ng : Bool) (tk : Bool) (n : Nat) (lit : Int32) (h : Nat → Int32) (t : Nat → Int32) (s : Nat → Int32) (g : Nat → Int32) (kn : Nat) (lo : Int32) (lf : Int32) (nm : Nat → Int32) (R : va_W) (x : Int32) (y : Int32)  (hx : ¬ (0 ≤ x ∧ x < nI n)) : kE yX3_layerOf wsX3_layerOf rmE_X3_layerOf cy [.ref (b 0), .int x, .int y] ((wXo b cy (a 0) r nx sn ln sv kp ik bf ++ wRd r kd hg nu dg ng tk) ++ (wSky a cy n lit h t s g kn lo lf nm ++ R)) "java/lang/IndexOutOfBoundsException" ((wXo b cy (a 0) r nx sn ln sv kp ik bf ++ wRd r kd hg nu dg ng tk) ++ (wSky a cy n lit h t s g kn lo lf nm ++ R)) := by
  refine kE_of (cc := cX3_layerOf) (maxL := 3) (rt := .int) rfl (by decide) rfl (Nat.le_of_ble_eq_true rfl) (by decide) ?_
  intro X hR C Z E
  have C : kC X 3 RX3 cX3_layerOf wsX3_layerOf cy := C
  refine k_fr (fr2 := [(0, .ref (b 0)), (1, .int x), (2, .int y)]) ⟨[0, 1, 2], rfl⟩ ?_
  refine k_aload_n (q := 1) C 0 dX3_layerOf_0 rfl rfl ?_
  refine k_get (q := 4) (ci := 3) (v := .ref (a 0)) C 0 0 in3_X3_layerOf rfl (List.mem_of_getElem? (i := 5) rfl) rfl rfl (by decide) rfl dX3_layerOf_1 rfl ?_
  refine k_iload_n (q := 5) C 1 dX3_layerOf_4 rfl rfl ?_
  refine k_callVI (n := 1) (q := 8) (pre := (wXo b cy (a 0) r nx sn ln sv kp ik bf ++ wRd r kd hg nu dg ng tk)) (post := R) (w2 := ((wXo b cy (a 0) r nx sn ln sv kp ik bf ++ wRd r kd hg nu dg ng tk) ++ (wSky a cy n lit h t s g kn lo lf nm ++ R))) (As := [.int x]) (rest := []) C (c_X2_hasLayer cy a n lit h t s g kn lo lf nm x) gX3_layerOf_X2_hasLayer rfl rfl rfl (by decide +kernel) (k_room hR (by decide)) ⟨Nat.zero_le _, Nat.zero_le _⟩ (ci := 2) rfl 0 rfl rfl rfl (Nat.le_of_ble_eq_true rfl) (rfl) (rfl) dX3_layerOf_5 rfl ?_
  refine k_ifB_ne (tgt := 21) (q := 11) C dX3_layerOf_8 (by decide) rfl ?_ ?_
  · exact fun c_8 => absurd c_8 hx
  · intro c_8
    exact k_thr (text := _) E (rfl) zC (List.mem_of_getElem? (i := 1) rfl) (List.mem_of_getElem? (i := 2) rfl) (fun _ h => (List.mem_cons_of_mem _ (List.mem_append_left _ (List.mem_append_right _ h)))) (List.mem_of_getElem? (i := 2) rfl) dX3_layerOf_11 dX3_layerOf_14 dX3_layerOf_15 dX3_layerOf_17 dX3_layerOf_20
set_option maxHeartbeats 4000000 in
set_option maxRecDepth 100000 in
theorem c_X3_layerOf_e2 (cy : Nat → ClassId) (a : Nat → Nat) (b : Nat → Nat) (r : Nat) (nx : Nat) (sn : Nat) (ln : Nat) (sv : Nat → Option Nat) (kp : Nat → Option Nat) (ik : Nat → Int32) (bf : Nat → Nat) (kd : Nat) (hg : Nat) (nu : Nat) (dg : Nat) (ng : Bool) (tk : Bool) (n : Nat) (lit : Int32) (h : Nat → Int32) (t : Nat → Int32) (s : Nat → Int32) (g : Nat → Int32) (kn : Nat) (lo : Int32) (lf : Int32) (nm : Nat → Int32) (R : va_W) (p : Nat) (y : Int32)  (hn : n ≤ 6) (hp : p < n) (hy : ¬ (0 ≤ y ∧ y ≤ 3)) : kE yX3_layerOf wsX3_layerOf rmE_X3_layerOf cy [.ref (b 0), .int (nI p), .int y] ((wXo b cy (a 0) r nx sn ln sv kp ik bf ++ wRd r kd hg nu dg ng tk) ++ (wSky a cy n lit h t s g kn lo lf nm ++ R)) "java/lang/IllegalArgumentException" ((wXo b cy (a 0) r nx sn ln sv kp ik bf ++ wRd r kd hg nu dg ng tk) ++ (wSky a cy n lit h t s g kn lo lf nm ++ R)) := by
  refine kE_of (cc := cX3_layerOf) (maxL := 3) (rt := .int) rfl (by decide) rfl (Nat.le_of_ble_eq_true rfl) (by decide) ?_
  intro X hR C Z E
  have C : kC X 3 RX3 cX3_layerOf wsX3_layerOf cy := C
  refine k_fr (fr2 := [(0, .ref (b 0)), (1, .int (nI p)), (2, .int y)]) ⟨[0, 1, 2], rfl⟩ ?_
  refine k_aload_n (q := 1) C 0 dX3_layerOf_0 rfl rfl ?_
  refine k_get (q := 4) (ci := 3) (v := .ref (a 0)) C 0 0 in3_X3_layerOf rfl (List.mem_of_getElem? (i := 5) rfl) rfl rfl (by decide) rfl dX3_layerOf_1 rfl ?_
  refine k_iload_n (q := 5) C 1 dX3_layerOf_4 rfl rfl ?_
  refine k_callVI (n := 1) (q := 8) (pre := (wXo b cy (a 0) r nx sn ln sv kp ik bf ++ wRd r kd hg nu dg ng tk)) (post := R) (w2 := ((wXo b cy (a 0) r nx sn ln sv kp ik bf ++ wRd r kd hg nu dg ng tk) ++ (wSky a cy n lit h t s g kn lo lf nm ++ R))) (As := [.int (nI p)]) (rest := []) C (c_X2_hasLayer cy a n lit h t s g kn lo lf nm (nI p)) gX3_layerOf_X2_hasLayer rfl rfl rfl (by decide +kernel) (k_room hR (by decide)) ⟨Nat.zero_le _, Nat.zero_le _⟩ (ci := 2) rfl 0 rfl rfl rfl (Nat.le_of_ble_eq_true rfl) (rfl) (rfl) dX3_layerOf_5 rfl ?_
  refine k_ifB_ne (tgt := 21) (q := 11) C dX3_layerOf_8 (by decide) rfl ?_ ?_
  · intro c_8
    refine k_iload_n (q := 22) C 2 dX3_layerOf_21 rfl rfl ?_
    by_cases s_22_0 : y = 0
    · exact absurd s_22_0 (fun _ => hy ⟨by rw [s_22_0]; decide, by rw [s_22_0]; decide⟩)
    by_cases s_22_1 : y = 1
    · exact absurd s_22_1 (fun _ => hy ⟨by rw [s_22_1]; decide, by rw [s_22_1]; decide⟩)
    by_cases s_22_2 : y = 2
    · exact absurd s_22_2 (fun _ => hy ⟨by rw [s_22_2]; decide, by rw [s_22_2]; decide⟩)
    by_cases s_22_3 : y = 3
    · exact absurd s_22_3 (fun _ => hy ⟨by rw [s_22_3]; decide, by rw [s_22_3]; decide⟩)
    refine k_tabOut (q := 114) C dX3_layerOf_22 (by have t_0 := lv_neT (a := 0) s_22_0 (by decide +kernel); have t_1 := lv_neT (a := 1) s_22_1 (by decide +kernel); have t_2 := lv_neT (a := 2) s_22_2 (by decide +kernel); have t_3 := lv_neT (a := 3) s_22_3 (by decide +kernel); omega) (by decide) ?_
    exact k_thr (text := _) E (rfl) zA (List.mem_of_getElem? (i := 3) rfl) (List.mem_of_getElem? (i := 4) rfl) (fun _ h => (List.mem_cons_of_mem _ (List.mem_append_right _ h))) (List.mem_of_getElem? (i := 15) rfl) dX3_layerOf_114 dX3_layerOf_117 dX3_layerOf_118 dX3_layerOf_120 dX3_layerOf_123
  · exact fun c_8 => absurd ⟨nI_pos' (by omega), nI_lt hp (by omega)⟩ c_8
abbrev rmE_X3_spot : Room := { frames := 6, cells := 1, slots := 6, locals := 82 }
set_option maxHeartbeats 4000000 in
set_option maxRecDepth 100000 in
theorem c_X3_spot_e (cy : Nat → ClassId) (a : Nat → Nat) (b : Nat → Nat) (r : Nat) (nx : Nat) (sn : Nat) (ln : Nat) (sv : Nat → Option Nat) (kp : Nat → Option Nat) (ik : Nat → Int32) (bf : Nat → Nat) (kd : Nat) (hg : Nat) (nu : Nat) (dg : Nat) (ng : Bool) (tk : Bool) (n : Nat) (lit : Int32) (h : Nat → Int32) (t : Nat → Int32) (s : Nat → Int32) (g : Nat → Int32) (kn : Nat) (lo : Int32) (lf : Int32) (nm : Nat → Int32) (R : va_W) (x : Int32) (y : Int32) (z : Int32)  (hx : ¬ ((0 ≤ x ∧ x ≤ 1) ∧ (0 ≤ y ∧ y < nI n))) : kE yX3_spot wsX3_spot rmE_X3_spot cy [.ref (b 0), .int x, .int y, .int z] ((wXo b cy (a 0) r nx sn ln sv kp ik bf ++ wRd r kd hg nu dg ng tk) ++ (wSky a cy n lit h t s g kn lo lf nm ++ R)) "java/lang/IndexOutOfBoundsException" ((wXo b cy (a 0) r nx sn ln sv kp ik bf ++ wRd r kd hg nu dg ng tk) ++ (wSky a cy n lit h t s g kn lo lf nm ++ R)) := by
  refine kE_of (cc := cX3_spot) (maxL := 4) (rt := .int) rfl (by decide) rfl (Nat.le_of_ble_eq_true rfl) (by decide) ?_
  intro X hR C Z E
  have C : kC X 4 RX3 cX3_spot wsX3_spot cy := C
  refine k_fr (fr2 := [(0, .ref (b 0)), (1, .int x), (2, .int y), (3, .int z)]) ⟨[0, 1, 2, 3], rfl⟩ ?_
  refine k_iload_n (q := 1) C 1 dX3_spot_0 rfl rfl ?_
  refine k_callSI (n := 1) (q := 4) (pre := ([] : va_W)) (post := ((wXo b cy (a 0) r nx sn ln sv kp ik bf ++ wRd r kd hg nu dg ng tk) ++ (wSky a cy n lit h t s g kn lo lf nm ++ R))) (w2 := ((wXo b cy (a 0) r nx sn ln sv kp ik bf ++ wRd r kd hg nu dg ng tk) ++ (wSky a cy n lit h t s g kn lo lf nm ++ R))) (As := [.int x]) (rest := []) C (c_X3_isLight x) gX3_spot_X3_isLight rfl rfl rfl (by decide +kernel) (k_room hR (by decide)) ⟨Nat.zero_le _, Nat.zero_le _⟩  rfl rfl (Nat.le_of_ble_eq_true rfl) (rfl) (rfl) dX3_spot_1 rfl ?_
  refine k_ifB_eq (tgt := 18) (q := 7) C dX3_spot_4 (by decide) rfl ?_ ?_
  · intro c_4
    exact k_thr (text := _) E (rfl) zC (List.mem_of_getElem? (i := 1) rfl) (List.mem_of_getElem? (i := 2) rfl) (fun _ h => (List.mem_cons_of_mem _ (List.mem_append_left _ (List.mem_append_right _ h)))) (List.mem_of_getElem? (i := 8) rfl) dX3_spot_18 dX3_spot_21 dX3_spot_22 dX3_spot_24 dX3_spot_27
  · intro c_4
    refine k_aload_n (q := 8) C 0 dX3_spot_7 rfl rfl ?_
    refine k_get (q := 11) (ci := 3) (v := .ref (a 0)) C 0 0 in3_X3_spot rfl (List.mem_of_getElem? (i := 5) rfl) rfl rfl (by decide) rfl dX3_spot_8 rfl ?_
    refine k_iload_n (q := 12) C 2 dX3_spot_11 rfl rfl ?_
    refine k_callVI (n := 1) (q := 15) (pre := (wXo b cy (a 0) r nx sn ln sv kp ik bf ++ wRd r kd hg nu dg ng tk)) (post := R) (w2 := ((wXo b cy (a 0) r nx sn ln sv kp ik bf ++ wRd r kd hg nu dg ng tk) ++ (wSky a cy n lit h t s g kn lo lf nm ++ R))) (As := [.int y]) (rest := []) C (c_X2_hasLayer cy a n lit h t s g kn lo lf nm y) gX3_spot_X2_hasLayer rfl rfl rfl (by decide +kernel) (k_room hR (by decide)) ⟨Nat.zero_le _, Nat.zero_le _⟩ (ci := 2) rfl 0 rfl rfl rfl (Nat.le_of_ble_eq_true rfl) (rfl) (rfl) dX3_spot_12 rfl ?_
    refine k_ifB_ne (tgt := 28) (q := 18) C dX3_spot_15 (by decide) rfl ?_ ?_
    · exact fun c_15 => absurd ⟨c_4, c_15⟩ hx
    · intro c_15
      exact k_thr (text := _) E (rfl) zC (List.mem_of_getElem? (i := 1) rfl) (List.mem_of_getElem? (i := 2) rfl) (fun _ h => (List.mem_cons_of_mem _ (List.mem_append_left _ (List.mem_append_right _ h)))) (List.mem_of_getElem? (i := 8) rfl) dX3_spot_18 dX3_spot_21 dX3_spot_22 dX3_spot_24 dX3_spot_27
set_option maxHeartbeats 4000000 in
set_option maxRecDepth 100000 in
theorem c_X3_spot_e2 (cy : Nat → ClassId) (a : Nat → Nat) (b : Nat → Nat) (r : Nat) (nx : Nat) (sn : Nat) (ln : Nat) (sv : Nat → Option Nat) (kp : Nat → Option Nat) (ik : Nat → Int32) (bf : Nat → Nat) (kd : Nat) (hg : Nat) (nu : Nat) (dg : Nat) (ng : Bool) (tk : Bool) (n : Nat) (lit : Int32) (h : Nat → Int32) (t : Nat → Int32) (s : Nat → Int32) (g : Nat → Int32) (kn : Nat) (lo : Int32) (lf : Int32) (nm : Nat → Int32) (R : va_W) (j : Nat) (p : Nat) (z : Int32)  (hn : n ≤ 6) (hj : j < 2) (hp : p < n) (hz : ¬ (0 ≤ z ∧ z ≤ 4)) : kE yX3_spot wsX3_spot rmE_X3_spot cy [.ref (b 0), .int (nI j), .int (nI p), .int z] ((wXo b cy (a 0) r nx sn ln sv kp ik bf ++ wRd r kd hg nu dg ng tk) ++ (wSky a cy n lit h t s g kn lo lf nm ++ R)) "java/lang/IllegalArgumentException" ((wXo b cy (a 0) r nx sn ln sv kp ik bf ++ wRd r kd hg nu dg ng tk) ++ (wSky a cy n lit h t s g kn lo lf nm ++ R)) := by
  refine kE_of (cc := cX3_spot) (maxL := 4) (rt := .int) rfl (by decide) rfl (Nat.le_of_ble_eq_true rfl) (by decide) ?_
  intro X hR C Z E
  have C : kC X 4 RX3 cX3_spot wsX3_spot cy := C
  refine k_fr (fr2 := [(0, .ref (b 0)), (1, .int (nI j)), (2, .int (nI p)), (3, .int z)]) ⟨[0, 1, 2, 3], rfl⟩ ?_
  refine k_iload_n (q := 1) C 1 dX3_spot_0 rfl rfl ?_
  refine k_callSI (n := 1) (q := 4) (pre := ([] : va_W)) (post := ((wXo b cy (a 0) r nx sn ln sv kp ik bf ++ wRd r kd hg nu dg ng tk) ++ (wSky a cy n lit h t s g kn lo lf nm ++ R))) (w2 := ((wXo b cy (a 0) r nx sn ln sv kp ik bf ++ wRd r kd hg nu dg ng tk) ++ (wSky a cy n lit h t s g kn lo lf nm ++ R))) (As := [.int (nI j)]) (rest := []) C (c_X3_isLight (nI j)) gX3_spot_X3_isLight rfl rfl rfl (by decide +kernel) (k_room hR (by decide)) ⟨Nat.zero_le _, Nat.zero_le _⟩  rfl rfl (Nat.le_of_ble_eq_true rfl) (rfl) (rfl) dX3_spot_1 rfl ?_
  refine k_ifB_eq (tgt := 18) (q := 7) C dX3_spot_4 (by decide) rfl ?_ ?_
  · exact fun c_4 => absurd (mSlot hj) c_4
  · intro c_4
    refine k_aload_n (q := 8) C 0 dX3_spot_7 rfl rfl ?_
    refine k_get (q := 11) (ci := 3) (v := .ref (a 0)) C 0 0 in3_X3_spot rfl (List.mem_of_getElem? (i := 5) rfl) rfl rfl (by decide) rfl dX3_spot_8 rfl ?_
    refine k_iload_n (q := 12) C 2 dX3_spot_11 rfl rfl ?_
    refine k_callVI (n := 1) (q := 15) (pre := (wXo b cy (a 0) r nx sn ln sv kp ik bf ++ wRd r kd hg nu dg ng tk)) (post := R) (w2 := ((wXo b cy (a 0) r nx sn ln sv kp ik bf ++ wRd r kd hg nu dg ng tk) ++ (wSky a cy n lit h t s g kn lo lf nm ++ R))) (As := [.int (nI p)]) (rest := []) C (c_X2_hasLayer cy a n lit h t s g kn lo lf nm (nI p)) gX3_spot_X2_hasLayer rfl rfl rfl (by decide +kernel) (k_room hR (by decide)) ⟨Nat.zero_le _, Nat.zero_le _⟩ (ci := 2) rfl 0 rfl rfl rfl (Nat.le_of_ble_eq_true rfl) (rfl) (rfl) dX3_spot_12 rfl ?_
    refine k_ifB_ne (tgt := 28) (q := 18) C dX3_spot_15 (by decide) rfl ?_ ?_
    · intro c_15
      refine k_iload_n (q := 29) C 3 dX3_spot_28 rfl rfl ?_
      refine k_if_lt (tgt := 37) (q := 32) C dX3_spot_29 (by decide) rfl ?_ ?_
      · intro c_29
        exact k_thr (text := _) E (rfl) zA (List.mem_of_getElem? (i := 3) rfl) (List.mem_of_getElem? (i := 4) rfl) (fun _ h => (List.mem_cons_of_mem _ (List.mem_append_right _ h))) (List.mem_of_getElem? (i := 16) rfl) dX3_spot_37 dX3_spot_40 dX3_spot_41 dX3_spot_43 dX3_spot_46
      · intro c_29
        refine k_iload_n (q := 33) C 3 dX3_spot_32 rfl rfl ?_
        refine k_iconst (q := 34) (v := 4) C dX3_spot_33 (by decide) rfl ?_
        refine k_icmp_le (tgt := 47) (q := 37) C dX3_spot_34 (by decide) rfl ?_ ?_
        · exact fun c_34 => absurd ⟨Int32.not_lt.mp c_29, c_34⟩ hz
        · intro c_34
          exact k_thr (text := _) E (rfl) zA (List.mem_of_getElem? (i := 3) rfl) (List.mem_of_getElem? (i := 4) rfl) (fun _ h => (List.mem_cons_of_mem _ (List.mem_append_right _ h))) (List.mem_of_getElem? (i := 16) rfl) dX3_spot_37 dX3_spot_40 dX3_spot_41 dX3_spot_43 dX3_spot_46
    · exact fun c_15 => absurd ⟨nI_pos' (by omega), nI_lt hp (by omega)⟩ c_15
abbrev rmE_X3_reading : Room := { frames := 6, cells := 1, slots := 6, locals := 100 }
set_option maxHeartbeats 4000000 in
set_option maxRecDepth 100000 in
theorem c_X3_reading_e (cy : Nat → ClassId) (a : Nat → Nat) (b : Nat → Nat) (r : Nat) (nx : Nat) (sn : Nat) (ln : Nat) (sv : Nat → Option Nat) (kp : Nat → Option Nat) (ik : Nat → Int32) (bf : Nat → Nat) (kd : Nat) (hg : Nat) (nu : Nat) (dg : Nat) (ng : Bool) (tk : Bool) (n : Nat) (lit : Int32) (h : Nat → Int32) (t : Nat → Int32) (s : Nat → Int32) (g : Nat → Int32) (kn : Nat) (lo : Int32) (lf : Int32) (nm : Nat → Int32) (R : va_W) (x : Int32)  (hx : ¬ (0 ≤ x ∧ x ≤ 3)) : kE yX3_reading wsX3_reading rmE_X3_reading cy [.ref (b 0), .int x] ((wXo b cy (a 0) r nx sn ln sv kp ik bf ++ wRd r kd hg nu dg ng tk) ++ (wSky a cy n lit h t s g kn lo lf nm ++ R)) "java/lang/IllegalArgumentException" ((wXo b cy (a 0) r nx sn ln sv kp ik bf ++ wRd r kd hg nu dg ng tk) ++ (wSky a cy n lit h t s g kn lo lf nm ++ R)) := by
  refine kE_of (cc := cX3_reading) (maxL := 2) (rt := .int) rfl (by decide) rfl (Nat.le_of_ble_eq_true rfl) (by decide) ?_
  intro X hR C Z E
  have C : kC X 2 RX3 cX3_reading wsX3_reading cy := C
  refine k_fr (fr2 := [(0, .ref (b 0)), (1, .int x)]) ⟨[0, 1], rfl⟩ ?_
  refine k_iload_n (q := 1) C 1 dX3_reading_0 rfl rfl ?_
  refine k_if_lt (tgt := 9) (q := 4) C dX3_reading_1 (by decide) rfl ?_ ?_
  · intro c_1
    exact k_thr (text := _) E (rfl) zA (List.mem_of_getElem? (i := 1) rfl) (List.mem_of_getElem? (i := 2) rfl) (fun _ h => (List.mem_cons_of_mem _ (List.mem_append_right _ h))) (List.mem_of_getElem? (i := 15) rfl) dX3_reading_9 dX3_reading_12 dX3_reading_13 dX3_reading_15 dX3_reading_18
  · intro c_1
    refine k_iload_n (q := 5) C 1 dX3_reading_4 rfl rfl ?_
    refine k_iconst (q := 6) (v := 3) C dX3_reading_5 (by decide) rfl ?_
    refine k_icmp_le (tgt := 19) (q := 9) C dX3_reading_6 (by decide) rfl ?_ ?_
    · exact fun c_6 => absurd ⟨Int32.not_lt.mp c_1, c_6⟩ hx
    · intro c_6
      exact k_thr (text := _) E (rfl) zA (List.mem_of_getElem? (i := 1) rfl) (List.mem_of_getElem? (i := 2) rfl) (fun _ h => (List.mem_cons_of_mem _ (List.mem_append_right _ h))) (List.mem_of_getElem? (i := 15) rfl) dX3_reading_9 dX3_reading_12 dX3_reading_13 dX3_reading_15 dX3_reading_18
abbrev rmE_X3_night : Room := { frames := 6, cells := 1, slots := 6, locals := 82 }
set_option maxHeartbeats 4000000 in
set_option maxRecDepth 100000 in
theorem c_X3_night_e (cy : Nat → ClassId) (a : Nat → Nat) (b : Nat → Nat) (r : Nat) (nx : Nat) (sn : Nat) (ln : Nat) (sv : Nat → Option Nat) (kp : Nat → Option Nat) (ik : Nat → Int32) (bf : Nat → Nat) (kd : Nat) (hg : Nat) (nu : Nat) (dg : Nat) (ng : Bool) (tk : Bool) (n : Nat) (lit : Int32) (h : Nat → Int32) (t : Nat → Int32) (s : Nat → Int32) (g : Nat → Int32) (kn : Nat) (lo : Int32) (lf : Int32) (nm : Nat → Int32) (R : va_W) (x : Int32) (y : Int32)  (hx : x < 0 ∨ ¬ (0 ≤ y ∧ y ≤ 3)) : kE yX3_night wsX3_night rmE_X3_night cy [.ref (b 0), .int x, .int y] ((wXo b cy (a 0) r nx sn ln sv kp ik bf ++ wRd r kd hg nu dg ng tk) ++ (wSky a cy n lit h t s g kn lo lf nm ++ R)) "java/lang/IllegalArgumentException" ((wXo b cy (a 0) r nx sn ln sv kp ik bf ++ wRd r kd hg nu dg ng tk) ++ (wSky a cy n lit h t s g kn lo lf nm ++ R)) := by
  refine kE_of (cc := cX3_night) (maxL := 3) (rt := .int) rfl (by decide) rfl (Nat.le_of_ble_eq_true rfl) (by decide) ?_
  intro X hR C Z E
  have C : kC X 3 RX3 cX3_night wsX3_night cy := C
  refine k_fr (fr2 := [(0, .ref (b 0)), (1, .int x), (2, .int y)]) ⟨[0, 1, 2], rfl⟩ ?_
  refine k_iload_n (q := 1) C 1 dX3_night_0 rfl rfl ?_
  refine k_if_lt (tgt := 13) (q := 4) C dX3_night_1 (by decide) rfl ?_ ?_
  · intro c_1
    exact k_thr (text := _) E (rfl) zA (List.mem_of_getElem? (i := 1) rfl) (List.mem_of_getElem? (i := 2) rfl) (fun _ h => (List.mem_cons_of_mem _ (List.mem_append_right _ h))) (List.mem_of_getElem? (i := 17) rfl) dX3_night_13 dX3_night_16 dX3_night_17 dX3_night_19 dX3_night_22
  · intro c_1
    refine k_iload_n (q := 5) C 2 dX3_night_4 rfl rfl ?_
    refine k_if_lt (tgt := 13) (q := 8) C dX3_night_5 (by decide) rfl ?_ ?_
    · intro c_5
      exact k_thr (text := _) E (rfl) zA (List.mem_of_getElem? (i := 1) rfl) (List.mem_of_getElem? (i := 2) rfl) (fun _ h => (List.mem_cons_of_mem _ (List.mem_append_right _ h))) (List.mem_of_getElem? (i := 17) rfl) dX3_night_13 dX3_night_16 dX3_night_17 dX3_night_19 dX3_night_22
    · intro c_5
      refine k_iload_n (q := 9) C 2 dX3_night_8 rfl rfl ?_
      refine k_iconst (q := 10) (v := 4) C dX3_night_9 (by decide) rfl ?_
      refine k_icmp_lt (tgt := 23) (q := 13) C dX3_night_10 (by decide) rfl ?_ ?_
      · exact fun c_10 => (hx.elim c_1 (fun q => q ⟨Int32.not_lt.mp c_5, i_4lt c_10⟩)).elim
      · intro c_10
        exact k_thr (text := _) E (rfl) zA (List.mem_of_getElem? (i := 1) rfl) (List.mem_of_getElem? (i := 2) rfl) (fun _ h => (List.mem_cons_of_mem _ (List.mem_append_right _ h))) (List.mem_of_getElem? (i := 17) rfl) dX3_night_13 dX3_night_16 dX3_night_17 dX3_night_19 dX3_night_22
abbrev rmE_X3_count : Room := { frames := 6, cells := 1, slots := 6, locals := 134 }
set_option maxHeartbeats 4000000 in
set_option maxRecDepth 100000 in
theorem c_X3_count_e (cy : Nat → ClassId) (a : Nat → Nat) (b : Nat → Nat) (r : Nat) (nx : Nat) (sn : Nat) (ln : Nat) (sv : Nat → Option Nat) (kp : Nat → Option Nat) (ik : Nat → Int32) (bf : Nat → Nat) (kd : Nat) (hg : Nat) (nu : Nat) (dg : Nat) (ng : Bool) (tk : Bool) (n : Nat) (lit : Int32) (h : Nat → Int32) (t : Nat → Int32) (s : Nat → Int32) (g : Nat → Int32) (kn : Nat) (lo : Int32) (lf : Int32) (nm : Nat → Int32) (R : va_W) (x : Int32)  (hy : ¬ (0 ≤ x ∧ x ≤ 16)) : kE yX3_count wsX3_count rmE_X3_count cy [.ref (b 0), .int x] ((wXo b cy (a 0) r nx sn ln sv kp ik bf ++ wRd r kd hg nu dg ng tk) ++ (wSky a cy n lit h t s g kn lo lf nm ++ R)) "java/lang/IllegalArgumentException" ((wXo b cy (a 0) r nx sn ln sv kp ik bf ++ wRd r kd hg nu dg ng tk) ++ (wSky a cy n lit h t s g kn lo lf nm ++ R)) := by
  refine kE_of (cc := cX3_count) (maxL := 2) (rt := .int) rfl (by decide) rfl (Nat.le_of_ble_eq_true rfl) (by decide) ?_
  intro X hR C Z E
  have C : kC X 2 RX3 cX3_count wsX3_count cy := C
  refine k_fr (fr2 := [(0, .ref (b 0)), (1, .int x)]) ⟨[0, 1], rfl⟩ ?_
  refine k_iload_n (q := 1) C 1 dX3_count_0 rfl rfl ?_
  by_cases s_1_0 : x = 0
  · exact absurd s_1_0 (fun _ => hy ⟨by rw [s_1_0]; decide, by rw [s_1_0]; decide⟩)
  by_cases s_1_1 : x = 1
  · exact absurd s_1_1 (fun _ => hy ⟨by rw [s_1_1]; decide, by rw [s_1_1]; decide⟩)
  by_cases s_1_2 : x = 2
  · exact absurd s_1_2 (fun _ => hy ⟨by rw [s_1_2]; decide, by rw [s_1_2]; decide⟩)
  by_cases s_1_3 : x = 3
  · exact absurd s_1_3 (fun _ => hy ⟨by rw [s_1_3]; decide, by rw [s_1_3]; decide⟩)
  by_cases s_1_4 : x = 4
  · exact absurd s_1_4 (fun _ => hy ⟨by rw [s_1_4]; decide, by rw [s_1_4]; decide⟩)
  by_cases s_1_5 : x = 5
  · exact absurd s_1_5 (fun _ => hy ⟨by rw [s_1_5]; decide, by rw [s_1_5]; decide⟩)
  by_cases s_1_6 : x = 6
  · exact absurd s_1_6 (fun _ => hy ⟨by rw [s_1_6]; decide, by rw [s_1_6]; decide⟩)
  by_cases s_1_7 : x = 7
  · exact absurd s_1_7 (fun _ => hy ⟨by rw [s_1_7]; decide, by rw [s_1_7]; decide⟩)
  by_cases s_1_8 : x = 8
  · exact absurd s_1_8 (fun _ => hy ⟨by rw [s_1_8]; decide, by rw [s_1_8]; decide⟩)
  by_cases s_1_9 : x = 9
  · exact absurd s_1_9 (fun _ => hy ⟨by rw [s_1_9]; decide, by rw [s_1_9]; decide⟩)
  by_cases s_1_10 : x = 10
  · exact absurd s_1_10 (fun _ => hy ⟨by rw [s_1_10]; decide, by rw [s_1_10]; decide⟩)
  by_cases s_1_11 : x = 11
  · exact absurd s_1_11 (fun _ => hy ⟨by rw [s_1_11]; decide, by rw [s_1_11]; decide⟩)
  by_cases s_1_12 : x = 12
  · exact absurd s_1_12 (fun _ => hy ⟨by rw [s_1_12]; decide, by rw [s_1_12]; decide⟩)
  by_cases s_1_13 : x = 13
  · exact absurd s_1_13 (fun _ => hy ⟨by rw [s_1_13]; decide, by rw [s_1_13]; decide⟩)
  by_cases s_1_14 : x = 14
  · exact absurd s_1_14 (fun _ => hy ⟨by rw [s_1_14]; decide, by rw [s_1_14]; decide⟩)
  by_cases s_1_15 : x = 15
  · exact absurd s_1_15 (fun _ => hy ⟨by rw [s_1_15]; decide, by rw [s_1_15]; decide⟩)
  by_cases s_1_16 : x = 16
  · exact absurd s_1_16 (fun _ => hy ⟨by rw [s_1_16]; decide, by rw [s_1_16]; decide⟩)
  refine k_tabOut (q := 265) C dX3_count_1 (by have t_0 := lv_neT (a := 0) s_1_0 (by decide +kernel); have t_1 := lv_neT (a := 1) s_1_1 (by decide +kernel); have t_2 := lv_neT (a := 2) s_1_2 (by decide +kernel); have t_3 := lv_neT (a := 3) s_1_3 (by decide +kernel); have t_4 := lv_neT (a := 4) s_1_4 (by decide +kernel); have t_5 := lv_neT (a := 5) s_1_5 (by decide +kernel); have t_6 := lv_neT (a := 6) s_1_6 (by decide +kernel); have t_7 := lv_neT (a := 7) s_1_7 (by decide +kernel); have t_8 := lv_neT (a := 8) s_1_8 (by decide +kernel); have t_9 := lv_neT (a := 9) s_1_9 (by decide +kernel); have t_10 := lv_neT (a := 10) s_1_10 (by decide +kernel); have t_11 := lv_neT (a := 11) s_1_11 (by decide +kernel); have t_12 := lv_neT (a := 12) s_1_12 (by decide +kernel); have t_13 := lv_neT (a := 13) s_1_13 (by decide +kernel); have t_14 := lv_neT (a := 14) s_1_14 (by decide +kernel); have t_15 := lv_neT (a := 15) s_1_15 (by decide +kernel); have t_16 := lv_neT (a := 16) s_1_16 (by decide +kernel); omega) (by decide) ?_
  exact k_thr (text := _) E (rfl) zA (List.mem_of_getElem? (i := 1) rfl) (List.mem_of_getElem? (i := 2) rfl) (fun _ h => (List.mem_cons_of_mem _ (List.mem_append_right _ h))) (List.mem_of_getElem? (i := 18) rfl) dX3_count_265 dX3_count_268 dX3_count_269 dX3_count_271 dX3_count_274
abbrev rmE_X3_nearest : Room := { frames := 6, cells := 1, slots := 6, locals := 82 }
set_option maxHeartbeats 4000000 in
set_option maxRecDepth 100000 in
theorem c_X3_nearest_e (cy : Nat → ClassId) (a : Nat → Nat) (b : Nat → Nat) (r : Nat) (nx : Nat) (sn : Nat) (ln : Nat) (sv : Nat → Option Nat) (kp : Nat → Option Nat) (ik : Nat → Int32) (bf : Nat → Nat) (kd : Nat) (hg : Nat) (nu : Nat) (dg : Nat) (ng : Bool) (tk : Bool) (n : Nat) (lit : Int32) (h : Nat → Int32) (t : Nat → Int32) (s : Nat → Int32) (g : Nat → Int32) (kn : Nat) (lo : Int32) (lf : Int32) (nm : Nat → Int32) (R : va_W) (x : Int32) (y : Int32) (z : Int32)  (hx : ¬ ((0 ≤ x ∧ x ≤ 1) ∧ (0 ≤ y ∧ y < nI n))) : kE yX3_nearest wsX3_nearest rmE_X3_nearest cy [.ref (b 0), .int x, .int y, .int z] ((wXo b cy (a 0) r nx sn ln sv kp ik bf ++ wRd r kd hg nu dg ng tk) ++ (wSky a cy n lit h t s g kn lo lf nm ++ R)) "java/lang/IndexOutOfBoundsException" ((wXo b cy (a 0) r nx sn ln sv kp ik bf ++ wRd r kd hg nu dg ng tk) ++ (wSky a cy n lit h t s g kn lo lf nm ++ R)) := by
  refine kE_of (cc := cX3_nearest) (maxL := 5) (rt := .int) rfl (by decide) rfl (Nat.le_of_ble_eq_true rfl) (by decide) ?_
  intro X hR C Z E
  have C : kC X 5 RX3 cX3_nearest wsX3_nearest cy := C
  refine k_fr (fr2 := [(0, .ref (b 0)), (1, .int x), (2, .int y), (3, .int z)]) ⟨[0, 1, 2, 3], rfl⟩ ?_
  refine k_iload_n (q := 1) C 1 dX3_nearest_0 rfl rfl ?_
  refine k_callSI (n := 1) (q := 4) (pre := ([] : va_W)) (post := ((wXo b cy (a 0) r nx sn ln sv kp ik bf ++ wRd r kd hg nu dg ng tk) ++ (wSky a cy n lit h t s g kn lo lf nm ++ R))) (w2 := ((wXo b cy (a 0) r nx sn ln sv kp ik bf ++ wRd r kd hg nu dg ng tk) ++ (wSky a cy n lit h t s g kn lo lf nm ++ R))) (As := [.int x]) (rest := []) C (c_X3_isLight x) gX3_nearest_X3_isLight rfl rfl rfl (by decide +kernel) (k_room hR (by decide)) ⟨Nat.zero_le _, Nat.zero_le _⟩  rfl rfl (Nat.le_of_ble_eq_true rfl) (rfl) (rfl) dX3_nearest_1 rfl ?_
  refine k_ifB_eq (tgt := 18) (q := 7) C dX3_nearest_4 (by decide) rfl ?_ ?_
  · intro c_4
    exact k_thr (text := _) E (rfl) zC (List.mem_of_getElem? (i := 1) rfl) (List.mem_of_getElem? (i := 2) rfl) (fun _ h => (List.mem_cons_of_mem _ (List.mem_append_left _ (List.mem_append_right _ h)))) (List.mem_of_getElem? (i := 8) rfl) dX3_nearest_18 dX3_nearest_21 dX3_nearest_22 dX3_nearest_24 dX3_nearest_27
  · intro c_4
    refine k_aload_n (q := 8) C 0 dX3_nearest_7 rfl rfl ?_
    refine k_get (q := 11) (ci := 3) (v := .ref (a 0)) C 0 0 in3_X3_nearest rfl (List.mem_of_getElem? (i := 5) rfl) rfl rfl (by decide) rfl dX3_nearest_8 rfl ?_
    refine k_iload_n (q := 12) C 2 dX3_nearest_11 rfl rfl ?_
    refine k_callVI (n := 1) (q := 15) (pre := (wXo b cy (a 0) r nx sn ln sv kp ik bf ++ wRd r kd hg nu dg ng tk)) (post := R) (w2 := ((wXo b cy (a 0) r nx sn ln sv kp ik bf ++ wRd r kd hg nu dg ng tk) ++ (wSky a cy n lit h t s g kn lo lf nm ++ R))) (As := [.int y]) (rest := []) C (c_X2_hasLayer cy a n lit h t s g kn lo lf nm y) gX3_nearest_X2_hasLayer rfl rfl rfl (by decide +kernel) (k_room hR (by decide)) ⟨Nat.zero_le _, Nat.zero_le _⟩ (ci := 2) rfl 0 rfl rfl rfl (Nat.le_of_ble_eq_true rfl) (rfl) (rfl) dX3_nearest_12 rfl ?_
    refine k_ifB_ne (tgt := 28) (q := 18) C dX3_nearest_15 (by decide) rfl ?_ ?_
    · exact fun c_15 => absurd ⟨c_4, c_15⟩ hx
    · intro c_15
      exact k_thr (text := _) E (rfl) zC (List.mem_of_getElem? (i := 1) rfl) (List.mem_of_getElem? (i := 2) rfl) (fun _ h => (List.mem_cons_of_mem _ (List.mem_append_left _ (List.mem_append_right _ h)))) (List.mem_of_getElem? (i := 8) rfl) dX3_nearest_18 dX3_nearest_21 dX3_nearest_22 dX3_nearest_24 dX3_nearest_27
set_option maxHeartbeats 4000000 in
set_option maxRecDepth 100000 in
theorem c_X3_nearest_e2 (cy : Nat → ClassId) (a : Nat → Nat) (b : Nat → Nat) (r : Nat) (nx : Nat) (sn : Nat) (ln : Nat) (sv : Nat → Option Nat) (kp : Nat → Option Nat) (ik : Nat → Int32) (bf : Nat → Nat) (kd : Nat) (hg : Nat) (nu : Nat) (dg : Nat) (ng : Bool) (tk : Bool) (n : Nat) (lit : Int32) (h : Nat → Int32) (t : Nat → Int32) (s : Nat → Int32) (g : Nat → Int32) (kn : Nat) (lo : Int32) (lf : Int32) (nm : Nat → Int32) (R : va_W) (j : Nat) (p : Nat) (z : Int32)  (hn : n ≤ 6) (hj : j < 2) (hp : p < n) (hz : ¬ (z = 0 ∨ z = 1)) : kE yX3_nearest wsX3_nearest rmE_X3_nearest cy [.ref (b 0), .int (nI j), .int (nI p), .int z] ((wXo b cy (a 0) r nx sn ln sv kp ik bf ++ wRd r kd hg nu dg ng tk) ++ (wSky a cy n lit h t s g kn lo lf nm ++ R)) "java/lang/IllegalArgumentException" ((wXo b cy (a 0) r nx sn ln sv kp ik bf ++ wRd r kd hg nu dg ng tk) ++ (wSky a cy n lit h t s g kn lo lf nm ++ R)) := by
  refine kE_of (cc := cX3_nearest) (maxL := 5) (rt := .int) rfl (by decide) rfl (Nat.le_of_ble_eq_true rfl) (by decide) ?_
  intro X hR C Z E
  have C : kC X 5 RX3 cX3_nearest wsX3_nearest cy := C
  refine k_fr (fr2 := [(0, .ref (b 0)), (1, .int (nI j)), (2, .int (nI p)), (3, .int z)]) ⟨[0, 1, 2, 3], rfl⟩ ?_
  refine k_iload_n (q := 1) C 1 dX3_nearest_0 rfl rfl ?_
  refine k_callSI (n := 1) (q := 4) (pre := ([] : va_W)) (post := ((wXo b cy (a 0) r nx sn ln sv kp ik bf ++ wRd r kd hg nu dg ng tk) ++ (wSky a cy n lit h t s g kn lo lf nm ++ R))) (w2 := ((wXo b cy (a 0) r nx sn ln sv kp ik bf ++ wRd r kd hg nu dg ng tk) ++ (wSky a cy n lit h t s g kn lo lf nm ++ R))) (As := [.int (nI j)]) (rest := []) C (c_X3_isLight (nI j)) gX3_nearest_X3_isLight rfl rfl rfl (by decide +kernel) (k_room hR (by decide)) ⟨Nat.zero_le _, Nat.zero_le _⟩  rfl rfl (Nat.le_of_ble_eq_true rfl) (rfl) (rfl) dX3_nearest_1 rfl ?_
  refine k_ifB_eq (tgt := 18) (q := 7) C dX3_nearest_4 (by decide) rfl ?_ ?_
  · exact fun c_4 => absurd (mSlot hj) c_4
  · intro c_4
    refine k_aload_n (q := 8) C 0 dX3_nearest_7 rfl rfl ?_
    refine k_get (q := 11) (ci := 3) (v := .ref (a 0)) C 0 0 in3_X3_nearest rfl (List.mem_of_getElem? (i := 5) rfl) rfl rfl (by decide) rfl dX3_nearest_8 rfl ?_
    refine k_iload_n (q := 12) C 2 dX3_nearest_11 rfl rfl ?_
    refine k_callVI (n := 1) (q := 15) (pre := (wXo b cy (a 0) r nx sn ln sv kp ik bf ++ wRd r kd hg nu dg ng tk)) (post := R) (w2 := ((wXo b cy (a 0) r nx sn ln sv kp ik bf ++ wRd r kd hg nu dg ng tk) ++ (wSky a cy n lit h t s g kn lo lf nm ++ R))) (As := [.int (nI p)]) (rest := []) C (c_X2_hasLayer cy a n lit h t s g kn lo lf nm (nI p)) gX3_nearest_X2_hasLayer rfl rfl rfl (by decide +kernel) (k_room hR (by decide)) ⟨Nat.zero_le _, Nat.zero_le _⟩ (ci := 2) rfl 0 rfl rfl rfl (Nat.le_of_ble_eq_true rfl) (rfl) (rfl) dX3_nearest_12 rfl ?_
    refine k_ifB_ne (tgt := 28) (q := 18) C dX3_nearest_15 (by decide) rfl ?_ ?_
    · intro c_15
      refine k_iload_n (q := 29) C 3 dX3_nearest_28 rfl rfl ?_
      refine k_if_eq (tgt := 47) (q := 32) C dX3_nearest_29 (by decide) rfl ?_ ?_
      · exact fun c_29 => (hz (Or.inl c_29)).elim
      · intro c_29
        refine k_iload_n (q := 33) C 3 dX3_nearest_32 rfl rfl ?_
        refine k_iconst (q := 34) (v := 1) C dX3_nearest_33 (by decide) rfl ?_
        refine k_icmp_eq (tgt := 47) (q := 37) C dX3_nearest_34 (by decide) rfl ?_ ?_
        · exact fun c_34 => (hz (Or.inr c_34)).elim
        · intro c_34
          exact k_thr (text := _) E (rfl) zA (List.mem_of_getElem? (i := 3) rfl) (List.mem_of_getElem? (i := 4) rfl) (fun _ h => (List.mem_cons_of_mem _ (List.mem_append_right _ h))) (List.mem_of_getElem? (i := 19) rfl) dX3_nearest_37 dX3_nearest_40 dX3_nearest_41 dX3_nearest_43 dX3_nearest_46
    · exact fun c_15 => absurd ⟨nI_pos' (by omega), nI_lt hp (by omega)⟩ c_15
abbrev rmE_X3_ifScanned : Room := { frames := 6, cells := 1, slots := 6, locals := 124 }
set_option maxHeartbeats 4000000 in
set_option maxRecDepth 100000 in
theorem c_X3_ifScanned_e (cy : Nat → ClassId) (a : Nat → Nat) (b : Nat → Nat) (r : Nat) (nx : Nat) (sn : Nat) (ln : Nat) (sv : Nat → Option Nat) (kp : Nat → Option Nat) (ik : Nat → Int32) (bf : Nat → Nat) (kd : Nat) (hg : Nat) (nu : Nat) (dg : Nat) (ng : Bool) (tk : Bool) (n : Nat) (lit : Int32) (h : Nat → Int32) (t : Nat → Int32) (s : Nat → Int32) (g : Nat → Int32) (kn : Nat) (lo : Int32) (lf : Int32) (nm : Nat → Int32) (R : va_W) (x : Int32) (y : Int32)  (hx : ¬ (0 ≤ x ∧ x ≤ 1)) : kE yX3_ifScanned wsX3_ifScanned rmE_X3_ifScanned cy [.ref (b 0), .int x, .int y] ((wXo b cy (a 0) r nx sn ln sv kp ik bf ++ wRd r kd hg nu dg ng tk) ++ (wSky a cy n lit h t s g kn lo lf nm ++ R)) "java/lang/IndexOutOfBoundsException" ((wXo b cy (a 0) r nx sn ln sv kp ik bf ++ wRd r kd hg nu dg ng tk) ++ (wSky a cy n lit h t s g kn lo lf nm ++ R)) := by
  refine kE_of (cc := cX3_ifScanned) (maxL := 3) (rt := .int) rfl (by decide) rfl (Nat.le_of_ble_eq_true rfl) (by decide) ?_
  intro X hR C Z E
  have C : kC X 3 RX3 cX3_ifScanned wsX3_ifScanned cy := C
  refine k_fr (fr2 := [(0, .ref (b 0)), (1, .int x), (2, .int y)]) ⟨[0, 1, 2], rfl⟩ ?_
  refine k_iload_n (q := 1) C 1 dX3_ifScanned_0 rfl rfl ?_
  refine k_callSI (n := 1) (q := 4) (pre := ([] : va_W)) (post := ((wXo b cy (a 0) r nx sn ln sv kp ik bf ++ wRd r kd hg nu dg ng tk) ++ (wSky a cy n lit h t s g kn lo lf nm ++ R))) (w2 := ((wXo b cy (a 0) r nx sn ln sv kp ik bf ++ wRd r kd hg nu dg ng tk) ++ (wSky a cy n lit h t s g kn lo lf nm ++ R))) (As := [.int x]) (rest := []) C (c_X3_isLight x) gX3_ifScanned_X3_isLight rfl rfl rfl (by decide +kernel) (k_room hR (by decide)) ⟨Nat.zero_le _, Nat.zero_le _⟩  rfl rfl (Nat.le_of_ble_eq_true rfl) (rfl) (rfl) dX3_ifScanned_1 rfl ?_
  refine k_ifB_ne (tgt := 17) (q := 7) C dX3_ifScanned_4 (by decide) rfl ?_ ?_
  · exact fun c_4 => absurd c_4 hx
  · intro c_4
    exact k_thr (text := _) E (rfl) zC (List.mem_of_getElem? (i := 1) rfl) (List.mem_of_getElem? (i := 2) rfl) (fun _ h => (List.mem_cons_of_mem _ (List.mem_append_left _ (List.mem_append_right _ h)))) (List.mem_of_getElem? (i := 4) rfl) dX3_ifScanned_7 dX3_ifScanned_10 dX3_ifScanned_11 dX3_ifScanned_13 dX3_ifScanned_16
set_option maxHeartbeats 4000000 in
set_option maxRecDepth 100000 in
theorem c_X3_ifScanned_e2 (cy : Nat → ClassId) (a : Nat → Nat) (b : Nat → Nat) (r : Nat) (nx : Nat) (sn : Nat) (ln : Nat) (sv : Nat → Option Nat) (kp : Nat → Option Nat) (ik : Nat → Int32) (bf : Nat → Nat) (kd : Nat) (hg : Nat) (nu : Nat) (dg : Nat) (ng : Bool) (tk : Bool) (n : Nat) (lit : Int32) (h : Nat → Int32) (t : Nat → Int32) (s : Nat → Int32) (g : Nat → Int32) (kn : Nat) (lo : Int32) (lf : Int32) (nm : Nat → Int32) (R : va_W) (j : Nat) (y : Int32)  (hj : j < 2) (hy : ¬ (0 ≤ y ∧ y ≤ 3)) : kE yX3_ifScanned wsX3_ifScanned rmE_X3_ifScanned cy [.ref (b 0), .int (nI j), .int y] ((wXo b cy (a 0) r nx sn ln sv kp ik bf ++ wRd r kd hg nu dg ng tk) ++ (wSky a cy n lit h t s g kn lo lf nm ++ R)) "java/lang/IllegalArgumentException" ((wXo b cy (a 0) r nx sn ln sv kp ik bf ++ wRd r kd hg nu dg ng tk) ++ (wSky a cy n lit h t s g kn lo lf nm ++ R)) := by
  refine kE_of (cc := cX3_ifScanned) (maxL := 3) (rt := .int) rfl (by decide) rfl (Nat.le_of_ble_eq_true rfl) (by decide) ?_
  intro X hR C Z E
  have C : kC X 3 RX3 cX3_ifScanned wsX3_ifScanned cy := C
  refine k_fr (fr2 := [(0, .ref (b 0)), (1, .int (nI j)), (2, .int y)]) ⟨[0, 1, 2], rfl⟩ ?_
  refine k_iload_n (q := 1) C 1 dX3_ifScanned_0 rfl rfl ?_
  refine k_callSI (n := 1) (q := 4) (pre := ([] : va_W)) (post := ((wXo b cy (a 0) r nx sn ln sv kp ik bf ++ wRd r kd hg nu dg ng tk) ++ (wSky a cy n lit h t s g kn lo lf nm ++ R))) (w2 := ((wXo b cy (a 0) r nx sn ln sv kp ik bf ++ wRd r kd hg nu dg ng tk) ++ (wSky a cy n lit h t s g kn lo lf nm ++ R))) (As := [.int (nI j)]) (rest := []) C (c_X3_isLight (nI j)) gX3_ifScanned_X3_isLight rfl rfl rfl (by decide +kernel) (k_room hR (by decide)) ⟨Nat.zero_le _, Nat.zero_le _⟩  rfl rfl (Nat.le_of_ble_eq_true rfl) (rfl) (rfl) dX3_ifScanned_1 rfl ?_
  refine k_ifB_ne (tgt := 17) (q := 7) C dX3_ifScanned_4 (by decide) rfl ?_ ?_
  · intro c_4
    refine k_iload_n (q := 18) C 2 dX3_ifScanned_17 rfl rfl ?_
    refine k_if_lt (tgt := 26) (q := 21) C dX3_ifScanned_18 (by decide) rfl ?_ ?_
    · intro c_18
      exact k_thr (text := _) E (rfl) zA (List.mem_of_getElem? (i := 3) rfl) (List.mem_of_getElem? (i := 4) rfl) (fun _ h => (List.mem_cons_of_mem _ (List.mem_append_right _ h))) (List.mem_of_getElem? (i := 15) rfl) dX3_ifScanned_26 dX3_ifScanned_29 dX3_ifScanned_30 dX3_ifScanned_32 dX3_ifScanned_35
    · intro c_18
      refine k_iload_n (q := 22) C 2 dX3_ifScanned_21 rfl rfl ?_
      refine k_iconst (q := 23) (v := 3) C dX3_ifScanned_22 (by decide) rfl ?_
      refine k_icmp_le (tgt := 36) (q := 26) C dX3_ifScanned_23 (by decide) rfl ?_ ?_
      · exact fun c_23 => absurd ⟨Int32.not_lt.mp c_18, c_23⟩ hy
      · intro c_23
        exact k_thr (text := _) E (rfl) zA (List.mem_of_getElem? (i := 3) rfl) (List.mem_of_getElem? (i := 4) rfl) (fun _ h => (List.mem_cons_of_mem _ (List.mem_append_right _ h))) (List.mem_of_getElem? (i := 15) rfl) dX3_ifScanned_26 dX3_ifScanned_29 dX3_ifScanned_30 dX3_ifScanned_32 dX3_ifScanned_35
  · exact fun c_4 => absurd (mSlot hj) c_4
