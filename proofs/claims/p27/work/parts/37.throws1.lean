abbrev rmE_X3_layer : Room := { frames := 6, cells := 1, slots := 6, locals := 115 }
set_option maxHeartbeats 4000000 in
set_option maxRecDepth 100000 in
theorem c_X3_layer_e2 (cy : Nat → ClassId) (a : Nat → Nat) (b : Nat → Nat) (r : Nat) (nx : Nat) (sn : Nat) (ln : Nat) (sv : Nat → Option Nat) (kp : Nat → Option Nat) (ik : Nat → Int32) (bf : Nat → Nat) (kd : Nat) (hg : Nat) (nu : Nat) (dg : Nat) (ng : Bool) (tk : Bool) (n : Nat) (lit : Int32) (h : Nat → Int32) (t : Nat → Int32) (s : Nat → Int32) (g : Nat → Int32) (kn : Nat) (lo : Int32) (lf : Int32) (nm : Nat → Int32) (R : va_W) (x : Int32) (y : Int32)  (hn : n ≤ 6) (hx : (50 ≤ x ∧ x ≤ 3000) ∧ (1 ≤ y ∧ y ≤ 100)) (hz : ¬ (sAny h x n = false ∧ n < 6)) : kE yX3_layer wsX3_layer rmE_X3_layer cy [.ref (b 0), .int x, .int y] ((wXo b cy (a 0) r nx sn ln sv kp ik bf ++ wRd r kd hg nu dg ng tk) ++ (wSky a cy n lit h t s g kn lo lf nm ++ R)) "java/lang/IllegalStateException" ((wXo b cy (a 0) r nx sn ln sv kp ik bf ++ wRd r kd hg nu dg ng tk) ++ (wSky a cy n lit h t s g kn lo lf nm ++ R)) := by
  refine kE_of (cc := cX3_layer) (maxL := 3) (rt := .int) rfl (by decide) rfl (Nat.le_of_ble_eq_true rfl) (by decide) ?_
  intro X hR C Z E
  have C : kC X 3 RX3 cX3_layer wsX3_layer cy := C
  refine k_fr (fr2 := [(0, .ref (b 0)), (1, .int x), (2, .int y)]) ⟨[0, 1, 2], rfl⟩ ?_
  refine k_iload_n (q := 1) C 1 dX3_layer_0 rfl rfl ?_
  refine k_bipush (q := 3) (v := 50) C dX3_layer_1 (by decide +kernel) rfl ?_
  refine k_icmp_lt (tgt := 20) (q := 6) C dX3_layer_3 (by decide) rfl ?_ ?_
  · exact fun c_3 => absurd c_3 (Int32.not_lt.mpr hx.1.1)
  · intro c_3
    refine k_iload_n (q := 7) C 1 dX3_layer_6 rfl rfl ?_
    refine k_sipush (q := 10) (v := 3000) C dX3_layer_7 (by decide +kernel) rfl ?_
    refine k_icmp_gt (tgt := 20) (q := 13) C dX3_layer_10 (by decide) rfl ?_ ?_
    · exact fun c_10 => absurd c_10 (Int32.not_lt.mpr hx.1.2)
    · intro c_10
      refine k_iload_n (q := 14) C 2 dX3_layer_13 rfl rfl ?_
      refine k_callSI (n := 1) (q := 17) (pre := ([] : va_W)) (post := ((wXo b cy (a 0) r nx sn ln sv kp ik bf ++ wRd r kd hg nu dg ng tk) ++ (wSky a cy n lit h t s g kn lo lf nm ++ R))) (w2 := ((wXo b cy (a 0) r nx sn ln sv kp ik bf ++ wRd r kd hg nu dg ng tk) ++ (wSky a cy n lit h t s g kn lo lf nm ++ R))) (As := [.int y]) (rest := []) C (c_X3_isThickness y) gX3_layer_X3_isThickness rfl rfl rfl (by decide +kernel) (k_room hR (by decide)) ⟨Nat.zero_le _, Nat.zero_le _⟩  rfl rfl (Nat.le_of_ble_eq_true rfl) (rfl) (rfl) dX3_layer_14 rfl ?_
      refine k_ifB_ne (tgt := 30) (q := 20) C dX3_layer_17 (by decide) rfl ?_ ?_
      · intro c_17
        refine k_aload_n (q := 31) C 0 dX3_layer_30 rfl rfl ?_
        refine k_get (q := 34) (ci := 3) (v := .ref (a 0)) C 0 0 in3_X3_layer rfl (List.mem_of_getElem? (i := 5) rfl) rfl rfl (by decide) rfl dX3_layer_31 rfl ?_
        refine k_iload_n (q := 35) C 1 dX3_layer_34 rfl rfl ?_
        refine k_callVI (n := 1) (q := 38) (pre := (wXo b cy (a 0) r nx sn ln sv kp ik bf ++ wRd r kd hg nu dg ng tk)) (post := R) (w2 := ((wXo b cy (a 0) r nx sn ln sv kp ik bf ++ wRd r kd hg nu dg ng tk) ++ (wSky a cy n lit h t s g kn lo lf nm ++ R))) (As := [.int x]) (rest := []) C (c_X2_takesLayer cy a n lit h t s g kn lo lf nm x (by omega)) gX3_layer_X2_takesLayer rfl rfl rfl (by decide +kernel) (k_room hR (by decide)) ⟨Nat.zero_le _, Nat.zero_le _⟩ (ci := 2) rfl 0 rfl rfl rfl (Nat.le_of_ble_eq_true rfl) (rfl) (rfl) dX3_layer_35 rfl ?_
        refine k_ifB_ne (tgt := 51) (q := 41) C dX3_layer_38 (by decide) rfl ?_ ?_
        · exact fun c_38 => absurd c_38 hz
        · intro c_38
          exact k_thr (text := _) E (rfl) zB (List.mem_of_getElem? (i := 3) rfl) (List.mem_of_getElem? (i := 4) rfl) (fun _ h => (List.mem_cons_of_mem _ (List.mem_append_right _ h))) (List.mem_of_getElem? (i := 1) rfl) dX3_layer_41 dX3_layer_44 dX3_layer_45 dX3_layer_47 dX3_layer_50
      · exact fun c_17 => absurd hx.2 c_17
abbrev rmE_X3_clear : Room := { frames := 6, cells := 1, slots := 6, locals := 115 }
set_option maxHeartbeats 4000000 in
set_option maxRecDepth 100000 in
theorem c_X3_clear_e (cy : Nat → ClassId) (a : Nat → Nat) (b : Nat → Nat) (r : Nat) (nx : Nat) (sn : Nat) (ln : Nat) (sv : Nat → Option Nat) (kp : Nat → Option Nat) (ik : Nat → Int32) (bf : Nat → Nat) (kd : Nat) (hg : Nat) (nu : Nat) (dg : Nat) (ng : Bool) (tk : Bool) (n : Nat) (lit : Int32) (h : Nat → Int32) (t : Nat → Int32) (s : Nat → Int32) (g : Nat → Int32) (kn : Nat) (lo : Int32) (lf : Int32) (nm : Nat → Int32) (R : va_W) (x : Int32)  (hx : ¬ (0 ≤ x ∧ x < nI n)) : kE yX3_clear wsX3_clear rmE_X3_clear cy [.ref (b 0), .int x] ((wXo b cy (a 0) r nx sn ln sv kp ik bf ++ wRd r kd hg nu dg ng tk) ++ (wSky a cy n lit h t s g kn lo lf nm ++ R)) "java/lang/IndexOutOfBoundsException" ((wXo b cy (a 0) r nx sn ln sv kp ik bf ++ wRd r kd hg nu dg ng tk) ++ (wSky a cy n lit h t s g kn lo lf nm ++ R)) := by
  refine kE_of (cc := cX3_clear) (maxL := 2) (rt := .int) rfl (by decide) rfl (Nat.le_of_ble_eq_true rfl) (by decide) ?_
  intro X hR C Z E
  have C : kC X 2 RX3 cX3_clear wsX3_clear cy := C
  refine k_fr (fr2 := [(0, .ref (b 0)), (1, .int x)]) ⟨[0, 1], rfl⟩ ?_
  refine k_aload_n (q := 1) C 0 dX3_clear_0 rfl rfl ?_
  refine k_get (q := 4) (ci := 3) (v := .ref (a 0)) C 0 0 in3_X3_clear rfl (List.mem_of_getElem? (i := 3) rfl) rfl rfl (by decide) rfl dX3_clear_1 rfl ?_
  refine k_iload_n (q := 5) C 1 dX3_clear_4 rfl rfl ?_
  refine k_callVI (n := 1) (q := 8) (pre := (wXo b cy (a 0) r nx sn ln sv kp ik bf ++ wRd r kd hg nu dg ng tk)) (post := R) (w2 := ((wXo b cy (a 0) r nx sn ln sv kp ik bf ++ wRd r kd hg nu dg ng tk) ++ (wSky a cy n lit h t s g kn lo lf nm ++ R))) (As := [.int x]) (rest := []) C (c_X2_hasLayer cy a n lit h t s g kn lo lf nm x) gX3_clear_X2_hasLayer rfl rfl rfl (by decide +kernel) (k_room hR (by decide)) ⟨Nat.zero_le _, Nat.zero_le _⟩ (ci := 2) rfl 0 rfl rfl rfl (Nat.le_of_ble_eq_true rfl) (rfl) (rfl) dX3_clear_5 rfl ?_
  refine k_ifB_ne (tgt := 21) (q := 11) C dX3_clear_8 (by decide) rfl ?_ ?_
  · exact fun c_8 => absurd c_8 hx
  · intro c_8
    exact k_thr (text := _) E (rfl) zC (List.mem_of_getElem? (i := 1) rfl) (List.mem_of_getElem? (i := 2) rfl) (fun _ h => (List.mem_cons_of_mem _ (List.mem_append_right _ h))) (List.mem_of_getElem? (i := 2) rfl) dX3_clear_11 dX3_clear_14 dX3_clear_15 dX3_clear_17 dX3_clear_20
abbrev rmE_X3_scan : Room := { frames := 6, cells := 1, slots := 6, locals := 115 }
set_option maxHeartbeats 4000000 in
set_option maxRecDepth 100000 in
theorem c_X3_scan_e (cy : Nat → ClassId) (a : Nat → Nat) (b : Nat → Nat) (r : Nat) (nx : Nat) (sn : Nat) (ln : Nat) (sv : Nat → Option Nat) (kp : Nat → Option Nat) (ik : Nat → Int32) (bf : Nat → Nat) (kd : Nat) (hg : Nat) (nu : Nat) (dg : Nat) (ng : Bool) (tk : Bool) (n : Nat) (lit : Int32) (h : Nat → Int32) (t : Nat → Int32) (s : Nat → Int32) (g : Nat → Int32) (kn : Nat) (lo : Int32) (lf : Int32) (nm : Nat → Int32) (R : va_W) (x : Int32) (y : Int32)  (hx : ¬ ((0 ≤ x ∧ x ≤ 1) ∧ (0 ≤ y ∧ y < nI n))) : kE yX3_scan wsX3_scan rmE_X3_scan cy [.ref (b 0), .int x, .int y] ((wXo b cy (a 0) r nx sn ln sv kp ik bf ++ wRd r kd hg nu dg ng tk) ++ (wSky a cy n lit h t s g kn lo lf nm ++ R)) "java/lang/IndexOutOfBoundsException" ((wXo b cy (a 0) r nx sn ln sv kp ik bf ++ wRd r kd hg nu dg ng tk) ++ (wSky a cy n lit h t s g kn lo lf nm ++ R)) := by
  refine kE_of (cc := cX3_scan) (maxL := 3) (rt := .int) rfl (by decide) rfl (Nat.le_of_ble_eq_true rfl) (by decide) ?_
  intro X hR C Z E
  have C : kC X 3 RX3 cX3_scan wsX3_scan cy := C
  refine k_fr (fr2 := [(0, .ref (b 0)), (1, .int x), (2, .int y)]) ⟨[0, 1, 2], rfl⟩ ?_
  refine k_iload_n (q := 1) C 1 dX3_scan_0 rfl rfl ?_
  refine k_callSI (n := 1) (q := 4) (pre := ([] : va_W)) (post := ((wXo b cy (a 0) r nx sn ln sv kp ik bf ++ wRd r kd hg nu dg ng tk) ++ (wSky a cy n lit h t s g kn lo lf nm ++ R))) (w2 := ((wXo b cy (a 0) r nx sn ln sv kp ik bf ++ wRd r kd hg nu dg ng tk) ++ (wSky a cy n lit h t s g kn lo lf nm ++ R))) (As := [.int x]) (rest := []) C (c_X3_isLight x) gX3_scan_X3_isLight rfl rfl rfl (by decide +kernel) (k_room hR (by decide)) ⟨Nat.zero_le _, Nat.zero_le _⟩  rfl rfl (Nat.le_of_ble_eq_true rfl) (rfl) (rfl) dX3_scan_1 rfl ?_
  refine k_ifB_eq (tgt := 18) (q := 7) C dX3_scan_4 (by decide) rfl ?_ ?_
  · intro c_4
    exact k_thr (text := _) E (rfl) zC (List.mem_of_getElem? (i := 1) rfl) (List.mem_of_getElem? (i := 2) rfl) (fun _ h => (List.mem_cons_of_mem _ (List.mem_append_right _ h))) (List.mem_of_getElem? (i := 8) rfl) dX3_scan_18 dX3_scan_21 dX3_scan_22 dX3_scan_24 dX3_scan_27
  · intro c_4
    refine k_aload_n (q := 8) C 0 dX3_scan_7 rfl rfl ?_
    refine k_get (q := 11) (ci := 3) (v := .ref (a 0)) C 0 0 in3_X3_scan rfl (List.mem_of_getElem? (i := 3) rfl) rfl rfl (by decide) rfl dX3_scan_8 rfl ?_
    refine k_iload_n (q := 12) C 2 dX3_scan_11 rfl rfl ?_
    refine k_callVI (n := 1) (q := 15) (pre := (wXo b cy (a 0) r nx sn ln sv kp ik bf ++ wRd r kd hg nu dg ng tk)) (post := R) (w2 := ((wXo b cy (a 0) r nx sn ln sv kp ik bf ++ wRd r kd hg nu dg ng tk) ++ (wSky a cy n lit h t s g kn lo lf nm ++ R))) (As := [.int y]) (rest := []) C (c_X2_hasLayer cy a n lit h t s g kn lo lf nm y) gX3_scan_X2_hasLayer rfl rfl rfl (by decide +kernel) (k_room hR (by decide)) ⟨Nat.zero_le _, Nat.zero_le _⟩ (ci := 2) rfl 0 rfl rfl rfl (Nat.le_of_ble_eq_true rfl) (rfl) (rfl) dX3_scan_12 rfl ?_
    refine k_ifB_ne (tgt := 28) (q := 18) C dX3_scan_15 (by decide) rfl ?_ ?_
    · exact fun c_15 => absurd ⟨c_4, c_15⟩ hx
    · intro c_15
      exact k_thr (text := _) E (rfl) zC (List.mem_of_getElem? (i := 1) rfl) (List.mem_of_getElem? (i := 2) rfl) (fun _ h => (List.mem_cons_of_mem _ (List.mem_append_right _ h))) (List.mem_of_getElem? (i := 8) rfl) dX3_scan_18 dX3_scan_21 dX3_scan_22 dX3_scan_24 dX3_scan_27
abbrev rmE_X3_layerOf : Room := { frames := 6, cells := 1, slots := 6, locals := 112 }
set_option maxHeartbeats 4000000 in
set_option maxRecDepth 100000 in
theorem c_X3_layerOf_e (cy : Nat → ClassId) (a : Nat → Nat) (b : Nat → Nat) (r : Nat) (nx : Nat) (sn : Nat) (ln : Nat) (sv : Nat → Option Nat) (kp : Nat → Option Nat) (ik : Nat → Int32) (bf : Nat → Nat) (kd : Nat) (hg : Nat) (nu : Nat) (dg : Nat) (ng : Bool) (tk : Bool) (n : Nat) (lit : Int32) (h : Nat → Int32) (t : Nat → Int32) (s : Nat → Int32) (g : Nat → Int32) (kn : Nat) (lo : Int32) (lf : Int32) (nm : Nat → Int32) (R : va_W) (x : Int32) (y : Int32)  (hx : ¬ (0 ≤ x ∧ x < nI n)) : kE yX3_layerOf wsX3_layerOf rmE_X3_layerOf cy [.ref (b 0), .int x, .int y] ((wXo b cy (a 0) r nx sn ln sv kp ik bf ++ wRd r kd hg nu dg ng tk) ++ (wSky a cy n lit h t s g kn lo lf nm ++ R)) "java/lang/IndexOutOfBoundsException" ((wXo b cy (a 0) r nx sn ln sv kp ik bf ++ wRd r kd hg nu dg ng tk) ++ (wSky a cy n lit h t s g kn lo lf nm ++ R)) := by
  refine kE_of (cc := cX3_layerOf) (maxL := 3) (rt := .int) rfl (by decide) rfl (Nat.le_of_ble_eq_true rfl) (by decide) ?_
  intro X hR C Z E
  have C : kC X 3 RX3 cX3_layerOf wsX3_layerOf cy := C
  refine k_fr (fr2 := [(0, .ref (b 0)), (1, .int x), (2, .int y)]) ⟨[0, 1, 2], rfl⟩ ?_
  refine k_aload_n (q := 1) C 0 dX3_layerOf_0 rfl rfl ?_
  refine k_get (q := 4) (ci := 3) (v := .ref (a 0)) C 0 0 in3_X3_layerOf rfl (List.mem_of_getElem? (i := 5) rfl) rfl rfl (by decide) rfl dX3_layerOf_1 rfl ?_
  refine k_iload_n (q := 5) C 1 dX3_layerOf_4 rfl rfl ?_
  refine k_callVI (n := 1) (q := 8) (pre := (wXo b cy (a 0) r nx sn ln sv kp ik bf ++ wRd r kd hg nu dg ng tk)) (post := R) (w2 := ((wXo b cy (a 0) r nx sn ln sv kp ik bf ++ wRd r kd hg nu dg ng tk) ++ (wSky a cy n lit h t s g kn lo lf nm ++ R))) (As := [.int x]) (rest := []) C (c_X2_hasLayer cy a n lit h t s g kn lo lf nm x) gX3_layerOf_X2_hasLayer rfl rfl rfl (by decide +kernel) (k_room hR (by decide)) ⟨Nat.zero_le _, Nat.zero_le _⟩ (ci := 2) rfl 0 rfl rfl rfl (Nat.le_of_ble_eq_true rfl) (rfl) (rfl) dX3_layerOf_5 rfl ?_
  refine k_ifB_ne (tgt := 21) (q := 11) C dX3_layerOf_8 (by decide) rfl ?_ ?_
  · exact fun c_8 => absurd c_8 hx
  · intro c_8
    exact k_thr (text := _) E (rfl) zC (List.mem_of_getElem? (i := 1) rfl) (List.mem_of_getElem? (i := 2) rfl) (fun _ h => (List.mem_cons_of_mem _ (List.mem_append_left _ (List.mem_append_right _ h)))) (List.mem_of_getElem? (i := 2) rfl) dX3_layerOf_11 dX3_layerOf_14 dX3_layerOf_15 dX3_layerOf_17 dX3_layerOf_20
