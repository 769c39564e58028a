abbrev rm_X1_startNumber : Room := { frames := 0, cells := 0, slots := 0, locals := 0 }
theorem in1_X1_startNumber : ∀ w ∈ wsX10, w ∈ wsX1_startNumber := fun _ h => (List.mem_cons_of_mem _ (List.mem_append_right _ h))
set_option maxHeartbeats 4000000 in
set_option maxRecDepth 100000 in
theorem c_X1_startNumber (cy : Nat → ClassId) (r : Nat) (kd : Nat) (hg : Nat) (nu : Nat) (dg : Nat) (ng : Bool) (tk : Bool)   : kV yX1_startNumber wsX1_startNumber rm_X1_startNumber cy [.ref r] (wRd r kd hg nu dg ng tk) (wRd r kd hg 0 0 ng tk) := by
  refine kV_of (cc := cX1_startNumber) (maxL := 1) (by decide) rfl (Nat.le_of_ble_eq_true rfl) ?_
  intro X hR C E
  have C : kC X 1 RX1 cX1_startNumber wsX1_startNumber cy := C
  refine k_fr (fr2 := [(0, .ref r)]) ⟨[0], rfl⟩ ?_
  refine k_aload_n (q := 1) C 0 dX1_startNumber_0 rfl rfl ?_
  refine k_iconst (q := 2) (v := 0) C dX1_startNumber_1 (by decide) rfl ?_
  refine k_put (q := 5) (ci := 1) (v := .int 0) (w2 := (wRd r kd hg 0 dg ng tk)) C 0 2 in1_X1_startNumber rfl (List.mem_of_getElem? (i := 1) rfl) rfl tyX1 tyX1_ok nmX1 rfl (rfl) (rfl) rfl (by decide) (Nat.le_of_ble_eq_true rfl) (rfl) dX1_startNumber_2 rfl ?_
  refine k_aload_n (q := 6) C 0 dX1_startNumber_5 rfl rfl ?_
  refine k_iconst (q := 7) (v := 0) C dX1_startNumber_6 (by decide) rfl ?_
  refine k_put (q := 10) (ci := 1) (v := .int 0) (w2 := (wRd r kd hg 0 0 ng tk)) C 0 3 in1_X1_startNumber rfl (List.mem_of_getElem? (i := 2) rfl) rfl tyX1 tyX1_ok nmX1 rfl (rfl) (rfl) rfl (by decide) (Nat.le_of_ble_eq_true rfl) (rfl) dX1_startNumber_7 rfl ?_
  exact k_finV E dX1_startNumber_10 (rfl)
abbrev rm_X1_startOrder : Room := { frames := 1, cells := 0, slots := 0, locals := 20 }
theorem in1_X1_startOrder : ∀ w ∈ wsX10, w ∈ wsX1_startOrder := fun _ h => (List.mem_cons_of_mem _ (List.mem_append_right _ h))
set_option maxHeartbeats 4000000 in
set_option maxRecDepth 100000 in
theorem c_X1_startOrder (cy : Nat → ClassId) (r : Nat) (kd : Nat) (hg : Nat) (nu : Nat) (dg : Nat) (ng : Bool) (tk : Bool)   : kV yX1_startOrder wsX1_startOrder rm_X1_startOrder cy [.ref r] (wRd r kd hg nu dg ng tk) (wRd r 0 0 0 0 false false) := by
  refine kV_of (cc := cX1_startOrder) (maxL := 1) (by decide) rfl (Nat.le_of_ble_eq_true rfl) ?_
  intro X hR C E
  have C : kC X 1 RX1 cX1_startOrder wsX1_startOrder cy := C
  refine k_fr (fr2 := [(0, .ref r)]) ⟨[0], rfl⟩ ?_
  refine k_aload_n (q := 1) C 0 dX1_startOrder_0 rfl rfl ?_
  refine k_iconst (q := 2) (v := 0) C dX1_startOrder_1 (by decide) rfl ?_
  refine k_put (q := 5) (ci := 1) (v := .int 0) (w2 := (wRd r 0 hg nu dg ng tk)) C 0 0 in1_X1_startOrder rfl (List.mem_of_getElem? (i := 1) rfl) rfl tyX1 tyX1_ok nmX1 rfl (rfl) (rfl) rfl (by decide) (Nat.le_of_ble_eq_true rfl) (rfl) dX1_startOrder_2 rfl ?_
  refine k_aload_n (q := 6) C 0 dX1_startOrder_5 rfl rfl ?_
  refine k_iconst (q := 7) (v := 0) C dX1_startOrder_6 (by decide) rfl ?_
  refine k_put (q := 10) (ci := 1) (v := .int 0) (w2 := (wRd r 0 0 nu dg ng tk)) C 0 1 in1_X1_startOrder rfl (List.mem_of_getElem? (i := 2) rfl) rfl tyX1 tyX1_ok nmX1 rfl (rfl) (rfl) rfl (by decide) (Nat.le_of_ble_eq_true rfl) (rfl) dX1_startOrder_7 rfl ?_
  refine k_aload_n (q := 11) C 0 dX1_startOrder_10 rfl rfl ?_
  refine k_iconst (q := 12) (v := 0) C dX1_startOrder_11 (by decide) rfl ?_
  refine k_put (q := 15) (ci := 1) (v := .int 0) (w2 := (wRd r 0 0 nu dg false tk)) C 0 4 in1_X1_startOrder rfl (List.mem_of_getElem? (i := 3) rfl) rfl tyX1 tyX1_ok nmX1 rfl (rfl) (rfl) rfl (by decide) (Nat.le_of_ble_eq_true rfl) (rfl) dX1_startOrder_12 rfl ?_
  refine k_aload_n (q := 16) C 0 dX1_startOrder_15 rfl rfl ?_
  refine k_iconst (q := 17) (v := 0) C dX1_startOrder_16 (by decide) rfl ?_
  refine k_put (q := 20) (ci := 1) (v := .int 0) (w2 := (wRd r 0 0 nu dg false false)) C 0 5 in1_X1_startOrder rfl (List.mem_of_getElem? (i := 4) rfl) rfl tyX1 tyX1_ok nmX1 rfl (rfl) (rfl) rfl (by decide) (Nat.le_of_ble_eq_true rfl) (rfl) dX1_startOrder_17 rfl ?_
  refine k_aload_n (q := 21) C 0 dX1_startOrder_20 rfl rfl ?_
  refine k_callVV (n := 0) (q := 24) (pre := ([] : va_W)) (post := ([] : va_W)) (w2 := (wRd r 0 0 0 0 false false)) (As := []) (rest := []) C (c_X1_startNumber cy r 0 0 nu dg false false) gX1_startOrder_X1_startNumber rfl rfl rfl (by decide +kernel) (k_room hR (by decide)) ⟨Nat.zero_le _, Nat.zero_le _⟩ (ci := 1) rfl 0 rfl rfl rfl (Nat.le_of_ble_eq_true rfl) ((List.append_nil _).symm) (List.append_nil _) dX1_startOrder_21 rfl ?_
  exact k_finV E dX1_startOrder_24 (rfl)
abbrev rm_X1_isWholeOrder : Room := { frames := 0, cells := 0, slots := 0, locals := 0 }
theorem in1_X1_isWholeOrder : ∀ w ∈ wsX10, w ∈ wsX1_isWholeOrder := fun _ h => (List.mem_cons_of_mem _ (List.mem_append_right _ h))
set_option maxHeartbeats 4000000 in
set_option maxRecDepth 100000 in
theorem c_X1_isWholeOrder (cy : Nat → ClassId) (r : Nat) (kd : Nat) (hg : Nat) (nu : Nat) (dg : Nat) (ng : Bool) (tk : Bool)  (hkd : kd < 65536) (hdg : dg < 1000) : kI yX1_isWholeOrder wsX1_isWholeOrder rm_X1_isWholeOrder cy [.ref r] (wRd r kd hg nu dg ng tk) (bI (rWhole kd dg tk = true)) (wRd r kd hg nu dg ng tk) := by
  refine kI_of (cc := cX1_isWholeOrder) (maxL := 1) (rt := .boolean) (by decide) rfl (kb_nar _) (Nat.le_of_ble_eq_true rfl) ?_
  intro X hR C E
  have C : kC X 1 RX1 cX1_isWholeOrder wsX1_isWholeOrder cy := C
  refine k_fr (fr2 := [(0, .ref r)]) ⟨[0], rfl⟩ ?_
  refine k_aload_n (q := 1) C 0 dX1_isWholeOrder_0 rfl rfl ?_
  refine k_get (q := 4) (ci := 1) (v := .int (nI kd)) C 0 0 in1_X1_isWholeOrder rfl (List.mem_of_getElem? (i := 1) rfl) rfl rfl (by decide) rfl dX1_isWholeOrder_1 rfl ?_
  by_cases s_4_99 : kd = 99
  · refine k_lookup (q := 34) (off := 30) C dX1_isWholeOrder_4 (by decide +kernel) (by rw [s_4_99]; decide +kernel) (by decide) ?_
    refine k_aload_n (q := 35) C 0 dX1_isWholeOrder_34 rfl rfl ?_
    refine k_get (q := 38) (ci := 1) (v := .int (bI (tk = true))) C 0 5 in1_X1_isWholeOrder rfl (List.mem_of_getElem? (i := 2) rfl) rfl rfl (by decide) rfl dX1_isWholeOrder_35 rfl ?_
    refine k_ifB_eq (tgt := 52) (q := 41) C dX1_isWholeOrder_38 (by decide) rfl ?_ ?_
    · intro c_38
      refine k_iconst (q := 53) (v := 0) C dX1_isWholeOrder_52 (by decide) rfl ?_
      exact k_fin E dX1_isWholeOrder_53 (by rw [rWhole, if_neg (by omega), if_pos s_4_99]; first | exact bI_f (fun q => c_38 (Bool.and_eq_true_iff.mp q).1) | exact bI_f (fun q => by have := of_decide_eq_true (Bool.and_eq_true_iff.mp q).2; omega) | exact bI_t (by rw [c_38, decide_eq_true c_45]; rfl)) (rfl)
    · intro c_38
      refine k_aload_n (q := 42) C 0 dX1_isWholeOrder_41 rfl rfl ?_
      refine k_get (q := 45) (ci := 1) (v := .int (nI dg)) C 0 3 in1_X1_isWholeOrder rfl (List.mem_of_getElem? (i := 3) rfl) rfl rfl (by decide) rfl dX1_isWholeOrder_42 rfl ?_
      refine k_nif_le (a := dg)  (tgt := 52) (q := 48) C dX1_isWholeOrder_45 (by decide) rfl (by omega) ?_ ?_
      · intro c_45
        refine k_iconst (q := 53) (v := 0) C dX1_isWholeOrder_52 (by decide) rfl ?_
        exact k_fin E dX1_isWholeOrder_53 (by rw [rWhole, if_neg (by omega), if_pos s_4_99]; first | exact bI_f (fun q => c_38 (Bool.and_eq_true_iff.mp q).1) | exact bI_f (fun q => by have := of_decide_eq_true (Bool.and_eq_true_iff.mp q).2; omega) | exact bI_t (by rw [c_38, decide_eq_true c_45]; rfl)) (rfl)
      · intro c_45
        refine k_iconst (q := 49) (v := 1) C dX1_isWholeOrder_48 (by decide) rfl ?_
        refine k_goto (q := 53) C dX1_isWholeOrder_49 (by decide) ?_
        exact k_fin E dX1_isWholeOrder_53 (by rw [rWhole, if_neg (by omega), if_pos s_4_99]; first | exact bI_f (fun q => c_38 (Bool.and_eq_true_iff.mp q).1) | exact bI_f (fun q => by have := of_decide_eq_true (Bool.and_eq_true_iff.mp q).2; omega) | exact bI_t (by rw [c_38, decide_eq_true c_45]; rfl)) (rfl)
  by_cases s_4_110 : kd = 110
  · refine k_lookup (q := 32) (off := 28) C dX1_isWholeOrder_4 (by decide +kernel) (by rw [s_4_110]; decide +kernel) (by decide) ?_
    refine k_iconst (q := 33) (v := 1) C dX1_isWholeOrder_32 (by decide) rfl ?_
    exact k_fin E dX1_isWholeOrder_33 (bI_t (by rw [rWhole, if_pos s_4_110])) (rfl)
  have n_4_99 : ¬ nI kd = 99 := fun q => s_4_99 ((nI_eq (a := kd) (b := 99) (by omega) (by decide)).mp q)
  have n_4_110 : ¬ nI kd = 110 := fun q => s_4_110 ((nI_eq (a := kd) (b := 110) (by omega) (by decide)).mp q)
  refine k_lookup (q := 54) (off := 50) C dX1_isWholeOrder_4 (by decide +kernel) (by show Op.lookupswitch.offset [(99, 30), (110, 28)] (50) _ = _; rw [lv_osw n_4_99 (a := 99) (by decide +kernel), lv_osw n_4_110 (a := 110) (by decide +kernel)]; rfl) (by decide) ?_
  refine k_aload_n (q := 55) C 0 dX1_isWholeOrder_54 rfl rfl ?_
  refine k_get (q := 58) (ci := 1) (v := .int (nI dg)) C 0 3 in1_X1_isWholeOrder rfl (List.mem_of_getElem? (i := 3) rfl) rfl rfl (by decide) rfl dX1_isWholeOrder_55 rfl ?_
  refine k_nif_le (a := dg)  (tgt := 65) (q := 61) C dX1_isWholeOrder_58 (by decide) rfl (by omega) ?_ ?_
  · intro c_58
    refine k_iconst (q := 66) (v := 0) C dX1_isWholeOrder_65 (by decide) rfl ?_
    exact k_fin E dX1_isWholeOrder_66 (by rw [rWhole, if_neg s_4_110, if_neg s_4_99]; first | exact bI_f (fun q => by have := of_decide_eq_true q; omega) | exact bI_t (decide_eq_true c_58)) (rfl)
  · intro c_58
    refine k_iconst (q := 62) (v := 1) C dX1_isWholeOrder_61 (by decide) rfl ?_
    refine k_goto (q := 66) C dX1_isWholeOrder_62 (by decide) ?_
    exact k_fin E dX1_isWholeOrder_66 (by rw [rWhole, if_neg s_4_110, if_neg s_4_99]; first | exact bI_f (fun q => by have := of_decide_eq_true q; omega) | exact bI_t (decide_eq_true c_58)) (rfl)
abbrev rm_X1_takesKind : Room := { frames := 0, cells := 0, slots := 0, locals := 0 }
theorem in1_X1_takesKind : ∀ w ∈ wsX10, w ∈ wsX1_takesKind := fun _ h => (List.mem_cons_of_mem _ (List.mem_append_right _ h))
set_option maxHeartbeats 4000000 in
set_option maxRecDepth 100000 in
theorem c_X1_takesKind (cy : Nat → ClassId) (r : Nat) (kd : Nat) (hg : Nat) (nu : Nat) (dg : Nat) (ng : Bool) (tk : Bool) (c : Nat)  (hc : c < 65536) : kI yX1_takesKind wsX1_takesKind rm_X1_takesKind cy [.ref r, .int (nI c)] (wRd r kd hg nu dg ng tk) (bI (rKind c = true)) (wRd r (if rKind c = true then c else kd) hg nu dg ng tk) := by
  refine kI_of (cc := cX1_takesKind) (maxL := 2) (rt := .boolean) (by decide) rfl (kb_nar _) (Nat.le_of_ble_eq_true rfl) ?_
  intro X hR C E
  have C : kC X 2 RX1 cX1_takesKind wsX1_takesKind cy := C
  refine k_fr (fr2 := [(0, .ref r), (1, .int (nI c))]) ⟨[0, 1], rfl⟩ ?_
  refine k_iload_n (q := 1) C 1 dX1_takesKind_0 rfl rfl ?_
  refine k_bipush (q := 3) (v := 99) C dX1_takesKind_1 (by decide +kernel) rfl ?_
  refine k_nicmp_eq (a := c) (b := 99)  (tgt := 32) (q := 6) C dX1_takesKind_3 (by decide) rfl (by omega) (by decide) ?_ ?_
  · intro c_3
    refine k_aload_n (q := 33) C 0 dX1_takesKind_32 rfl rfl ?_
    refine k_iload_n (q := 34) C 1 dX1_takesKind_33 rfl rfl ?_
    refine k_put (q := 37) (ci := 1) (v := .int (nI c)) (w2 := (wRd r c hg nu dg ng tk)) C 0 0 in1_X1_takesKind rfl (List.mem_of_getElem? (i := 1) rfl) rfl tyX1 tyX1_ok nmX1 rfl ((pk_charN (q := c) (by omega)).1) ((pk_charN (q := c) (by omega)).2) rfl (by decide) (Nat.le_of_ble_eq_true rfl) (rfl) dX1_takesKind_34 rfl ?_
    refine k_iconst (q := 38) (v := 1) C dX1_takesKind_37 (by decide) rfl ?_
    exact k_fin E dX1_takesKind_38 (bI_t (decide_eq_true (by omega))) (by rw [if_pos (show rKind c = true from decide_eq_true (by omega))])
  · intro c_3
    refine k_iload_n (q := 7) C 1 dX1_takesKind_6 rfl rfl ?_
    refine k_bipush (q := 9) (v := 97) C dX1_takesKind_7 (by decide +kernel) rfl ?_
    refine k_nicmp_eq (a := c) (b := 97)  (tgt := 32) (q := 12) C dX1_takesKind_9 (by decide) rfl (by omega) (by decide) ?_ ?_
    · intro c_9
      refine k_aload_n (q := 33) C 0 dX1_takesKind_32 rfl rfl ?_
      refine k_iload_n (q := 34) C 1 dX1_takesKind_33 rfl rfl ?_
      refine k_put (q := 37) (ci := 1) (v := .int (nI c)) (w2 := (wRd r c hg nu dg ng tk)) C 0 0 in1_X1_takesKind rfl (List.mem_of_getElem? (i := 1) rfl) rfl tyX1 tyX1_ok nmX1 rfl ((pk_charN (q := c) (by omega)).1) ((pk_charN (q := c) (by omega)).2) rfl (by decide) (Nat.le_of_ble_eq_true rfl) (rfl) dX1_takesKind_34 rfl ?_
      refine k_iconst (q := 38) (v := 1) C dX1_takesKind_37 (by decide) rfl ?_
      exact k_fin E dX1_takesKind_38 (bI_t (decide_eq_true (by omega))) (by rw [if_pos (show rKind c = true from decide_eq_true (by omega))])
    · intro c_9
      refine k_iload_n (q := 13) C 1 dX1_takesKind_12 rfl rfl ?_
      refine k_bipush (q := 15) (v := 98) C dX1_takesKind_13 (by decide +kernel) rfl ?_
      refine k_nicmp_eq (a := c) (b := 98)  (tgt := 32) (q := 18) C dX1_takesKind_15 (by decide) rfl (by omega) (by decide) ?_ ?_
      · intro c_15
        refine k_aload_n (q := 33) C 0 dX1_takesKind_32 rfl rfl ?_
        refine k_iload_n (q := 34) C 1 dX1_takesKind_33 rfl rfl ?_
        refine k_put (q := 37) (ci := 1) (v := .int (nI c)) (w2 := (wRd r c hg nu dg ng tk)) C 0 0 in1_X1_takesKind rfl (List.mem_of_getElem? (i := 1) rfl) rfl tyX1 tyX1_ok nmX1 rfl ((pk_charN (q := c) (by omega)).1) ((pk_charN (q := c) (by omega)).2) rfl (by decide) (Nat.le_of_ble_eq_true rfl) (rfl) dX1_takesKind_34 rfl ?_
        refine k_iconst (q := 38) (v := 1) C dX1_takesKind_37 (by decide) rfl ?_
        exact k_fin E dX1_takesKind_38 (bI_t (decide_eq_true (by omega))) (by rw [if_pos (show rKind c = true from decide_eq_true (by omega))])
      · intro c_15
        refine k_iload_n (q := 19) C 1 dX1_takesKind_18 rfl rfl ?_
        refine k_bipush (q := 21) (v := 120) C dX1_takesKind_19 (by decide +kernel) rfl ?_
        refine k_nicmp_eq (a := c) (b := 120)  (tgt := 32) (q := 24) C dX1_takesKind_21 (by decide) rfl (by omega) (by decide) ?_ ?_
        · intro c_21
          refine k_aload_n (q := 33) C 0 dX1_takesKind_32 rfl rfl ?_
          refine k_iload_n (q := 34) C 1 dX1_takesKind_33 rfl rfl ?_
          refine k_put (q := 37) (ci := 1) (v := .int (nI c)) (w2 := (wRd r c hg nu dg ng tk)) C 0 0 in1_X1_takesKind rfl (List.mem_of_getElem? (i := 1) rfl) rfl tyX1 tyX1_ok nmX1 rfl ((pk_charN (q := c) (by omega)).1) ((pk_charN (q := c) (by omega)).2) rfl (by decide) (Nat.le_of_ble_eq_true rfl) (rfl) dX1_takesKind_34 rfl ?_
          refine k_iconst (q := 38) (v := 1) C dX1_takesKind_37 (by decide) rfl ?_
          exact k_fin E dX1_takesKind_38 (bI_t (decide_eq_true (by omega))) (by rw [if_pos (show rKind c = true from decide_eq_true (by omega))])
        · intro c_21
          refine k_iload_n (q := 25) C 1 dX1_takesKind_24 rfl rfl ?_
          refine k_bipush (q := 27) (v := 110) C dX1_takesKind_25 (by decide +kernel) rfl ?_
          refine k_nicmp_eq (a := c) (b := 110)  (tgt := 32) (q := 30) C dX1_takesKind_27 (by decide) rfl (by omega) (by decide) ?_ ?_
          · intro c_27
            refine k_aload_n (q := 33) C 0 dX1_takesKind_32 rfl rfl ?_
            refine k_iload_n (q := 34) C 1 dX1_takesKind_33 rfl rfl ?_
            refine k_put (q := 37) (ci := 1) (v := .int (nI c)) (w2 := (wRd r c hg nu dg ng tk)) C 0 0 in1_X1_takesKind rfl (List.mem_of_getElem? (i := 1) rfl) rfl tyX1 tyX1_ok nmX1 rfl ((pk_charN (q := c) (by omega)).1) ((pk_charN (q := c) (by omega)).2) rfl (by decide) (Nat.le_of_ble_eq_true rfl) (rfl) dX1_takesKind_34 rfl ?_
            refine k_iconst (q := 38) (v := 1) C dX1_takesKind_37 (by decide) rfl ?_
            exact k_fin E dX1_takesKind_38 (bI_t (decide_eq_true (by omega))) (by rw [if_pos (show rKind c = true from decide_eq_true (by omega))])
          · intro c_27
            refine k_iconst (q := 31) (v := 0) C dX1_takesKind_30 (by decide) rfl ?_
            exact k_fin E dX1_takesKind_31 (bI_f (fun q => by have := of_decide_eq_true q; omega)) (by rw [if_neg (show ¬ rKind c = true from fun q => by have := of_decide_eq_true q; omega)])
abbrev rm_X1_takesSemicolon : Room := { frames := 2, cells := 0, slots := 0, locals := 40 }
theorem in1_X1_takesSemicolon : ∀ w ∈ wsX10, w ∈ wsX1_takesSemicolon := fun _ h => (List.mem_cons_of_mem _ (List.mem_append_right _ h))
set_option maxHeartbeats 4000000 in
set_option maxRecDepth 100000 in
theorem c_X1_takesSemicolon (cy : Nat → ClassId) (r : Nat) (kd : Nat) (hg : Nat) (nu : Nat) (dg : Nat) (ng : Bool) (tk : Bool)  (hkd : kd < 65536) (hdg : dg < 1000) : kI yX1_takesSemicolon wsX1_takesSemicolon rm_X1_takesSemicolon cy [.ref r] (wRd r kd hg nu dg ng tk) (bI ((rSemi (kd, hg, nu, dg, ng, tk)).1 = true)) (wRd r ((rSemi (kd, hg, nu, dg, ng, tk)).2.1) ((rSemi (kd, hg, nu, dg, ng, tk)).2.2.1) ((rSemi (kd, hg, nu, dg, ng, tk)).2.2.2.1) ((rSemi (kd, hg, nu, dg, ng, tk)).2.2.2.2.1) ((rSemi (kd, hg, nu, dg, ng, tk)).2.2.2.2.2.1) ((rSemi (kd, hg, nu, dg, ng, tk)).2.2.2.2.2.2)) := by
  refine kI_of (cc := cX1_takesSemicolon) (maxL := 1) (rt := .boolean) (by decide) rfl (kb_nar _) (Nat.le_of_ble_eq_true rfl) ?_
  intro X hR C E
  have C : kC X 1 RX1 cX1_takesSemicolon wsX1_takesSemicolon cy := C
  refine k_fr (fr2 := [(0, .ref r)]) ⟨[0], rfl⟩ ?_
  refine k_aload_n (q := 1) C 0 dX1_takesSemicolon_0 rfl rfl ?_
  refine k_callVI (n := 0) (q := 4) (pre := ([] : va_W)) (post := ([] : va_W)) (w2 := (wRd r kd hg nu dg ng tk)) (As := []) (rest := []) C (c_X1_isWholeOrder cy r kd hg nu dg ng tk (by omega) (by omega)) gX1_takesSemicolon_X1_isWholeOrder rfl rfl rfl (by decide +kernel) (k_room hR (by decide)) ⟨Nat.zero_le _, Nat.zero_le _⟩ (ci := 1) rfl 0 rfl rfl rfl (Nat.le_of_ble_eq_true rfl) ((List.append_nil _).symm) (List.append_nil _) dX1_takesSemicolon_1 rfl ?_
  refine k_ifB_ne (tgt := 9) (q := 7) C dX1_takesSemicolon_4 (by decide) rfl ?_ ?_
  · intro c_4
    refine k_aload_n (q := 10) C 0 dX1_takesSemicolon_9 rfl rfl ?_
    refine k_callVV (n := 0) (q := 13) (pre := ([] : va_W)) (post := ([] : va_W)) (w2 := (wRd r 0 0 0 0 false false)) (As := []) (rest := []) C (c_X1_startOrder cy r kd hg nu dg ng tk) gX1_takesSemicolon_X1_startOrder rfl rfl rfl (by decide +kernel) (k_room hR (by decide)) ⟨Nat.zero_le _, Nat.zero_le _⟩ (ci := 1) rfl 0 rfl rfl rfl (Nat.le_of_ble_eq_true rfl) ((List.append_nil _).symm) (List.append_nil _) dX1_takesSemicolon_10 rfl ?_
    refine k_iconst (q := 14) (v := 1) C dX1_takesSemicolon_13 (by decide) rfl ?_
    exact k_fin E dX1_takesSemicolon_14 (by rw [show rSemi (kd, hg, nu, dg, ng, tk) = (true, (0, 0, 0, 0, false, false)) from if_pos c_4]; rfl) (by rw [show rSemi (kd, hg, nu, dg, ng, tk) = (true, (0, 0, 0, 0, false, false)) from if_pos c_4])
  · intro c_4
    refine k_iconst (q := 8) (v := 0) C dX1_takesSemicolon_7 (by decide) rfl ?_
    exact k_fin E dX1_takesSemicolon_8 (by rw [show rSemi (kd, hg, nu, dg, ng, tk) = (false, (kd, hg, nu, dg, ng, tk)) from if_neg c_4]; rfl) (by rw [show rSemi (kd, hg, nu, dg, ng, tk) = (false, (kd, hg, nu, dg, ng, tk)) from if_neg c_4])
abbrev rm_X1_takesStar : Room := { frames := 1, cells := 0, slots := 0, locals := 20 }
theorem in1_X1_takesStar : ∀ w ∈ wsX10, w ∈ wsX1_takesStar := fun _ h => (List.mem_cons_of_mem _ (List.mem_append_right _ h))
set_option maxHeartbeats 4000000 in
set_option maxRecDepth 100000 in
theorem c_X1_takesStar (cy : Nat → ClassId) (r : Nat) (kd : Nat) (hg : Nat) (nu : Nat) (dg : Nat) (ng : Bool) (tk : Bool)  (hkd : kd < 65536) (hnu : nu < 10000) (hdg : dg < 1000) : kI yX1_takesStar wsX1_takesStar rm_X1_takesStar cy [.ref r] (wRd r kd hg nu dg ng tk) (bI ((rStar (kd, hg, nu, dg, ng, tk)).1 = true)) (wRd r ((rStar (kd, hg, nu, dg, ng, tk)).2.1) ((rStar (kd, hg, nu, dg, ng, tk)).2.2.1) ((rStar (kd, hg, nu, dg, ng, tk)).2.2.2.1) ((rStar (kd, hg, nu, dg, ng, tk)).2.2.2.2.1) ((rStar (kd, hg, nu, dg, ng, tk)).2.2.2.2.2.1) ((rStar (kd, hg, nu, dg, ng, tk)).2.2.2.2.2.2)) := by
  refine kI_of (cc := cX1_takesStar) (maxL := 1) (rt := .boolean) (by decide) rfl (kb_nar _) (Nat.le_of_ble_eq_true rfl) ?_
  intro X hR C E
  have C : kC X 1 RX1 cX1_takesStar wsX1_takesStar cy := C
  refine k_fr (fr2 := [(0, .ref r)]) ⟨[0], rfl⟩ ?_
  refine k_aload_n (q := 1) C 0 dX1_takesStar_0 rfl rfl ?_
  refine k_get (q := 4) (ci := 1) (v := .int (nI kd)) C 0 0 in1_X1_takesStar rfl (List.mem_of_getElem? (i := 1) rfl) rfl rfl (by decide) rfl dX1_takesStar_1 rfl ?_
  refine k_bipush (q := 6) (v := 99) C dX1_takesStar_4 (by decide +kernel) rfl ?_
  refine k_nicmp_ne (a := kd) (b := 99)  (tgt := 25) (q := 9) C dX1_takesStar_6 (by decide) rfl (by omega) (by decide) ?_ ?_
  · intro c_6
    refine k_iconst (q := 26) (v := 0) C dX1_takesStar_25 (by decide) rfl ?_
    exact k_fin E dX1_takesStar_26 (by rw [rStar_n (by first | exact Or.inl c_6 | exact Or.inr (Or.inl c_13) | exact Or.inr (Or.inr c_22))]; rfl) (by rw [rStar_n (by first | exact Or.inl c_6 | exact Or.inr (Or.inl c_13) | exact Or.inr (Or.inr c_22))])
  · intro c_6
    refine k_aload_n (q := 10) C 0 dX1_takesStar_9 rfl rfl ?_
    refine k_get (q := 13) (ci := 1) (v := .int (bI (tk = true))) C 0 5 in1_X1_takesStar rfl (List.mem_of_getElem? (i := 2) rfl) rfl rfl (by decide) rfl dX1_takesStar_10 rfl ?_
    refine k_ifB_ne (tgt := 25) (q := 16) C dX1_takesStar_13 (by decide) rfl ?_ ?_
    · intro c_13
      refine k_iconst (q := 26) (v := 0) C dX1_takesStar_25 (by decide) rfl ?_
      exact k_fin E dX1_takesStar_26 (by rw [rStar_n (by first | exact Or.inl c_6 | exact Or.inr (Or.inl c_13) | exact Or.inr (Or.inr c_22))]; rfl) (by rw [rStar_n (by first | exact Or.inl c_6 | exact Or.inr (Or.inl c_13) | exact Or.inr (Or.inr c_22))])
    · intro c_13
      refine k_aload_n (q := 17) C 0 dX1_takesStar_16 rfl rfl ?_
      refine k_get (q := 20) (ci := 1) (v := .int (nI nu)) C 0 2 in1_X1_takesStar rfl (List.mem_of_getElem? (i := 3) rfl) rfl rfl (by decide) rfl dX1_takesStar_17 rfl ?_
      refine k_bipush (q := 22) (v := 50) C dX1_takesStar_20 (by decide +kernel) rfl ?_
      refine k_nicmp_ge (a := nu) (b := 50)  (tgt := 27) (q := 25) C dX1_takesStar_22 (by decide) rfl (by omega) (by decide) ?_ ?_
      · intro c_22
        refine k_aload_n (q := 28) C 0 dX1_takesStar_27 rfl rfl ?_
        refine k_aload_n (q := 29) C 0 dX1_takesStar_28 rfl rfl ?_
        refine k_get (q := 32) (ci := 1) (v := .int (nI nu)) C 0 2 in1_X1_takesStar rfl (List.mem_of_getElem? (i := 3) rfl) rfl rfl (by decide) rfl dX1_takesStar_29 rfl ?_
        refine k_put (q := 35) (ci := 1) (v := .int (nI nu)) (w2 := (wRd r kd nu nu dg ng tk)) C 0 1 in1_X1_takesStar rfl (List.mem_of_getElem? (i := 4) rfl) rfl tyX1 tyX1_ok nmX1 rfl (rfl) (rfl) rfl (by decide) (Nat.le_of_ble_eq_true rfl) (rfl) dX1_takesStar_32 rfl ?_
        refine k_aload_n (q := 36) C 0 dX1_takesStar_35 rfl rfl ?_
        refine k_iconst (q := 37) (v := 1) C dX1_takesStar_36 (by decide) rfl ?_
        refine k_put (q := 40) (ci := 1) (v := .int 1) (w2 := (wRd r kd nu nu dg ng true)) C 0 5 in1_X1_takesStar rfl (List.mem_of_getElem? (i := 2) rfl) rfl tyX1 tyX1_ok nmX1 rfl (rfl) (rfl) rfl (by decide) (Nat.le_of_ble_eq_true rfl) (rfl) dX1_takesStar_37 rfl ?_
        refine k_aload_n (q := 41) C 0 dX1_takesStar_40 rfl rfl ?_
        refine k_callVV (n := 0) (q := 44) (pre := ([] : va_W)) (post := ([] : va_W)) (w2 := (wRd r kd nu 0 0 ng true)) (As := []) (rest := []) C (c_X1_startNumber cy r kd nu nu dg ng true) gX1_takesStar_X1_startNumber rfl rfl rfl (by decide +kernel) (k_room hR (by decide)) ⟨Nat.zero_le _, Nat.zero_le _⟩ (ci := 1) rfl 0 rfl rfl rfl (Nat.le_of_ble_eq_true rfl) ((List.append_nil _).symm) (List.append_nil _) dX1_takesStar_41 rfl ?_
        refine k_iconst (q := 45) (v := 1) C dX1_takesStar_44 (by decide) rfl ?_
        exact k_fin E dX1_takesStar_45 (by rw [rStar_y c_6 c_13 c_22]; rfl) (by rw [rStar_y c_6 c_13 c_22])
      · intro c_22
        refine k_iconst (q := 26) (v := 0) C dX1_takesStar_25 (by decide) rfl ?_
        exact k_fin E dX1_takesStar_26 (by rw [rStar_n (by first | exact Or.inl c_6 | exact Or.inr (Or.inl c_13) | exact Or.inr (Or.inr c_22))]; rfl) (by rw [rStar_n (by first | exact Or.inl c_6 | exact Or.inr (Or.inl c_13) | exact Or.inr (Or.inr c_22))])
abbrev rm_X1_takesMinus : Room := { frames := 0, cells := 0, slots := 0, locals := 0 }
theorem in1_X1_takesMinus : ∀ w ∈ wsX10, w ∈ wsX1_takesMinus := fun _ h => (List.mem_cons_of_mem _ (List.mem_append_right _ h))
set_option maxHeartbeats 4000000 in
set_option maxRecDepth 100000 in
theorem c_X1_takesMinus (cy : Nat → ClassId) (r : Nat) (kd : Nat) (hg : Nat) (nu : Nat) (dg : Nat) (ng : Bool) (tk : Bool)  (hkd : kd < 65536) (hnu : nu < 10000) (hdg : dg < 1000) : kI yX1_takesMinus wsX1_takesMinus rm_X1_takesMinus cy [.ref r] (wRd r kd hg nu dg ng tk) (bI ((rMinus (kd, hg, nu, dg, ng, tk)).1 = true)) (wRd r ((rMinus (kd, hg, nu, dg, ng, tk)).2.1) ((rMinus (kd, hg, nu, dg, ng, tk)).2.2.1) ((rMinus (kd, hg, nu, dg, ng, tk)).2.2.2.1) ((rMinus (kd, hg, nu, dg, ng, tk)).2.2.2.2.1) ((rMinus (kd, hg, nu, dg, ng, tk)).2.2.2.2.2.1) ((rMinus (kd, hg, nu, dg, ng, tk)).2.2.2.2.2.2)) := by
  refine kI_of (cc := cX1_takesMinus) (maxL := 1) (rt := .boolean) (by decide) rfl (kb_nar _) (Nat.le_of_ble_eq_true rfl) ?_
  intro X hR C E
  have C : kC X 1 RX1 cX1_takesMinus wsX1_takesMinus cy := C
  refine k_fr (fr2 := [(0, .ref r)]) ⟨[0], rfl⟩ ?_
  refine k_aload_n (q := 1) C 0 dX1_takesMinus_0 rfl rfl ?_
  refine k_get (q := 4) (ci := 1) (v := .int (nI kd)) C 0 0 in1_X1_takesMinus rfl (List.mem_of_getElem? (i := 1) rfl) rfl rfl (by decide) rfl dX1_takesMinus_1 rfl ?_
  refine k_bipush (q := 6) (v := 97) C dX1_takesMinus_4 (by decide +kernel) rfl ?_
  refine k_nicmp_eq (a := kd) (b := 97)  (tgt := 18) (q := 9) C dX1_takesMinus_6 (by decide) rfl (by omega) (by decide) ?_ ?_
  · intro c_6
    refine k_aload_n (q := 19) C 0 dX1_takesMinus_18 rfl rfl ?_
    refine k_get (q := 22) (ci := 1) (v := .int (bI (ng = true))) C 0 4 in1_X1_takesMinus rfl (List.mem_of_getElem? (i := 2) rfl) rfl rfl (by decide) rfl dX1_takesMinus_19 rfl ?_
    refine k_ifB_ne (tgt := 32) (q := 25) C dX1_takesMinus_22 (by decide) rfl ?_ ?_
    · intro c_22
      refine k_iconst (q := 33) (v := 0) C dX1_takesMinus_32 (by decide) rfl ?_
      exact k_fin E dX1_takesMinus_33 (by rw [rMinus_n (by first | exact Or.inr (Or.inr c_29) | exact Or.inr (Or.inl c_22) | exact Or.inl ⟨c_6, c_15⟩)]; rfl) (by rw [rMinus_n (by first | exact Or.inr (Or.inr c_29) | exact Or.inr (Or.inl c_22) | exact Or.inl ⟨c_6, c_15⟩)])
    · intro c_22
      refine k_aload_n (q := 26) C 0 dX1_takesMinus_25 rfl rfl ?_
      refine k_get (q := 29) (ci := 1) (v := .int (nI dg)) C 0 3 in1_X1_takesMinus rfl (List.mem_of_getElem? (i := 3) rfl) rfl rfl (by decide) rfl dX1_takesMinus_26 rfl ?_
      refine k_nif_le (a := dg)  (tgt := 34) (q := 32) C dX1_takesMinus_29 (by decide) rfl (by omega) ?_ ?_
      · intro c_29
        refine k_aload_n (q := 35) C 0 dX1_takesMinus_34 rfl rfl ?_
        refine k_iconst (q := 36) (v := 1) C dX1_takesMinus_35 (by decide) rfl ?_
        refine k_put (q := 39) (ci := 1) (v := .int 1) (w2 := (wRd r kd hg nu dg true tk)) C 0 4 in1_X1_takesMinus rfl (List.mem_of_getElem? (i := 2) rfl) rfl tyX1 tyX1_ok nmX1 rfl (rfl) (rfl) rfl (by decide) (Nat.le_of_ble_eq_true rfl) (rfl) dX1_takesMinus_36 rfl ?_
        refine k_iconst (q := 40) (v := 1) C dX1_takesMinus_39 (by decide) rfl ?_
        exact k_fin E dX1_takesMinus_40 (by rw [rMinus_y (by first | exact Or.inl c_6 | exact Or.inr c_15) c_22 (by omega)]; rfl) (by rw [rMinus_y (by first | exact Or.inl c_6 | exact Or.inr c_15) c_22 (by omega)])
      · intro c_29
        refine k_iconst (q := 33) (v := 0) C dX1_takesMinus_32 (by decide) rfl ?_
        exact k_fin E dX1_takesMinus_33 (by rw [rMinus_n (by first | exact Or.inr (Or.inr c_29) | exact Or.inr (Or.inl c_22) | exact Or.inl ⟨c_6, c_15⟩)]; rfl) (by rw [rMinus_n (by first | exact Or.inr (Or.inr c_29) | exact Or.inr (Or.inl c_22) | exact Or.inl ⟨c_6, c_15⟩)])
  · intro c_6
    refine k_aload_n (q := 10) C 0 dX1_takesMinus_9 rfl rfl ?_
    refine k_get (q := 13) (ci := 1) (v := .int (nI kd)) C 0 0 in1_X1_takesMinus rfl (List.mem_of_getElem? (i := 1) rfl) rfl rfl (by decide) rfl dX1_takesMinus_10 rfl ?_
    refine k_bipush (q := 15) (v := 98) C dX1_takesMinus_13 (by decide +kernel) rfl ?_
    refine k_nicmp_ne (a := kd) (b := 98)  (tgt := 32) (q := 18) C dX1_takesMinus_15 (by decide) rfl (by omega) (by decide) ?_ ?_
    · intro c_15
      refine k_iconst (q := 33) (v := 0) C dX1_takesMinus_32 (by decide) rfl ?_
      exact k_fin E dX1_takesMinus_33 (by rw [rMinus_n (by first | exact Or.inr (Or.inr c_29) | exact Or.inr (Or.inl c_22) | exact Or.inl ⟨c_6, c_15⟩)]; rfl) (by rw [rMinus_n (by first | exact Or.inr (Or.inr c_29) | exact Or.inr (Or.inl c_22) | exact Or.inl ⟨c_6, c_15⟩)])
    · intro c_15
      refine k_aload_n (q := 19) C 0 dX1_takesMinus_18 rfl rfl ?_
      refine k_get (q := 22) (ci := 1) (v := .int (bI (ng = true))) C 0 4 in1_X1_takesMinus rfl (List.mem_of_getElem? (i := 2) rfl) rfl rfl (by decide) rfl dX1_takesMinus_19 rfl ?_
      refine k_ifB_ne (tgt := 32) (q := 25) C dX1_takesMinus_22 (by decide) rfl ?_ ?_
      · intro c_22
        refine k_iconst (q := 33) (v := 0) C dX1_takesMinus_32 (by decide) rfl ?_
        exact k_fin E dX1_takesMinus_33 (by rw [rMinus_n (by first | exact Or.inr (Or.inr c_29) | exact Or.inr (Or.inl c_22) | exact Or.inl ⟨c_6, c_15⟩)]; rfl) (by rw [rMinus_n (by first | exact Or.inr (Or.inr c_29) | exact Or.inr (Or.inl c_22) | exact Or.inl ⟨c_6, c_15⟩)])
      · intro c_22
        refine k_aload_n (q := 26) C 0 dX1_takesMinus_25 rfl rfl ?_
        refine k_get (q := 29) (ci := 1) (v := .int (nI dg)) C 0 3 in1_X1_takesMinus rfl (List.mem_of_getElem? (i := 3) rfl) rfl rfl (by decide) rfl dX1_takesMinus_26 rfl ?_
        refine k_nif_le (a := dg)  (tgt := 34) (q := 32) C dX1_takesMinus_29 (by decide) rfl (by omega) ?_ ?_
        · intro c_29
          refine k_aload_n (q := 35) C 0 dX1_takesMinus_34 rfl rfl ?_
          refine k_iconst (q := 36) (v := 1) C dX1_takesMinus_35 (by decide) rfl ?_
          refine k_put (q := 39) (ci := 1) (v := .int 1) (w2 := (wRd r kd hg nu dg true tk)) C 0 4 in1_X1_takesMinus rfl (List.mem_of_getElem? (i := 2) rfl) rfl tyX1 tyX1_ok nmX1 rfl (rfl) (rfl) rfl (by decide) (Nat.le_of_ble_eq_true rfl) (rfl) dX1_takesMinus_36 rfl ?_
          refine k_iconst (q := 40) (v := 1) C dX1_takesMinus_39 (by decide) rfl ?_
          exact k_fin E dX1_takesMinus_40 (by rw [rMinus_y (by first | exact Or.inl c_6 | exact Or.inr c_15) c_22 (by omega)]; rfl) (by rw [rMinus_y (by first | exact Or.inl c_6 | exact Or.inr c_15) c_22 (by omega)])
        · intro c_29
          refine k_iconst (q := 33) (v := 0) C dX1_takesMinus_32 (by decide) rfl ?_
          exact k_fin E dX1_takesMinus_33 (by rw [rMinus_n (by first | exact Or.inr (Or.inr c_29) | exact Or.inr (Or.inl c_22) | exact Or.inl ⟨c_6, c_15⟩)]; rfl) (by rw [rMinus_n (by first | exact Or.inr (Or.inr c_29) | exact Or.inr (Or.inl c_22) | exact Or.inl ⟨c_6, c_15⟩)])
abbrev rm_X1_mostOfNumber : Room := { frames := 0, cells := 0, slots := 0, locals := 0 }
theorem in1_X1_mostOfNumber : ∀ w ∈ wsX10, w ∈ wsX1_mostOfNumber := fun _ h => (List.mem_cons_of_mem _ (List.mem_append_right _ h))
set_option maxHeartbeats 4000000 in
set_option maxRecDepth 100000 in
theorem c_X1_mostOfNumber (cy : Nat → ClassId) (r : Nat) (kd : Nat) (hg : Nat) (nu : Nat) (dg : Nat) (ng : Bool) (tk : Bool)  (hkd : kd < 65536) : kI yX1_mostOfNumber wsX1_mostOfNumber rm_X1_mostOfNumber cy [.ref r] (wRd r kd hg nu dg ng tk) (nI (rMost kd tk)) (wRd r kd hg nu dg ng tk) := by
  refine kI_of (cc := cX1_mostOfNumber) (maxL := 1) (rt := .int) (by decide) rfl (rfl) (Nat.le_of_ble_eq_true rfl) ?_
  intro X hR C E
  have C : kC X 1 RX1 cX1_mostOfNumber wsX1_mostOfNumber cy := C
  refine k_fr (fr2 := [(0, .ref r)]) ⟨[0], rfl⟩ ?_
  refine k_aload_n (q := 1) C 0 dX1_mostOfNumber_0 rfl rfl ?_
  refine k_get (q := 4) (ci := 1) (v := .int (nI kd)) C 0 0 in1_X1_mostOfNumber rfl (List.mem_of_getElem? (i := 1) rfl) rfl rfl (by decide) rfl dX1_mostOfNumber_1 rfl ?_
  by_cases s_4_99 : kd = 99
  · refine k_lookup (q := 32) (off := 28) C dX1_mostOfNumber_4 (by decide +kernel) (by rw [s_4_99]; decide +kernel) (by decide) ?_
    refine k_aload_n (q := 33) C 0 dX1_mostOfNumber_32 rfl rfl ?_
    refine k_get (q := 36) (ci := 1) (v := .int (bI (tk = true))) C 0 5 in1_X1_mostOfNumber rfl (List.mem_of_getElem? (i := 2) rfl) rfl rfl (by decide) rfl dX1_mostOfNumber_33 rfl ?_
    refine k_ifB_eq (tgt := 44) (q := 39) C dX1_mostOfNumber_36 (by decide) rfl ?_ ?_
    · intro c_36
      refine k_sipush (q := 47) (v := 3000) C dX1_mostOfNumber_44 (by decide +kernel) rfl ?_
      exact k_fin E dX1_mostOfNumber_47 (by rw [rMost, if_pos s_4_99]; first | (rw [if_pos c_36]; rfl) | (rw [if_neg c_36]; rfl)) (rfl)
    · intro c_36
      refine k_bipush (q := 41) (v := 100) C dX1_mostOfNumber_39 (by decide +kernel) rfl ?_
      refine k_goto (q := 47) C dX1_mostOfNumber_41 (by decide) ?_
      exact k_fin E dX1_mostOfNumber_47 (by rw [rMost, if_pos s_4_99]; first | (rw [if_pos c_36]; rfl) | (rw [if_neg c_36]; rfl)) (rfl)
  by_cases s_4_120 : kd = 120
  · refine k_lookup (q := 48) (off := 44) C dX1_mostOfNumber_4 (by decide +kernel) (by rw [s_4_120]; decide +kernel) (by decide) ?_
    refine k_iconst (q := 49) (v := 5) C dX1_mostOfNumber_48 (by decide) rfl ?_
    exact k_fin E dX1_mostOfNumber_49 (by rw [rMost, if_neg s_4_99, if_pos s_4_120]; rfl) (rfl)
  have n_4_99 : ¬ nI kd = 99 := fun q => s_4_99 ((nI_eq (a := kd) (b := 99) (by omega) (by decide)).mp q)
  have n_4_120 : ¬ nI kd = 120 := fun q => s_4_120 ((nI_eq (a := kd) (b := 120) (by omega) (by decide)).mp q)
  refine k_lookup (q := 50) (off := 46) C dX1_mostOfNumber_4 (by decide +kernel) (by show Op.lookupswitch.offset [(99, 28), (120, 44)] (46) _ = _; rw [lv_osw n_4_99 (a := 99) (by decide +kernel), lv_osw n_4_120 (a := 120) (by decide +kernel)]; rfl) (by decide) ?_
  refine k_bipush (q := 52) (v := 30) C dX1_mostOfNumber_50 (by decide +kernel) rfl ?_
  exact k_fin E dX1_mostOfNumber_52 (by rw [rMost, if_neg s_4_99, if_neg s_4_120]; rfl) (rfl)
abbrev rm_X1_takesDigit : Room := { frames := 1, cells := 0, slots := 0, locals := 20 }
theorem in1_X1_takesDigit : ∀ w ∈ wsX10, w ∈ wsX1_takesDigit := fun _ h => (List.mem_cons_of_mem _ (List.mem_append_right _ h))
set_option maxHeartbeats 4000000 in
set_option maxRecDepth 100000 in
theorem c_X1_takesDigit (cy : Nat → ClassId) (r : Nat) (kd : Nat) (hg : Nat) (nu : Nat) (dg : Nat) (ng : Bool) (tk : Bool) (d : Nat)  (hkd : kd < 65536) (hnu : nu < 10000) (hdg : dg < 1000) (hd : d < 10) : kI yX1_takesDigit wsX1_takesDigit rm_X1_takesDigit cy [.ref r, .int (nI d)] (wRd r kd hg nu dg ng tk) (bI ((rDigit d (kd, hg, nu, dg, ng, tk)).1 = true)) (wRd r ((rDigit d (kd, hg, nu, dg, ng, tk)).2.1) ((rDigit d (kd, hg, nu, dg, ng, tk)).2.2.1) ((rDigit d (kd, hg, nu, dg, ng, tk)).2.2.2.1) ((rDigit d (kd, hg, nu, dg, ng, tk)).2.2.2.2.1) ((rDigit d (kd, hg, nu, dg, ng, tk)).2.2.2.2.2.1) ((rDigit d (kd, hg, nu, dg, ng, tk)).2.2.2.2.2.2)) := by
  refine kI_of (cc := cX1_takesDigit) (maxL := 5) (rt := .boolean) (by decide) rfl (kb_nar _) (Nat.le_of_ble_eq_true rfl) ?_
  intro X hR C E
  have C : kC X 5 RX1 cX1_takesDigit wsX1_takesDigit cy := C
  refine k_fr (fr2 := [(0, .ref r), (1, .int (nI d))]) ⟨[0, 1], rfl⟩ ?_
  have hmo := rMost_le kd tk
  refine k_aload_n (q := 1) C 0 dX1_takesDigit_0 rfl rfl ?_
  refine k_get (q := 4) (ci := 1) (v := .int (nI dg)) C 0 3 in1_X1_takesDigit rfl (List.mem_of_getElem? (i := 1) rfl) rfl rfl (by decide) rfl dX1_takesDigit_1 rfl ?_
  refine k_nif_le (a := dg)  (tgt := 18) (q := 7) C dX1_takesDigit_4 (by decide) rfl (by omega) ?_ ?_
  · intro c_4
    refine k_iconst (q := 19) (v := 0) C dX1_takesDigit_18 (by decide) rfl ?_
    refine k_istore_n (q := 20) (fr2 := [(2, .int 0), (0, .ref r), (1, .int (nI d))]) C dX1_takesDigit_19 (by decide) rfl rfl ?_
    refine k_aload_n (q := 21) C 1 dX1_takesDigit_20 rfl rfl ?_
    refine k_get (q := 24) (ci := 1) (v := .int (nI kd)) C 0 0 in1_X1_takesDigit rfl (List.mem_of_getElem? (i := 3) rfl) rfl rfl (by decide) rfl dX1_takesDigit_21 rfl ?_
    refine k_bipush (q := 26) (v := 99) C dX1_takesDigit_24 (by decide +kernel) rfl ?_
    refine k_nicmp_ne (a := kd) (b := 99)  (tgt := 44) (q := 29) C dX1_takesDigit_26 (by decide) rfl (by omega) (by decide) ?_ ?_
    · intro c_26
      refine k_iconst (q := 45) (v := 0) C dX1_takesDigit_44 (by decide) rfl ?_
      refine k_istore_n (q := 46) (fr2 := [(3, .int 0), (2, .int 0), (0, .ref r), (1, .int (nI d))]) C dX1_takesDigit_45 (by decide) rfl rfl ?_
      refine k_aload_n (q := 47) C 2 dX1_takesDigit_46 rfl rfl ?_
      refine k_get (q := 50) (ci := 1) (v := .int (nI nu)) C 0 2 in1_X1_takesDigit rfl (List.mem_of_getElem? (i := 2) rfl) rfl rfl (by decide) rfl dX1_takesDigit_47 rfl ?_
      refine k_bipush (q := 52) (v := 10) C dX1_takesDigit_50 (by decide +kernel) rfl ?_
      refine k_imul (q := 53) C dX1_takesDigit_52 rfl ?_
      refine k_st (st2 := (.int (nI (nu * 10)) :: _)) (congrArg (fun z => Value.int z :: _) (show (nI nu) * 10 = nI (nu * 10) from pk_mul nu 10)) ?_
      refine k_iload_n (q := 54) C 3 dX1_takesDigit_53 rfl rfl ?_
      refine k_iadd (q := 55) C dX1_takesDigit_54 rfl ?_
      refine k_st (st2 := (.int (nI (nu * 10 + d)) :: _)) (congrArg (fun z => Value.int z :: _) (show (nI (nu * 10)) + (nI d) = nI (nu * 10 + d) from nI_add (nu * 10) d)) ?_
      refine k_istore (q := 57) (fr2 := [(4, .int (nI (nu * 10 + d))), (3, .int 0), (2, .int 0), (0, .ref r), (1, .int (nI d))]) C dX1_takesDigit_55 (by decide) rfl rfl ?_
      refine k_aload_n (q := 58) C 3 dX1_takesDigit_57 rfl rfl ?_
      refine k_get (q := 61) (ci := 1) (v := .int (nI kd)) C 0 0 in1_X1_takesDigit rfl (List.mem_of_getElem? (i := 3) rfl) rfl rfl (by decide) rfl dX1_takesDigit_58 rfl ?_
      refine k_bipush (q := 63) (v := 110) C dX1_takesDigit_61 (by decide +kernel) rfl ?_
      refine k_nicmp_eq (a := kd) (b := 110)  (tgt := 83) (q := 66) C dX1_takesDigit_63 (by decide) rfl (by omega) (by decide) ?_ ?_
      · intro c_63
        refine k_iconst (q := 84) (v := 0) C dX1_takesDigit_83 (by decide) rfl ?_
        exact k_fin E dX1_takesDigit_84 (by rw [rDigit_n (by omega)]; rfl) (by rw [rDigit_n (by omega)])
      · intro c_63
        refine k_iload_n (q := 67) C 2 dX1_takesDigit_66 rfl rfl ?_
        refine k_if_ne (tgt := 83) (q := 70) C dX1_takesDigit_67 (by decide) rfl ?_ ?_
        · exact fun c_67 => absurd c_67 (by decide)
        · intro c_67
          refine k_iload_n (q := 71) C 1 dX1_takesDigit_70 rfl rfl ?_
          refine k_if_ne (tgt := 83) (q := 74) C dX1_takesDigit_71 (by decide) rfl ?_ ?_
          · exact fun c_71 => absurd c_71 (by decide)
          · intro c_71
            refine k_iload (q := 76) C 0 dX1_takesDigit_74 rfl rfl ?_
            refine k_aload_n (q := 77) C 3 dX1_takesDigit_76 rfl rfl ?_
            refine k_callVI (n := 0) (q := 80) (pre := ([] : va_W)) (post := ([] : va_W)) (w2 := (wRd r kd hg nu dg ng tk)) (As := []) (rest := [.int (nI (nu * 10 + d))]) C (c_X1_mostOfNumber cy r kd hg nu dg ng tk (by omega)) gX1_takesDigit_X1_mostOfNumber rfl rfl rfl (by decide +kernel) (k_room hR (by decide)) ⟨Nat.zero_le _, Nat.zero_le _⟩ (ci := 1) rfl 0 rfl rfl rfl (Nat.le_of_ble_eq_true rfl) ((List.append_nil _).symm) (List.append_nil _) dX1_takesDigit_77 rfl ?_
            refine k_nicmp_le (a := nu * 10 + d) (b := rMost kd tk)  (tgt := 85) (q := 83) C dX1_takesDigit_80 (by decide) rfl (by omega) (by omega) ?_ ?_
            · intro c_80
              refine k_aload_n (q := 86) C 3 dX1_takesDigit_85 rfl rfl ?_
              refine k_iload (q := 88) C 0 dX1_takesDigit_86 rfl rfl ?_
              refine k_put (q := 91) (ci := 1) (v := .int (nI (nu * 10 + d))) (w2 := (wRd r kd hg (nu * 10 + d) dg ng tk)) C 0 2 in1_X1_takesDigit rfl (List.mem_of_getElem? (i := 2) rfl) rfl tyX1 tyX1_ok nmX1 rfl (rfl) (rfl) rfl (by decide) (Nat.le_of_ble_eq_true rfl) (rfl) dX1_takesDigit_88 rfl ?_
              refine k_aload_n (q := 92) C 3 dX1_takesDigit_91 rfl rfl ?_
              refine k_dup (q := 93) C dX1_takesDigit_92 rfl rfl ?_
              refine k_get (q := 96) (ci := 1) (v := .int (nI dg)) C 0 3 in1_X1_takesDigit rfl (List.mem_of_getElem? (i := 1) rfl) rfl rfl (by decide) rfl dX1_takesDigit_93 rfl ?_
              refine k_iconst (q := 97) (v := 1) C dX1_takesDigit_96 (by decide) rfl ?_
              refine k_iadd (q := 98) C dX1_takesDigit_97 rfl ?_
              refine k_st (st2 := (.int (nI (dg + 1)) :: _)) (congrArg (fun z => Value.int z :: _) (show (nI dg) + 1 = nI (dg + 1) from nI_add dg 1)) ?_
              refine k_put (q := 101) (ci := 1) (v := .int (nI (dg + 1))) (w2 := (wRd r kd hg (nu * 10 + d) (dg + 1) ng tk)) C 0 3 in1_X1_takesDigit rfl (List.mem_of_getElem? (i := 1) rfl) rfl tyX1 tyX1_ok nmX1 rfl (rfl) (rfl) rfl (by decide) (Nat.le_of_ble_eq_true rfl) (rfl) dX1_takesDigit_98 rfl ?_
              refine k_iconst (q := 102) (v := 1) C dX1_takesDigit_101 (by decide) rfl ?_
              exact k_fin E dX1_takesDigit_102 (by rw [rDigit_y (by omega)]; rfl) (by rw [rDigit_y (by omega)])
            · intro c_80
              refine k_iconst (q := 84) (v := 0) C dX1_takesDigit_83 (by decide) rfl ?_
              exact k_fin E dX1_takesDigit_84 (by rw [rDigit_n (by omega)]; rfl) (by rw [rDigit_n (by omega)])
    · intro c_26
      refine k_aload_n (q := 30) C 1 dX1_takesDigit_29 rfl rfl ?_
      refine k_get (q := 33) (ci := 1) (v := .int (nI dg)) C 0 3 in1_X1_takesDigit rfl (List.mem_of_getElem? (i := 1) rfl) rfl rfl (by decide) rfl dX1_takesDigit_30 rfl ?_
      refine k_nif_ne (a := dg)  (tgt := 44) (q := 36) C dX1_takesDigit_33 (by decide) rfl (by omega) ?_ ?_
      · intro c_33
        refine k_iconst (q := 45) (v := 0) C dX1_takesDigit_44 (by decide) rfl ?_
        refine k_istore_n (q := 46) (fr2 := [(3, .int 0), (2, .int 0), (0, .ref r), (1, .int (nI d))]) C dX1_takesDigit_45 (by decide) rfl rfl ?_
        refine k_aload_n (q := 47) C 2 dX1_takesDigit_46 rfl rfl ?_
        refine k_get (q := 50) (ci := 1) (v := .int (nI nu)) C 0 2 in1_X1_takesDigit rfl (List.mem_of_getElem? (i := 2) rfl) rfl rfl (by decide) rfl dX1_takesDigit_47 rfl ?_
        refine k_bipush (q := 52) (v := 10) C dX1_takesDigit_50 (by decide +kernel) rfl ?_
        refine k_imul (q := 53) C dX1_takesDigit_52 rfl ?_
        refine k_st (st2 := (.int (nI (nu * 10)) :: _)) (congrArg (fun z => Value.int z :: _) (show (nI nu) * 10 = nI (nu * 10) from pk_mul nu 10)) ?_
        refine k_iload_n (q := 54) C 3 dX1_takesDigit_53 rfl rfl ?_
        refine k_iadd (q := 55) C dX1_takesDigit_54 rfl ?_
        refine k_st (st2 := (.int (nI (nu * 10 + d)) :: _)) (congrArg (fun z => Value.int z :: _) (show (nI (nu * 10)) + (nI d) = nI (nu * 10 + d) from nI_add (nu * 10) d)) ?_
        refine k_istore (q := 57) (fr2 := [(4, .int (nI (nu * 10 + d))), (3, .int 0), (2, .int 0), (0, .ref r), (1, .int (nI d))]) C dX1_takesDigit_55 (by decide) rfl rfl ?_
        refine k_aload_n (q := 58) C 3 dX1_takesDigit_57 rfl rfl ?_
        refine k_get (q := 61) (ci := 1) (v := .int (nI kd)) C 0 0 in1_X1_takesDigit rfl (List.mem_of_getElem? (i := 3) rfl) rfl rfl (by decide) rfl dX1_takesDigit_58 rfl ?_
        refine k_bipush (q := 63) (v := 110) C dX1_takesDigit_61 (by decide +kernel) rfl ?_
        refine k_nicmp_eq (a := kd) (b := 110)  (tgt := 83) (q := 66) C dX1_takesDigit_63 (by decide) rfl (by omega) (by decide) ?_ ?_
        · intro c_63
          refine k_iconst (q := 84) (v := 0) C dX1_takesDigit_83 (by decide) rfl ?_
          exact k_fin E dX1_takesDigit_84 (by rw [rDigit_n (by omega)]; rfl) (by rw [rDigit_n (by omega)])
        · intro c_63
          refine k_iload_n (q := 67) C 2 dX1_takesDigit_66 rfl rfl ?_
          refine k_if_ne (tgt := 83) (q := 70) C dX1_takesDigit_67 (by decide) rfl ?_ ?_
          · exact fun c_67 => absurd c_67 (by decide)
          · intro c_67
            refine k_iload_n (q := 71) C 1 dX1_takesDigit_70 rfl rfl ?_
            refine k_if_ne (tgt := 83) (q := 74) C dX1_takesDigit_71 (by decide) rfl ?_ ?_
            · exact fun c_71 => absurd c_71 (by decide)
            · intro c_71
              refine k_iload (q := 76) C 0 dX1_takesDigit_74 rfl rfl ?_
              refine k_aload_n (q := 77) C 3 dX1_takesDigit_76 rfl rfl ?_
              refine k_callVI (n := 0) (q := 80) (pre := ([] : va_W)) (post := ([] : va_W)) (w2 := (wRd r kd hg nu dg ng tk)) (As := []) (rest := [.int (nI (nu * 10 + d))]) C (c_X1_mostOfNumber cy r kd hg nu dg ng tk (by omega)) gX1_takesDigit_X1_mostOfNumber rfl rfl rfl (by decide +kernel) (k_room hR (by decide)) ⟨Nat.zero_le _, Nat.zero_le _⟩ (ci := 1) rfl 0 rfl rfl rfl (Nat.le_of_ble_eq_true rfl) ((List.append_nil _).symm) (List.append_nil _) dX1_takesDigit_77 rfl ?_
              refine k_nicmp_le (a := nu * 10 + d) (b := rMost kd tk)  (tgt := 85) (q := 83) C dX1_takesDigit_80 (by decide) rfl (by omega) (by omega) ?_ ?_
              · intro c_80
                refine k_aload_n (q := 86) C 3 dX1_takesDigit_85 rfl rfl ?_
                refine k_iload (q := 88) C 0 dX1_takesDigit_86 rfl rfl ?_
                refine k_put (q := 91) (ci := 1) (v := .int (nI (nu * 10 + d))) (w2 := (wRd r kd hg (nu * 10 + d) dg ng tk)) C 0 2 in1_X1_takesDigit rfl (List.mem_of_getElem? (i := 2) rfl) rfl tyX1 tyX1_ok nmX1 rfl (rfl) (rfl) rfl (by decide) (Nat.le_of_ble_eq_true rfl) (rfl) dX1_takesDigit_88 rfl ?_
                refine k_aload_n (q := 92) C 3 dX1_takesDigit_91 rfl rfl ?_
                refine k_dup (q := 93) C dX1_takesDigit_92 rfl rfl ?_
                refine k_get (q := 96) (ci := 1) (v := .int (nI dg)) C 0 3 in1_X1_takesDigit rfl (List.mem_of_getElem? (i := 1) rfl) rfl rfl (by decide) rfl dX1_takesDigit_93 rfl ?_
                refine k_iconst (q := 97) (v := 1) C dX1_takesDigit_96 (by decide) rfl ?_
                refine k_iadd (q := 98) C dX1_takesDigit_97 rfl ?_
                refine k_st (st2 := (.int (nI (dg + 1)) :: _)) (congrArg (fun z => Value.int z :: _) (show (nI dg) + 1 = nI (dg + 1) from nI_add dg 1)) ?_
                refine k_put (q := 101) (ci := 1) (v := .int (nI (dg + 1))) (w2 := (wRd r kd hg (nu * 10 + d) (dg + 1) ng tk)) C 0 3 in1_X1_takesDigit rfl (List.mem_of_getElem? (i := 1) rfl) rfl tyX1 tyX1_ok nmX1 rfl (rfl) (rfl) rfl (by decide) (Nat.le_of_ble_eq_true rfl) (rfl) dX1_takesDigit_98 rfl ?_
                refine k_iconst (q := 102) (v := 1) C dX1_takesDigit_101 (by decide) rfl ?_
                exact k_fin E dX1_takesDigit_102 (by rw [rDigit_y (by omega)]; rfl) (by rw [rDigit_y (by omega)])
              · intro c_80
                refine k_iconst (q := 84) (v := 0) C dX1_takesDigit_83 (by decide) rfl ?_
                exact k_fin E dX1_takesDigit_84 (by rw [rDigit_n (by omega)]; rfl) (by rw [rDigit_n (by omega)])
      · intro c_33
        refine k_iload_n (q := 37) C 2 dX1_takesDigit_36 rfl rfl ?_
        refine k_nif_ne (a := d)  (tgt := 44) (q := 40) C dX1_takesDigit_37 (by decide) rfl (by omega) ?_ ?_
        · intro c_37
          refine k_iconst (q := 45) (v := 0) C dX1_takesDigit_44 (by decide) rfl ?_
          refine k_istore_n (q := 46) (fr2 := [(3, .int 0), (2, .int 0), (0, .ref r), (1, .int (nI d))]) C dX1_takesDigit_45 (by decide) rfl rfl ?_
          refine k_aload_n (q := 47) C 2 dX1_takesDigit_46 rfl rfl ?_
          refine k_get (q := 50) (ci := 1) (v := .int (nI nu)) C 0 2 in1_X1_takesDigit rfl (List.mem_of_getElem? (i := 2) rfl) rfl rfl (by decide) rfl dX1_takesDigit_47 rfl ?_
          refine k_bipush (q := 52) (v := 10) C dX1_takesDigit_50 (by decide +kernel) rfl ?_
          refine k_imul (q := 53) C dX1_takesDigit_52 rfl ?_
          refine k_st (st2 := (.int (nI (nu * 10)) :: _)) (congrArg (fun z => Value.int z :: _) (show (nI nu) * 10 = nI (nu * 10) from pk_mul nu 10)) ?_
          refine k_iload_n (q := 54) C 3 dX1_takesDigit_53 rfl rfl ?_
          refine k_iadd (q := 55) C dX1_takesDigit_54 rfl ?_
          refine k_st (st2 := (.int (nI (nu * 10 + d)) :: _)) (congrArg (fun z => Value.int z :: _) (show (nI (nu * 10)) + (nI d) = nI (nu * 10 + d) from nI_add (nu * 10) d)) ?_
          refine k_istore (q := 57) (fr2 := [(4, .int (nI (nu * 10 + d))), (3, .int 0), (2, .int 0), (0, .ref r), (1, .int (nI d))]) C dX1_takesDigit_55 (by decide) rfl rfl ?_
          refine k_aload_n (q := 58) C 3 dX1_takesDigit_57 rfl rfl ?_
          refine k_get (q := 61) (ci := 1) (v := .int (nI kd)) C 0 0 in1_X1_takesDigit rfl (List.mem_of_getElem? (i := 3) rfl) rfl rfl (by decide) rfl dX1_takesDigit_58 rfl ?_
          refine k_bipush (q := 63) (v := 110) C dX1_takesDigit_61 (by decide +kernel) rfl ?_
          refine k_nicmp_eq (a := kd) (b := 110)  (tgt := 83) (q := 66) C dX1_takesDigit_63 (by decide) rfl (by omega) (by decide) ?_ ?_
          · intro c_63
            refine k_iconst (q := 84) (v := 0) C dX1_takesDigit_83 (by decide) rfl ?_
            exact k_fin E dX1_takesDigit_84 (by rw [rDigit_n (by omega)]; rfl) (by rw [rDigit_n (by omega)])
          · intro c_63
            refine k_iload_n (q := 67) C 2 dX1_takesDigit_66 rfl rfl ?_
            refine k_if_ne (tgt := 83) (q := 70) C dX1_takesDigit_67 (by decide) rfl ?_ ?_
            · exact fun c_67 => absurd c_67 (by decide)
            · intro c_67
              refine k_iload_n (q := 71) C 1 dX1_takesDigit_70 rfl rfl ?_
              refine k_if_ne (tgt := 83) (q := 74) C dX1_takesDigit_71 (by decide) rfl ?_ ?_
              · exact fun c_71 => absurd c_71 (by decide)
              · intro c_71
                refine k_iload (q := 76) C 0 dX1_takesDigit_74 rfl rfl ?_
                refine k_aload_n (q := 77) C 3 dX1_takesDigit_76 rfl rfl ?_
                refine k_callVI (n := 0) (q := 80) (pre := ([] : va_W)) (post := ([] : va_W)) (w2 := (wRd r kd hg nu dg ng tk)) (As := []) (rest := [.int (nI (nu * 10 + d))]) C (c_X1_mostOfNumber cy r kd hg nu dg ng tk (by omega)) gX1_takesDigit_X1_mostOfNumber rfl rfl rfl (by decide +kernel) (k_room hR (by decide)) ⟨Nat.zero_le _, Nat.zero_le _⟩ (ci := 1) rfl 0 rfl rfl rfl (Nat.le_of_ble_eq_true rfl) ((List.append_nil _).symm) (List.append_nil _) dX1_takesDigit_77 rfl ?_
                refine k_nicmp_le (a := nu * 10 + d) (b := rMost kd tk)  (tgt := 85) (q := 83) C dX1_takesDigit_80 (by decide) rfl (by omega) (by omega) ?_ ?_
                · intro c_80
                  refine k_aload_n (q := 86) C 3 dX1_takesDigit_85 rfl rfl ?_
                  refine k_iload (q := 88) C 0 dX1_takesDigit_86 rfl rfl ?_
                  refine k_put (q := 91) (ci := 1) (v := .int (nI (nu * 10 + d))) (w2 := (wRd r kd hg (nu * 10 + d) dg ng tk)) C 0 2 in1_X1_takesDigit rfl (List.mem_of_getElem? (i := 2) rfl) rfl tyX1 tyX1_ok nmX1 rfl (rfl) (rfl) rfl (by decide) (Nat.le_of_ble_eq_true rfl) (rfl) dX1_takesDigit_88 rfl ?_
                  refine k_aload_n (q := 92) C 3 dX1_takesDigit_91 rfl rfl ?_
                  refine k_dup (q := 93) C dX1_takesDigit_92 rfl rfl ?_
                  refine k_get (q := 96) (ci := 1) (v := .int (nI dg)) C 0 3 in1_X1_takesDigit rfl (List.mem_of_getElem? (i := 1) rfl) rfl rfl (by decide) rfl dX1_takesDigit_93 rfl ?_
                  refine k_iconst (q := 97) (v := 1) C dX1_takesDigit_96 (by decide) rfl ?_
                  refine k_iadd (q := 98) C dX1_takesDigit_97 rfl ?_
                  refine k_st (st2 := (.int (nI (dg + 1)) :: _)) (congrArg (fun z => Value.int z :: _) (show (nI dg) + 1 = nI (dg + 1) from nI_add dg 1)) ?_
                  refine k_put (q := 101) (ci := 1) (v := .int (nI (dg + 1))) (w2 := (wRd r kd hg (nu * 10 + d) (dg + 1) ng tk)) C 0 3 in1_X1_takesDigit rfl (List.mem_of_getElem? (i := 1) rfl) rfl tyX1 tyX1_ok nmX1 rfl (rfl) (rfl) rfl (by decide) (Nat.le_of_ble_eq_true rfl) (rfl) dX1_takesDigit_98 rfl ?_
                  refine k_iconst (q := 102) (v := 1) C dX1_takesDigit_101 (by decide) rfl ?_
                  exact k_fin E dX1_takesDigit_102 (by rw [rDigit_y (by omega)]; rfl) (by rw [rDigit_y (by omega)])
                · intro c_80
                  refine k_iconst (q := 84) (v := 0) C dX1_takesDigit_83 (by decide) rfl ?_
                  exact k_fin E dX1_takesDigit_84 (by rw [rDigit_n (by omega)]; rfl) (by rw [rDigit_n (by omega)])
        · intro c_37
          refine k_iconst (q := 41) (v := 1) C dX1_takesDigit_40 (by decide) rfl ?_
          refine k_goto (q := 45) C dX1_takesDigit_41 (by decide) ?_
          refine k_istore_n (q := 46) (fr2 := [(3, .int 1), (2, .int 0), (0, .ref r), (1, .int (nI d))]) C dX1_takesDigit_45 (by decide) rfl rfl ?_
          refine k_aload_n (q := 47) C 2 dX1_takesDigit_46 rfl rfl ?_
          refine k_get (q := 50) (ci := 1) (v := .int (nI nu)) C 0 2 in1_X1_takesDigit rfl (List.mem_of_getElem? (i := 2) rfl) rfl rfl (by decide) rfl dX1_takesDigit_47 rfl ?_
          refine k_bipush (q := 52) (v := 10) C dX1_takesDigit_50 (by decide +kernel) rfl ?_
          refine k_imul (q := 53) C dX1_takesDigit_52 rfl ?_
          refine k_st (st2 := (.int (nI (nu * 10)) :: _)) (congrArg (fun z => Value.int z :: _) (show (nI nu) * 10 = nI (nu * 10) from pk_mul nu 10)) ?_
          refine k_iload_n (q := 54) C 3 dX1_takesDigit_53 rfl rfl ?_
          refine k_iadd (q := 55) C dX1_takesDigit_54 rfl ?_
          refine k_st (st2 := (.int (nI (nu * 10 + d)) :: _)) (congrArg (fun z => Value.int z :: _) (show (nI (nu * 10)) + (nI d) = nI (nu * 10 + d) from nI_add (nu * 10) d)) ?_
          refine k_istore (q := 57) (fr2 := [(4, .int (nI (nu * 10 + d))), (3, .int 1), (2, .int 0), (0, .ref r), (1, .int (nI d))]) C dX1_takesDigit_55 (by decide) rfl rfl ?_
          refine k_aload_n (q := 58) C 3 dX1_takesDigit_57 rfl rfl ?_
          refine k_get (q := 61) (ci := 1) (v := .int (nI kd)) C 0 0 in1_X1_takesDigit rfl (List.mem_of_getElem? (i := 3) rfl) rfl rfl (by decide) rfl dX1_takesDigit_58 rfl ?_
          refine k_bipush (q := 63) (v := 110) C dX1_takesDigit_61 (by decide +kernel) rfl ?_
          refine k_nicmp_eq (a := kd) (b := 110)  (tgt := 83) (q := 66) C dX1_takesDigit_63 (by decide) rfl (by omega) (by decide) ?_ ?_
          · intro c_63
            refine k_iconst (q := 84) (v := 0) C dX1_takesDigit_83 (by decide) rfl ?_
            exact k_fin E dX1_takesDigit_84 (by rw [rDigit_n (by omega)]; rfl) (by rw [rDigit_n (by omega)])
          · intro c_63
            refine k_iload_n (q := 67) C 2 dX1_takesDigit_66 rfl rfl ?_
            refine k_if_ne (tgt := 83) (q := 70) C dX1_takesDigit_67 (by decide) rfl ?_ ?_
            · exact fun c_67 => absurd c_67 (by decide)
            · intro c_67
              refine k_iload_n (q := 71) C 1 dX1_takesDigit_70 rfl rfl ?_
              refine k_if_ne (tgt := 83) (q := 74) C dX1_takesDigit_71 (by decide) rfl ?_ ?_
              · intro c_71
                refine k_iconst (q := 84) (v := 0) C dX1_takesDigit_83 (by decide) rfl ?_
                exact k_fin E dX1_takesDigit_84 (by rw [rDigit_n (by omega)]; rfl) (by rw [rDigit_n (by omega)])
              · exact fun c_71 => absurd c_71 (by decide)
  · intro c_4
    refine k_aload_n (q := 8) C 0 dX1_takesDigit_7 rfl rfl ?_
    refine k_get (q := 11) (ci := 1) (v := .int (nI nu)) C 0 2 in1_X1_takesDigit rfl (List.mem_of_getElem? (i := 2) rfl) rfl rfl (by decide) rfl dX1_takesDigit_8 rfl ?_
    refine k_nif_ne (a := nu)  (tgt := 18) (q := 14) C dX1_takesDigit_11 (by decide) rfl (by omega) ?_ ?_
    · intro c_11
      refine k_iconst (q := 19) (v := 0) C dX1_takesDigit_18 (by decide) rfl ?_
      refine k_istore_n (q := 20) (fr2 := [(2, .int 0), (0, .ref r), (1, .int (nI d))]) C dX1_takesDigit_19 (by decide) rfl rfl ?_
      refine k_aload_n (q := 21) C 1 dX1_takesDigit_20 rfl rfl ?_
      refine k_get (q := 24) (ci := 1) (v := .int (nI kd)) C 0 0 in1_X1_takesDigit rfl (List.mem_of_getElem? (i := 3) rfl) rfl rfl (by decide) rfl dX1_takesDigit_21 rfl ?_
      refine k_bipush (q := 26) (v := 99) C dX1_takesDigit_24 (by decide +kernel) rfl ?_
      refine k_nicmp_ne (a := kd) (b := 99)  (tgt := 44) (q := 29) C dX1_takesDigit_26 (by decide) rfl (by omega) (by decide) ?_ ?_
      · intro c_26
        refine k_iconst (q := 45) (v := 0) C dX1_takesDigit_44 (by decide) rfl ?_
        refine k_istore_n (q := 46) (fr2 := [(3, .int 0), (2, .int 0), (0, .ref r), (1, .int (nI d))]) C dX1_takesDigit_45 (by decide) rfl rfl ?_
        refine k_aload_n (q := 47) C 2 dX1_takesDigit_46 rfl rfl ?_
        refine k_get (q := 50) (ci := 1) (v := .int (nI nu)) C 0 2 in1_X1_takesDigit rfl (List.mem_of_getElem? (i := 2) rfl) rfl rfl (by decide) rfl dX1_takesDigit_47 rfl ?_
        refine k_bipush (q := 52) (v := 10) C dX1_takesDigit_50 (by decide +kernel) rfl ?_
        refine k_imul (q := 53) C dX1_takesDigit_52 rfl ?_
        refine k_st (st2 := (.int (nI (nu * 10)) :: _)) (congrArg (fun z => Value.int z :: _) (show (nI nu) * 10 = nI (nu * 10) from pk_mul nu 10)) ?_
        refine k_iload_n (q := 54) C 3 dX1_takesDigit_53 rfl rfl ?_
        refine k_iadd (q := 55) C dX1_takesDigit_54 rfl ?_
        refine k_st (st2 := (.int (nI (nu * 10 + d)) :: _)) (congrArg (fun z => Value.int z :: _) (show (nI (nu * 10)) + (nI d) = nI (nu * 10 + d) from nI_add (nu * 10) d)) ?_
        refine k_istore (q := 57) (fr2 := [(4, .int (nI (nu * 10 + d))), (3, .int 0), (2, .int 0), (0, .ref r), (1, .int (nI d))]) C dX1_takesDigit_55 (by decide) rfl rfl ?_
        refine k_aload_n (q := 58) C 3 dX1_takesDigit_57 rfl rfl ?_
        refine k_get (q := 61) (ci := 1) (v := .int (nI kd)) C 0 0 in1_X1_takesDigit rfl (List.mem_of_getElem? (i := 3) rfl) rfl rfl (by decide) rfl dX1_takesDigit_58 rfl ?_
        refine k_bipush (q := 63) (v := 110) C dX1_takesDigit_61 (by decide +kernel) rfl ?_
        refine k_nicmp_eq (a := kd) (b := 110)  (tgt := 83) (q := 66) C dX1_takesDigit_63 (by decide) rfl (by omega) (by decide) ?_ ?_
        · intro c_63
          refine k_iconst (q := 84) (v := 0) C dX1_takesDigit_83 (by decide) rfl ?_
          exact k_fin E dX1_takesDigit_84 (by rw [rDigit_n (by omega)]; rfl) (by rw [rDigit_n (by omega)])
        · intro c_63
          refine k_iload_n (q := 67) C 2 dX1_takesDigit_66 rfl rfl ?_
          refine k_if_ne (tgt := 83) (q := 70) C dX1_takesDigit_67 (by decide) rfl ?_ ?_
          · exact fun c_67 => absurd c_67 (by decide)
          · intro c_67
            refine k_iload_n (q := 71) C 1 dX1_takesDigit_70 rfl rfl ?_
            refine k_if_ne (tgt := 83) (q := 74) C dX1_takesDigit_71 (by decide) rfl ?_ ?_
            · exact fun c_71 => absurd c_71 (by decide)
            · intro c_71
              refine k_iload (q := 76) C 0 dX1_takesDigit_74 rfl rfl ?_
              refine k_aload_n (q := 77) C 3 dX1_takesDigit_76 rfl rfl ?_
              refine k_callVI (n := 0) (q := 80) (pre := ([] : va_W)) (post := ([] : va_W)) (w2 := (wRd r kd hg nu dg ng tk)) (As := []) (rest := [.int (nI (nu * 10 + d))]) C (c_X1_mostOfNumber cy r kd hg nu dg ng tk (by omega)) gX1_takesDigit_X1_mostOfNumber rfl rfl rfl (by decide +kernel) (k_room hR (by decide)) ⟨Nat.zero_le _, Nat.zero_le _⟩ (ci := 1) rfl 0 rfl rfl rfl (Nat.le_of_ble_eq_true rfl) ((List.append_nil _).symm) (List.append_nil _) dX1_takesDigit_77 rfl ?_
              refine k_nicmp_le (a := nu * 10 + d) (b := rMost kd tk)  (tgt := 85) (q := 83) C dX1_takesDigit_80 (by decide) rfl (by omega) (by omega) ?_ ?_
              · intro c_80
                refine k_aload_n (q := 86) C 3 dX1_takesDigit_85 rfl rfl ?_
                refine k_iload (q := 88) C 0 dX1_takesDigit_86 rfl rfl ?_
                refine k_put (q := 91) (ci := 1) (v := .int (nI (nu * 10 + d))) (w2 := (wRd r kd hg (nu * 10 + d) dg ng tk)) C 0 2 in1_X1_takesDigit rfl (List.mem_of_getElem? (i := 2) rfl) rfl tyX1 tyX1_ok nmX1 rfl (rfl) (rfl) rfl (by decide) (Nat.le_of_ble_eq_true rfl) (rfl) dX1_takesDigit_88 rfl ?_
                refine k_aload_n (q := 92) C 3 dX1_takesDigit_91 rfl rfl ?_
                refine k_dup (q := 93) C dX1_takesDigit_92 rfl rfl ?_
                refine k_get (q := 96) (ci := 1) (v := .int (nI dg)) C 0 3 in1_X1_takesDigit rfl (List.mem_of_getElem? (i := 1) rfl) rfl rfl (by decide) rfl dX1_takesDigit_93 rfl ?_
                refine k_iconst (q := 97) (v := 1) C dX1_takesDigit_96 (by decide) rfl ?_
                refine k_iadd (q := 98) C dX1_takesDigit_97 rfl ?_
                refine k_st (st2 := (.int (nI (dg + 1)) :: _)) (congrArg (fun z => Value.int z :: _) (show (nI dg) + 1 = nI (dg + 1) from nI_add dg 1)) ?_
                refine k_put (q := 101) (ci := 1) (v := .int (nI (dg + 1))) (w2 := (wRd r kd hg (nu * 10 + d) (dg + 1) ng tk)) C 0 3 in1_X1_takesDigit rfl (List.mem_of_getElem? (i := 1) rfl) rfl tyX1 tyX1_ok nmX1 rfl (rfl) (rfl) rfl (by decide) (Nat.le_of_ble_eq_true rfl) (rfl) dX1_takesDigit_98 rfl ?_
                refine k_iconst (q := 102) (v := 1) C dX1_takesDigit_101 (by decide) rfl ?_
                exact k_fin E dX1_takesDigit_102 (by rw [rDigit_y (by omega)]; rfl) (by rw [rDigit_y (by omega)])
              · intro c_80
                refine k_iconst (q := 84) (v := 0) C dX1_takesDigit_83 (by decide) rfl ?_
                exact k_fin E dX1_takesDigit_84 (by rw [rDigit_n (by omega)]; rfl) (by rw [rDigit_n (by omega)])
      · intro c_26
        refine k_aload_n (q := 30) C 1 dX1_takesDigit_29 rfl rfl ?_
        refine k_get (q := 33) (ci := 1) (v := .int (nI dg)) C 0 3 in1_X1_takesDigit rfl (List.mem_of_getElem? (i := 1) rfl) rfl rfl (by decide) rfl dX1_takesDigit_30 rfl ?_
        refine k_nif_ne (a := dg)  (tgt := 44) (q := 36) C dX1_takesDigit_33 (by decide) rfl (by omega) ?_ ?_
        · intro c_33
          refine k_iconst (q := 45) (v := 0) C dX1_takesDigit_44 (by decide) rfl ?_
          refine k_istore_n (q := 46) (fr2 := [(3, .int 0), (2, .int 0), (0, .ref r), (1, .int (nI d))]) C dX1_takesDigit_45 (by decide) rfl rfl ?_
          refine k_aload_n (q := 47) C 2 dX1_takesDigit_46 rfl rfl ?_
          refine k_get (q := 50) (ci := 1) (v := .int (nI nu)) C 0 2 in1_X1_takesDigit rfl (List.mem_of_getElem? (i := 2) rfl) rfl rfl (by decide) rfl dX1_takesDigit_47 rfl ?_
          refine k_bipush (q := 52) (v := 10) C dX1_takesDigit_50 (by decide +kernel) rfl ?_
          refine k_imul (q := 53) C dX1_takesDigit_52 rfl ?_
          refine k_st (st2 := (.int (nI (nu * 10)) :: _)) (congrArg (fun z => Value.int z :: _) (show (nI nu) * 10 = nI (nu * 10) from pk_mul nu 10)) ?_
          refine k_iload_n (q := 54) C 3 dX1_takesDigit_53 rfl rfl ?_
          refine k_iadd (q := 55) C dX1_takesDigit_54 rfl ?_
          refine k_st (st2 := (.int (nI (nu * 10 + d)) :: _)) (congrArg (fun z => Value.int z :: _) (show (nI (nu * 10)) + (nI d) = nI (nu * 10 + d) from nI_add (nu * 10) d)) ?_
          refine k_istore (q := 57) (fr2 := [(4, .int (nI (nu * 10 + d))), (3, .int 0), (2, .int 0), (0, .ref r), (1, .int (nI d))]) C dX1_takesDigit_55 (by decide) rfl rfl ?_
          refine k_aload_n (q := 58) C 3 dX1_takesDigit_57 rfl rfl ?_
          refine k_get (q := 61) (ci := 1) (v := .int (nI kd)) C 0 0 in1_X1_takesDigit rfl (List.mem_of_getElem? (i := 3) rfl) rfl rfl (by decide) rfl dX1_takesDigit_58 rfl ?_
          refine k_bipush (q := 63) (v := 110) C dX1_takesDigit_61 (by decide +kernel) rfl ?_
          refine k_nicmp_eq (a := kd) (b := 110)  (tgt := 83) (q := 66) C dX1_takesDigit_63 (by decide) rfl (by omega) (by decide) ?_ ?_
          · intro c_63
            refine k_iconst (q := 84) (v := 0) C dX1_takesDigit_83 (by decide) rfl ?_
            exact k_fin E dX1_takesDigit_84 (by rw [rDigit_n (by omega)]; rfl) (by rw [rDigit_n (by omega)])
          · intro c_63
            refine k_iload_n (q := 67) C 2 dX1_takesDigit_66 rfl rfl ?_
            refine k_if_ne (tgt := 83) (q := 70) C dX1_takesDigit_67 (by decide) rfl ?_ ?_
            · exact fun c_67 => absurd c_67 (by decide)
            · intro c_67
              refine k_iload_n (q := 71) C 1 dX1_takesDigit_70 rfl rfl ?_
              refine k_if_ne (tgt := 83) (q := 74) C dX1_takesDigit_71 (by decide) rfl ?_ ?_
              · exact fun c_71 => absurd c_71 (by decide)
              · intro c_71
                refine k_iload (q := 76) C 0 dX1_takesDigit_74 rfl rfl ?_
                refine k_aload_n (q := 77) C 3 dX1_takesDigit_76 rfl rfl ?_
                refine k_callVI (n := 0) (q := 80) (pre := ([] : va_W)) (post := ([] : va_W)) (w2 := (wRd r kd hg nu dg ng tk)) (As := []) (rest := [.int (nI (nu * 10 + d))]) C (c_X1_mostOfNumber cy r kd hg nu dg ng tk (by omega)) gX1_takesDigit_X1_mostOfNumber rfl rfl rfl (by decide +kernel) (k_room hR (by decide)) ⟨Nat.zero_le _, Nat.zero_le _⟩ (ci := 1) rfl 0 rfl rfl rfl (Nat.le_of_ble_eq_true rfl) ((List.append_nil _).symm) (List.append_nil _) dX1_takesDigit_77 rfl ?_
                refine k_nicmp_le (a := nu * 10 + d) (b := rMost kd tk)  (tgt := 85) (q := 83) C dX1_takesDigit_80 (by decide) rfl (by omega) (by omega) ?_ ?_
                · intro c_80
                  refine k_aload_n (q := 86) C 3 dX1_takesDigit_85 rfl rfl ?_
                  refine k_iload (q := 88) C 0 dX1_takesDigit_86 rfl rfl ?_
                  refine k_put (q := 91) (ci := 1) (v := .int (nI (nu * 10 + d))) (w2 := (wRd r kd hg (nu * 10 + d) dg ng tk)) C 0 2 in1_X1_takesDigit rfl (List.mem_of_getElem? (i := 2) rfl) rfl tyX1 tyX1_ok nmX1 rfl (rfl) (rfl) rfl (by decide) (Nat.le_of_ble_eq_true rfl) (rfl) dX1_takesDigit_88 rfl ?_
                  refine k_aload_n (q := 92) C 3 dX1_takesDigit_91 rfl rfl ?_
                  refine k_dup (q := 93) C dX1_takesDigit_92 rfl rfl ?_
                  refine k_get (q := 96) (ci := 1) (v := .int (nI dg)) C 0 3 in1_X1_takesDigit rfl (List.mem_of_getElem? (i := 1) rfl) rfl rfl (by decide) rfl dX1_takesDigit_93 rfl ?_
                  refine k_iconst (q := 97) (v := 1) C dX1_takesDigit_96 (by decide) rfl ?_
                  refine k_iadd (q := 98) C dX1_takesDigit_97 rfl ?_
                  refine k_st (st2 := (.int (nI (dg + 1)) :: _)) (congrArg (fun z => Value.int z :: _) (show (nI dg) + 1 = nI (dg + 1) from nI_add dg 1)) ?_
                  refine k_put (q := 101) (ci := 1) (v := .int (nI (dg + 1))) (w2 := (wRd r kd hg (nu * 10 + d) (dg + 1) ng tk)) C 0 3 in1_X1_takesDigit rfl (List.mem_of_getElem? (i := 1) rfl) rfl tyX1 tyX1_ok nmX1 rfl (rfl) (rfl) rfl (by decide) (Nat.le_of_ble_eq_true rfl) (rfl) dX1_takesDigit_98 rfl ?_
                  refine k_iconst (q := 102) (v := 1) C dX1_takesDigit_101 (by decide) rfl ?_
                  exact k_fin E dX1_takesDigit_102 (by rw [rDigit_y (by omega)]; rfl) (by rw [rDigit_y (by omega)])
                · intro c_80
                  refine k_iconst (q := 84) (v := 0) C dX1_takesDigit_83 (by decide) rfl ?_
                  exact k_fin E dX1_takesDigit_84 (by rw [rDigit_n (by omega)]; rfl) (by rw [rDigit_n (by omega)])
        · intro c_33
          refine k_iload_n (q := 37) C 2 dX1_takesDigit_36 rfl rfl ?_
          refine k_nif_ne (a := d)  (tgt := 44) (q := 40) C dX1_takesDigit_37 (by decide) rfl (by omega) ?_ ?_
          · intro c_37
            refine k_iconst (q := 45) (v := 0) C dX1_takesDigit_44 (by decide) rfl ?_
            refine k_istore_n (q := 46) (fr2 := [(3, .int 0), (2, .int 0), (0, .ref r), (1, .int (nI d))]) C dX1_takesDigit_45 (by decide) rfl rfl ?_
            refine k_aload_n (q := 47) C 2 dX1_takesDigit_46 rfl rfl ?_
            refine k_get (q := 50) (ci := 1) (v := .int (nI nu)) C 0 2 in1_X1_takesDigit rfl (List.mem_of_getElem? (i := 2) rfl) rfl rfl (by decide) rfl dX1_takesDigit_47 rfl ?_
            refine k_bipush (q := 52) (v := 10) C dX1_takesDigit_50 (by decide +kernel) rfl ?_
            refine k_imul (q := 53) C dX1_takesDigit_52 rfl ?_
            refine k_st (st2 := (.int (nI (nu * 10)) :: _)) (congrArg (fun z => Value.int z :: _) (show (nI nu) * 10 = nI (nu * 10) from pk_mul nu 10)) ?_
            refine k_iload_n (q := 54) C 3 dX1_takesDigit_53 rfl rfl ?_
            refine k_iadd (q := 55) C dX1_takesDigit_54 rfl ?_
            refine k_st (st2 := (.int (nI (nu * 10 + d)) :: _)) (congrArg (fun z => Value.int z :: _) (show (nI (nu * 10)) + (nI d) = nI (nu * 10 + d) from nI_add (nu * 10) d)) ?_
            refine k_istore (q := 57) (fr2 := [(4, .int (nI (nu * 10 + d))), (3, .int 0), (2, .int 0), (0, .ref r), (1, .int (nI d))]) C dX1_takesDigit_55 (by decide) rfl rfl ?_
            refine k_aload_n (q := 58) C 3 dX1_takesDigit_57 rfl rfl ?_
            refine k_get (q := 61) (ci := 1) (v := .int (nI kd)) C 0 0 in1_X1_takesDigit rfl (List.mem_of_getElem? (i := 3) rfl) rfl rfl (by decide) rfl dX1_takesDigit_58 rfl ?_
            refine k_bipush (q := 63) (v := 110) C dX1_takesDigit_61 (by decide +kernel) rfl ?_
            refine k_nicmp_eq (a := kd) (b := 110)  (tgt := 83) (q := 66) C dX1_takesDigit_63 (by decide) rfl (by omega) (by decide) ?_ ?_
            · intro c_63
              refine k_iconst (q := 84) (v := 0) C dX1_takesDigit_83 (by decide) rfl ?_
              exact k_fin E dX1_takesDigit_84 (by rw [rDigit_n (by omega)]; rfl) (by rw [rDigit_n (by omega)])
            · intro c_63
              refine k_iload_n (q := 67) C 2 dX1_takesDigit_66 rfl rfl ?_
              refine k_if_ne (tgt := 83) (q := 70) C dX1_takesDigit_67 (by decide) rfl ?_ ?_
              · exact fun c_67 => absurd c_67 (by decide)
              · intro c_67
                refine k_iload_n (q := 71) C 1 dX1_takesDigit_70 rfl rfl ?_
                refine k_if_ne (tgt := 83) (q := 74) C dX1_takesDigit_71 (by decide) rfl ?_ ?_
                · exact fun c_71 => absurd c_71 (by decide)
                · intro c_71
                  refine k_iload (q := 76) C 0 dX1_takesDigit_74 rfl rfl ?_
                  refine k_aload_n (q := 77) C 3 dX1_takesDigit_76 rfl rfl ?_
                  refine k_callVI (n := 0) (q := 80) (pre := ([] : va_W)) (post := ([] : va_W)) (w2 := (wRd r kd hg nu dg ng tk)) (As := []) (rest := [.int (nI (nu * 10 + d))]) C (c_X1_mostOfNumber cy r kd hg nu dg ng tk (by omega)) gX1_takesDigit_X1_mostOfNumber rfl rfl rfl (by decide +kernel) (k_room hR (by decide)) ⟨Nat.zero_le _, Nat.zero_le _⟩ (ci := 1) rfl 0 rfl rfl rfl (Nat.le_of_ble_eq_true rfl) ((List.append_nil _).symm) (List.append_nil _) dX1_takesDigit_77 rfl ?_
                  refine k_nicmp_le (a := nu * 10 + d) (b := rMost kd tk)  (tgt := 85) (q := 83) C dX1_takesDigit_80 (by decide) rfl (by omega) (by omega) ?_ ?_
                  · intro c_80
                    refine k_aload_n (q := 86) C 3 dX1_takesDigit_85 rfl rfl ?_
                    refine k_iload (q := 88) C 0 dX1_takesDigit_86 rfl rfl ?_
                    refine k_put (q := 91) (ci := 1) (v := .int (nI (nu * 10 + d))) (w2 := (wRd r kd hg (nu * 10 + d) dg ng tk)) C 0 2 in1_X1_takesDigit rfl (List.mem_of_getElem? (i := 2) rfl) rfl tyX1 tyX1_ok nmX1 rfl (rfl) (rfl) rfl (by decide) (Nat.le_of_ble_eq_true rfl) (rfl) dX1_takesDigit_88 rfl ?_
                    refine k_aload_n (q := 92) C 3 dX1_takesDigit_91 rfl rfl ?_
                    refine k_dup (q := 93) C dX1_takesDigit_92 rfl rfl ?_
                    refine k_get (q := 96) (ci := 1) (v := .int (nI dg)) C 0 3 in1_X1_takesDigit rfl (List.mem_of_getElem? (i := 1) rfl) rfl rfl (by decide) rfl dX1_takesDigit_93 rfl ?_
                    refine k_iconst (q := 97) (v := 1) C dX1_takesDigit_96 (by decide) rfl ?_
                    refine k_iadd (q := 98) C dX1_takesDigit_97 rfl ?_
                    refine k_st (st2 := (.int (nI (dg + 1)) :: _)) (congrArg (fun z => Value.int z :: _) (show (nI dg) + 1 = nI (dg + 1) from nI_add dg 1)) ?_
                    refine k_put (q := 101) (ci := 1) (v := .int (nI (dg + 1))) (w2 := (wRd r kd hg (nu * 10 + d) (dg + 1) ng tk)) C 0 3 in1_X1_takesDigit rfl (List.mem_of_getElem? (i := 1) rfl) rfl tyX1 tyX1_ok nmX1 rfl (rfl) (rfl) rfl (by decide) (Nat.le_of_ble_eq_true rfl) (rfl) dX1_takesDigit_98 rfl ?_
                    refine k_iconst (q := 102) (v := 1) C dX1_takesDigit_101 (by decide) rfl ?_
                    exact k_fin E dX1_takesDigit_102 (by rw [rDigit_y (by omega)]; rfl) (by rw [rDigit_y (by omega)])
                  · intro c_80
                    refine k_iconst (q := 84) (v := 0) C dX1_takesDigit_83 (by decide) rfl ?_
                    exact k_fin E dX1_takesDigit_84 (by rw [rDigit_n (by omega)]; rfl) (by rw [rDigit_n (by omega)])
          · intro c_37
            refine k_iconst (q := 41) (v := 1) C dX1_takesDigit_40 (by decide) rfl ?_
            refine k_goto (q := 45) C dX1_takesDigit_41 (by decide) ?_
            refine k_istore_n (q := 46) (fr2 := [(3, .int 1), (2, .int 0), (0, .ref r), (1, .int (nI d))]) C dX1_takesDigit_45 (by decide) rfl rfl ?_
            refine k_aload_n (q := 47) C 2 dX1_takesDigit_46 rfl rfl ?_
            refine k_get (q := 50) (ci := 1) (v := .int (nI nu)) C 0 2 in1_X1_takesDigit rfl (List.mem_of_getElem? (i := 2) rfl) rfl rfl (by decide) rfl dX1_takesDigit_47 rfl ?_
            refine k_bipush (q := 52) (v := 10) C dX1_takesDigit_50 (by decide +kernel) rfl ?_
            refine k_imul (q := 53) C dX1_takesDigit_52 rfl ?_
            refine k_st (st2 := (.int (nI (nu * 10)) :: _)) (congrArg (fun z => Value.int z :: _) (show (nI nu) * 10 = nI (nu * 10) from pk_mul nu 10)) ?_
            refine k_iload_n (q := 54) C 3 dX1_takesDigit_53 rfl rfl ?_
            refine k_iadd (q := 55) C dX1_takesDigit_54 rfl ?_
            refine k_st (st2 := (.int (nI (nu * 10 + d)) :: _)) (congrArg (fun z => Value.int z :: _) (show (nI (nu * 10)) + (nI d) = nI (nu * 10 + d) from nI_add (nu * 10) d)) ?_
            refine k_istore (q := 57) (fr2 := [(4, .int (nI (nu * 10 + d))), (3, .int 1), (2, .int 0), (0, .ref r), (1, .int (nI d))]) C dX1_takesDigit_55 (by decide) rfl rfl ?_
            refine k_aload_n (q := 58) C 3 dX1_takesDigit_57 rfl rfl ?_
            refine k_get (q := 61) (ci := 1) (v := .int (nI kd)) C 0 0 in1_X1_takesDigit rfl (List.mem_of_getElem? (i := 3) rfl) rfl rfl (by decide) rfl dX1_takesDigit_58 rfl ?_
            refine k_bipush (q := 63) (v := 110) C dX1_takesDigit_61 (by decide +kernel) rfl ?_
            refine k_nicmp_eq (a := kd) (b := 110)  (tgt := 83) (q := 66) C dX1_takesDigit_63 (by decide) rfl (by omega) (by decide) ?_ ?_
            · intro c_63
              refine k_iconst (q := 84) (v := 0) C dX1_takesDigit_83 (by decide) rfl ?_
              exact k_fin E dX1_takesDigit_84 (by rw [rDigit_n (by omega)]; rfl) (by rw [rDigit_n (by omega)])
            · intro c_63
              refine k_iload_n (q := 67) C 2 dX1_takesDigit_66 rfl rfl ?_
              refine k_if_ne (tgt := 83) (q := 70) C dX1_takesDigit_67 (by decide) rfl ?_ ?_
              · exact fun c_67 => absurd c_67 (by decide)
              · intro c_67
                refine k_iload_n (q := 71) C 1 dX1_takesDigit_70 rfl rfl ?_
                refine k_if_ne (tgt := 83) (q := 74) C dX1_takesDigit_71 (by decide) rfl ?_ ?_
                · intro c_71
                  refine k_iconst (q := 84) (v := 0) C dX1_takesDigit_83 (by decide) rfl ?_
                  exact k_fin E dX1_takesDigit_84 (by rw [rDigit_n (by omega)]; rfl) (by rw [rDigit_n (by omega)])
                · exact fun c_71 => absurd c_71 (by decide)
    · intro c_11
      refine k_iconst (q := 15) (v := 1) C dX1_takesDigit_14 (by decide) rfl ?_
      refine k_goto (q := 19) C dX1_takesDigit_15 (by decide) ?_
      refine k_istore_n (q := 20) (fr2 := [(2, .int 1), (0, .ref r), (1, .int (nI d))]) C dX1_takesDigit_19 (by decide) rfl rfl ?_
      refine k_aload_n (q := 21) C 1 dX1_takesDigit_20 rfl rfl ?_
      refine k_get (q := 24) (ci := 1) (v := .int (nI kd)) C 0 0 in1_X1_takesDigit rfl (List.mem_of_getElem? (i := 3) rfl) rfl rfl (by decide) rfl dX1_takesDigit_21 rfl ?_
      refine k_bipush (q := 26) (v := 99) C dX1_takesDigit_24 (by decide +kernel) rfl ?_
      refine k_nicmp_ne (a := kd) (b := 99)  (tgt := 44) (q := 29) C dX1_takesDigit_26 (by decide) rfl (by omega) (by decide) ?_ ?_
      · intro c_26
        refine k_iconst (q := 45) (v := 0) C dX1_takesDigit_44 (by decide) rfl ?_
        refine k_istore_n (q := 46) (fr2 := [(3, .int 0), (2, .int 1), (0, .ref r), (1, .int (nI d))]) C dX1_takesDigit_45 (by decide) rfl rfl ?_
        refine k_aload_n (q := 47) C 2 dX1_takesDigit_46 rfl rfl ?_
        refine k_get (q := 50) (ci := 1) (v := .int (nI nu)) C 0 2 in1_X1_takesDigit rfl (List.mem_of_getElem? (i := 2) rfl) rfl rfl (by decide) rfl dX1_takesDigit_47 rfl ?_
        refine k_bipush (q := 52) (v := 10) C dX1_takesDigit_50 (by decide +kernel) rfl ?_
        refine k_imul (q := 53) C dX1_takesDigit_52 rfl ?_
        refine k_st (st2 := (.int (nI (nu * 10)) :: _)) (congrArg (fun z => Value.int z :: _) (show (nI nu) * 10 = nI (nu * 10) from pk_mul nu 10)) ?_
        refine k_iload_n (q := 54) C 3 dX1_takesDigit_53 rfl rfl ?_
        refine k_iadd (q := 55) C dX1_takesDigit_54 rfl ?_
        refine k_st (st2 := (.int (nI (nu * 10 + d)) :: _)) (congrArg (fun z => Value.int z :: _) (show (nI (nu * 10)) + (nI d) = nI (nu * 10 + d) from nI_add (nu * 10) d)) ?_
        refine k_istore (q := 57) (fr2 := [(4, .int (nI (nu * 10 + d))), (3, .int 0), (2, .int 1), (0, .ref r), (1, .int (nI d))]) C dX1_takesDigit_55 (by decide) rfl rfl ?_
        refine k_aload_n (q := 58) C 3 dX1_takesDigit_57 rfl rfl ?_
        refine k_get (q := 61) (ci := 1) (v := .int (nI kd)) C 0 0 in1_X1_takesDigit rfl (List.mem_of_getElem? (i := 3) rfl) rfl rfl (by decide) rfl dX1_takesDigit_58 rfl ?_
        refine k_bipush (q := 63) (v := 110) C dX1_takesDigit_61 (by decide +kernel) rfl ?_
        refine k_nicmp_eq (a := kd) (b := 110)  (tgt := 83) (q := 66) C dX1_takesDigit_63 (by decide) rfl (by omega) (by decide) ?_ ?_
        · intro c_63
          refine k_iconst (q := 84) (v := 0) C dX1_takesDigit_83 (by decide) rfl ?_
          exact k_fin E dX1_takesDigit_84 (by rw [rDigit_n (by omega)]; rfl) (by rw [rDigit_n (by omega)])
        · intro c_63
          refine k_iload_n (q := 67) C 2 dX1_takesDigit_66 rfl rfl ?_
          refine k_if_ne (tgt := 83) (q := 70) C dX1_takesDigit_67 (by decide) rfl ?_ ?_
          · intro c_67
            refine k_iconst (q := 84) (v := 0) C dX1_takesDigit_83 (by decide) rfl ?_
            exact k_fin E dX1_takesDigit_84 (by rw [rDigit_n (by omega)]; rfl) (by rw [rDigit_n (by omega)])
          · exact fun c_67 => absurd c_67 (by decide)
      · intro c_26
        refine k_aload_n (q := 30) C 1 dX1_takesDigit_29 rfl rfl ?_
        refine k_get (q := 33) (ci := 1) (v := .int (nI dg)) C 0 3 in1_X1_takesDigit rfl (List.mem_of_getElem? (i := 1) rfl) rfl rfl (by decide) rfl dX1_takesDigit_30 rfl ?_
        refine k_nif_ne (a := dg)  (tgt := 44) (q := 36) C dX1_takesDigit_33 (by decide) rfl (by omega) ?_ ?_
        · intro c_33
          refine k_iconst (q := 45) (v := 0) C dX1_takesDigit_44 (by decide) rfl ?_
          refine k_istore_n (q := 46) (fr2 := [(3, .int 0), (2, .int 1), (0, .ref r), (1, .int (nI d))]) C dX1_takesDigit_45 (by decide) rfl rfl ?_
          refine k_aload_n (q := 47) C 2 dX1_takesDigit_46 rfl rfl ?_
          refine k_get (q := 50) (ci := 1) (v := .int (nI nu)) C 0 2 in1_X1_takesDigit rfl (List.mem_of_getElem? (i := 2) rfl) rfl rfl (by decide) rfl dX1_takesDigit_47 rfl ?_
          refine k_bipush (q := 52) (v := 10) C dX1_takesDigit_50 (by decide +kernel) rfl ?_
          refine k_imul (q := 53) C dX1_takesDigit_52 rfl ?_
          refine k_st (st2 := (.int (nI (nu * 10)) :: _)) (congrArg (fun z => Value.int z :: _) (show (nI nu) * 10 = nI (nu * 10) from pk_mul nu 10)) ?_
          refine k_iload_n (q := 54) C 3 dX1_takesDigit_53 rfl rfl ?_
          refine k_iadd (q := 55) C dX1_takesDigit_54 rfl ?_
          refine k_st (st2 := (.int (nI (nu * 10 + d)) :: _)) (congrArg (fun z => Value.int z :: _) (show (nI (nu * 10)) + (nI d) = nI (nu * 10 + d) from nI_add (nu * 10) d)) ?_
          refine k_istore (q := 57) (fr2 := [(4, .int (nI (nu * 10 + d))), (3, .int 0), (2, .int 1), (0, .ref r), (1, .int (nI d))]) C dX1_takesDigit_55 (by decide) rfl rfl ?_
          refine k_aload_n (q := 58) C 3 dX1_takesDigit_57 rfl rfl ?_
          refine k_get (q := 61) (ci := 1) (v := .int (nI kd)) C 0 0 in1_X1_takesDigit rfl (List.mem_of_getElem? (i := 3) rfl) rfl rfl (by decide) rfl dX1_takesDigit_58 rfl ?_
          refine k_bipush (q := 63) (v := 110) C dX1_takesDigit_61 (by decide +kernel) rfl ?_
          refine k_nicmp_eq (a := kd) (b := 110)  (tgt := 83) (q := 66) C dX1_takesDigit_63 (by decide) rfl (by omega) (by decide) ?_ ?_
          · intro c_63
            refine k_iconst (q := 84) (v := 0) C dX1_takesDigit_83 (by decide) rfl ?_
            exact k_fin E dX1_takesDigit_84 (by rw [rDigit_n (by omega)]; rfl) (by rw [rDigit_n (by omega)])
          · intro c_63
            refine k_iload_n (q := 67) C 2 dX1_takesDigit_66 rfl rfl ?_
            refine k_if_ne (tgt := 83) (q := 70) C dX1_takesDigit_67 (by decide) rfl ?_ ?_
            · intro c_67
              refine k_iconst (q := 84) (v := 0) C dX1_takesDigit_83 (by decide) rfl ?_
              exact k_fin E dX1_takesDigit_84 (by rw [rDigit_n (by omega)]; rfl) (by rw [rDigit_n (by omega)])
            · exact fun c_67 => absurd c_67 (by decide)
        · intro c_33
          refine k_iload_n (q := 37) C 2 dX1_takesDigit_36 rfl rfl ?_
          refine k_nif_ne (a := d)  (tgt := 44) (q := 40) C dX1_takesDigit_37 (by decide) rfl (by omega) ?_ ?_
          · intro c_37
            refine k_iconst (q := 45) (v := 0) C dX1_takesDigit_44 (by decide) rfl ?_
            refine k_istore_n (q := 46) (fr2 := [(3, .int 0), (2, .int 1), (0, .ref r), (1, .int (nI d))]) C dX1_takesDigit_45 (by decide) rfl rfl ?_
            refine k_aload_n (q := 47) C 2 dX1_takesDigit_46 rfl rfl ?_
            refine k_get (q := 50) (ci := 1) (v := .int (nI nu)) C 0 2 in1_X1_takesDigit rfl (List.mem_of_getElem? (i := 2) rfl) rfl rfl (by decide) rfl dX1_takesDigit_47 rfl ?_
            refine k_bipush (q := 52) (v := 10) C dX1_takesDigit_50 (by decide +kernel) rfl ?_
            refine k_imul (q := 53) C dX1_takesDigit_52 rfl ?_
            refine k_st (st2 := (.int (nI (nu * 10)) :: _)) (congrArg (fun z => Value.int z :: _) (show (nI nu) * 10 = nI (nu * 10) from pk_mul nu 10)) ?_
            refine k_iload_n (q := 54) C 3 dX1_takesDigit_53 rfl rfl ?_
            refine k_iadd (q := 55) C dX1_takesDigit_54 rfl ?_
            refine k_st (st2 := (.int (nI (nu * 10 + d)) :: _)) (congrArg (fun z => Value.int z :: _) (show (nI (nu * 10)) + (nI d) = nI (nu * 10 + d) from nI_add (nu * 10) d)) ?_
            refine k_istore (q := 57) (fr2 := [(4, .int (nI (nu * 10 + d))), (3, .int 0), (2, .int 1), (0, .ref r), (1, .int (nI d))]) C dX1_takesDigit_55 (by decide) rfl rfl ?_
            refine k_aload_n (q := 58) C 3 dX1_takesDigit_57 rfl rfl ?_
            refine k_get (q := 61) (ci := 1) (v := .int (nI kd)) C 0 0 in1_X1_takesDigit rfl (List.mem_of_getElem? (i := 3) rfl) rfl rfl (by decide) rfl dX1_takesDigit_58 rfl ?_
            refine k_bipush (q := 63) (v := 110) C dX1_takesDigit_61 (by decide +kernel) rfl ?_
            refine k_nicmp_eq (a := kd) (b := 110)  (tgt := 83) (q := 66) C dX1_takesDigit_63 (by decide) rfl (by omega) (by decide) ?_ ?_
            · intro c_63
              refine k_iconst (q := 84) (v := 0) C dX1_takesDigit_83 (by decide) rfl ?_
              exact k_fin E dX1_takesDigit_84 (by rw [rDigit_n (by omega)]; rfl) (by rw [rDigit_n (by omega)])
            · intro c_63
              refine k_iload_n (q := 67) C 2 dX1_takesDigit_66 rfl rfl ?_
              refine k_if_ne (tgt := 83) (q := 70) C dX1_takesDigit_67 (by decide) rfl ?_ ?_
              · intro c_67
                refine k_iconst (q := 84) (v := 0) C dX1_takesDigit_83 (by decide) rfl ?_
                exact k_fin E dX1_takesDigit_84 (by rw [rDigit_n (by omega)]; rfl) (by rw [rDigit_n (by omega)])
              · exact fun c_67 => absurd c_67 (by decide)
          · intro c_37
            refine k_iconst (q := 41) (v := 1) C dX1_takesDigit_40 (by decide) rfl ?_
            refine k_goto (q := 45) C dX1_takesDigit_41 (by decide) ?_
            refine k_istore_n (q := 46) (fr2 := [(3, .int 1), (2, .int 1), (0, .ref r), (1, .int (nI d))]) C dX1_takesDigit_45 (by decide) rfl rfl ?_
            refine k_aload_n (q := 47) C 2 dX1_takesDigit_46 rfl rfl ?_
            refine k_get (q := 50) (ci := 1) (v := .int (nI nu)) C 0 2 in1_X1_takesDigit rfl (List.mem_of_getElem? (i := 2) rfl) rfl rfl (by decide) rfl dX1_takesDigit_47 rfl ?_
            refine k_bipush (q := 52) (v := 10) C dX1_takesDigit_50 (by decide +kernel) rfl ?_
            refine k_imul (q := 53) C dX1_takesDigit_52 rfl ?_
            refine k_st (st2 := (.int (nI (nu * 10)) :: _)) (congrArg (fun z => Value.int z :: _) (show (nI nu) * 10 = nI (nu * 10) from pk_mul nu 10)) ?_
            refine k_iload_n (q := 54) C 3 dX1_takesDigit_53 rfl rfl ?_
            refine k_iadd (q := 55) C dX1_takesDigit_54 rfl ?_
            refine k_st (st2 := (.int (nI (nu * 10 + d)) :: _)) (congrArg (fun z => Value.int z :: _) (show (nI (nu * 10)) + (nI d) = nI (nu * 10 + d) from nI_add (nu * 10) d)) ?_
            refine k_istore (q := 57) (fr2 := [(4, .int (nI (nu * 10 + d))), (3, .int 1), (2, .int 1), (0, .ref r), (1, .int (nI d))]) C dX1_takesDigit_55 (by decide) rfl rfl ?_
            refine k_aload_n (q := 58) C 3 dX1_takesDigit_57 rfl rfl ?_
            refine k_get (q := 61) (ci := 1) (v := .int (nI kd)) C 0 0 in1_X1_takesDigit rfl (List.mem_of_getElem? (i := 3) rfl) rfl rfl (by decide) rfl dX1_takesDigit_58 rfl ?_
            refine k_bipush (q := 63) (v := 110) C dX1_takesDigit_61 (by decide +kernel) rfl ?_
            refine k_nicmp_eq (a := kd) (b := 110)  (tgt := 83) (q := 66) C dX1_takesDigit_63 (by decide) rfl (by omega) (by decide) ?_ ?_
            · intro c_63
              refine k_iconst (q := 84) (v := 0) C dX1_takesDigit_83 (by decide) rfl ?_
              exact k_fin E dX1_takesDigit_84 (by rw [rDigit_n (by omega)]; rfl) (by rw [rDigit_n (by omega)])
            · intro c_63
              refine k_iload_n (q := 67) C 2 dX1_takesDigit_66 rfl rfl ?_
              refine k_if_ne (tgt := 83) (q := 70) C dX1_takesDigit_67 (by decide) rfl ?_ ?_
              · intro c_67
                refine k_iconst (q := 84) (v := 0) C dX1_takesDigit_83 (by decide) rfl ?_
                exact k_fin E dX1_takesDigit_84 (by rw [rDigit_n (by omega)]; rfl) (by rw [rDigit_n (by omega)])
              · exact fun c_67 => absurd c_67 (by decide)
abbrev rm_X1_takes : Room := { frames := 3, cells := 0, slots := 0, locals := 60 }
theorem in1_X1_takes : ∀ w ∈ wsX10, w ∈ wsX1_takes := fun _ h => (List.mem_cons_of_mem _ (List.mem_append_right _ h))
set_option maxHeartbeats 4000000 in
set_option maxRecDepth 100000 in
theorem c_X1_takes (cy : Nat → ClassId) (r : Nat) (kd : Nat) (hg : Nat) (nu : Nat) (dg : Nat) (ng : Bool) (tk : Bool) (c : Nat)  (hkd : kd < 65536) (hnu : nu < 10000) (hdg : dg < 1000) (hc : c < 65536) : kI yX1_takes wsX1_takes rm_X1_takes cy [.ref r, .int (nI c)] (wRd r kd hg nu dg ng tk) (bI ((rTakes c (kd, hg, nu, dg, ng, tk)).1 = true)) (wRd r ((rTakes c (kd, hg, nu, dg, ng, tk)).2.1) ((rTakes c (kd, hg, nu, dg, ng, tk)).2.2.1) ((rTakes c (kd, hg, nu, dg, ng, tk)).2.2.2.1) ((rTakes c (kd, hg, nu, dg, ng, tk)).2.2.2.2.1) ((rTakes c (kd, hg, nu, dg, ng, tk)).2.2.2.2.2.1) ((rTakes c (kd, hg, nu, dg, ng, tk)).2.2.2.2.2.2)) := by
  refine kI_of (cc := cX1_takes) (maxL := 2) (rt := .boolean) (by decide) rfl (kb_nar _) (Nat.le_of_ble_eq_true rfl) ?_
  intro X hR C E
  have C : kC X 2 RX1 cX1_takes wsX1_takes cy := C
  refine k_fr (fr2 := [(0, .ref r), (1, .int (nI c))]) ⟨[0, 1], rfl⟩ ?_
  refine k_aload_n (q := 1) C 0 dX1_takes_0 rfl rfl ?_
  refine k_get (q := 4) (ci := 1) (v := .int (nI kd)) C 0 0 in1_X1_takes rfl (List.mem_of_getElem? (i := 1) rfl) rfl rfl (by decide) rfl dX1_takes_1 rfl ?_
  refine k_nif_ne (a := kd)  (tgt := 13) (q := 7) C dX1_takes_4 (by decide) rfl (by omega) ?_ ?_
  · intro c_4
    refine k_iload_n (q := 14) C 1 dX1_takes_13 rfl rfl ?_
    by_cases s_14_42 : c = 42
    · refine k_lookup (q := 53) (off := 39) C dX1_takes_14 (by decide +kernel) (by rw [s_14_42]; decide +kernel) (by decide) ?_
      refine k_aload_n (q := 54) C 0 dX1_takes_53 rfl rfl ?_
      refine k_callVI (n := 0) (q := 57) (pre := ([] : va_W)) (post := ([] : va_W)) (w2 := (wRd r ((rStar (kd, hg, nu, dg, ng, tk)).2.1) ((rStar (kd, hg, nu, dg, ng, tk)).2.2.1) ((rStar (kd, hg, nu, dg, ng, tk)).2.2.2.1) ((rStar (kd, hg, nu, dg, ng, tk)).2.2.2.2.1) ((rStar (kd, hg, nu, dg, ng, tk)).2.2.2.2.2.1) ((rStar (kd, hg, nu, dg, ng, tk)).2.2.2.2.2.2))) (As := []) (rest := []) C (c_X1_takesStar cy r kd hg nu dg ng tk (by omega) (by omega) (by omega)) gX1_takes_X1_takesStar rfl rfl rfl (by decide +kernel) (k_room hR (by decide)) ⟨Nat.zero_le _, Nat.zero_le _⟩ (ci := 1) rfl 0 rfl rfl rfl (Nat.le_of_ble_eq_true rfl) ((List.append_nil _).symm) (List.append_nil _) dX1_takes_54 rfl ?_
      exact k_fin E dX1_takes_57 (by rw [rTakes, if_neg (by show ¬ kd = 0; omega), if_pos s_14_42]) (by rw [rTakes, if_neg (by show ¬ kd = 0; omega), if_pos s_14_42])
    by_cases s_14_45 : c = 45
    · refine k_lookup (q := 58) (off := 44) C dX1_takes_14 (by decide +kernel) (by rw [s_14_45]; decide +kernel) (by decide) ?_
      refine k_aload_n (q := 59) C 0 dX1_takes_58 rfl rfl ?_
      refine k_callVI (n := 0) (q := 62) (pre := ([] : va_W)) (post := ([] : va_W)) (w2 := (wRd r ((rMinus (kd, hg, nu, dg, ng, tk)).2.1) ((rMinus (kd, hg, nu, dg, ng, tk)).2.2.1) ((rMinus (kd, hg, nu, dg, ng, tk)).2.2.2.1) ((rMinus (kd, hg, nu, dg, ng, tk)).2.2.2.2.1) ((rMinus (kd, hg, nu, dg, ng, tk)).2.2.2.2.2.1) ((rMinus (kd, hg, nu, dg, ng, tk)).2.2.2.2.2.2))) (As := []) (rest := []) C (c_X1_takesMinus cy r kd hg nu dg ng tk (by omega) (by omega) (by omega)) gX1_takes_X1_takesMinus rfl rfl rfl (by decide +kernel) (k_room hR (by decide)) ⟨Nat.zero_le _, Nat.zero_le _⟩ (ci := 1) rfl 0 rfl rfl rfl (Nat.le_of_ble_eq_true rfl) ((List.append_nil _).symm) (List.append_nil _) dX1_takes_59 rfl ?_
      exact k_fin E dX1_takes_62 (by rw [rTakes, if_neg (by show ¬ kd = 0; omega), if_neg s_14_42, if_pos s_14_45]) (by rw [rTakes, if_neg (by show ¬ kd = 0; omega), if_neg s_14_42, if_pos s_14_45])
    by_cases s_14_59 : c = 59
    · refine k_lookup (q := 48) (off := 34) C dX1_takes_14 (by decide +kernel) (by rw [s_14_59]; decide +kernel) (by decide) ?_
      refine k_aload_n (q := 49) C 0 dX1_takes_48 rfl rfl ?_
      refine k_callVI (n := 0) (q := 52) (pre := ([] : va_W)) (post := ([] : va_W)) (w2 := (wRd r ((rSemi (kd, hg, nu, dg, ng, tk)).2.1) ((rSemi (kd, hg, nu, dg, ng, tk)).2.2.1) ((rSemi (kd, hg, nu, dg, ng, tk)).2.2.2.1) ((rSemi (kd, hg, nu, dg, ng, tk)).2.2.2.2.1) ((rSemi (kd, hg, nu, dg, ng, tk)).2.2.2.2.2.1) ((rSemi (kd, hg, nu, dg, ng, tk)).2.2.2.2.2.2))) (As := []) (rest := []) C (c_X1_takesSemicolon cy r kd hg nu dg ng tk (by omega) (by omega)) gX1_takes_X1_takesSemicolon rfl rfl rfl (by decide +kernel) (k_room hR (by decide)) ⟨Nat.zero_le _, Nat.zero_le _⟩ (ci := 1) rfl 0 rfl rfl rfl (Nat.le_of_ble_eq_true rfl) ((List.append_nil _).symm) (List.append_nil _) dX1_takes_49 rfl ?_
      exact k_fin E dX1_takes_52 (by rw [rTakes, if_neg (by show ¬ kd = 0; omega), if_neg s_14_42, if_neg s_14_45, if_pos s_14_59]) (by rw [rTakes, if_neg (by show ¬ kd = 0; omega), if_neg s_14_42, if_neg s_14_45, if_pos s_14_59])
    have n_14_42 : ¬ nI c = 42 := fun q => s_14_42 ((nI_eq (a := c) (b := 42) (by omega) (by decide)).mp q)
    have n_14_45 : ¬ nI c = 45 := fun q => s_14_45 ((nI_eq (a := c) (b := 45) (by omega) (by decide)).mp q)
    have n_14_59 : ¬ nI c = 59 := fun q => s_14_59 ((nI_eq (a := c) (b := 59) (by omega) (by decide)).mp q)
    refine k_lookup (q := 63) (off := 49) C dX1_takes_14 (by decide +kernel) (by show Op.lookupswitch.offset [(42, 39), (45, 44), (59, 34)] (49) _ = _; rw [lv_osw n_14_42 (a := 42) (by decide +kernel), lv_osw n_14_45 (a := 45) (by decide +kernel), lv_osw n_14_59 (a := 59) (by decide +kernel)]; rfl) (by decide) ?_
    refine k_iload_n (q := 64) C 1 dX1_takes_63 rfl rfl ?_
    refine k_bipush (q := 66) (v := 48) C dX1_takes_64 (by decide +kernel) rfl ?_
    refine k_nicmp_lt (a := c) (b := 48)  (tgt := 90) (q := 69) C dX1_takes_66 (by decide) rfl (by omega) (by decide) ?_ ?_
    · intro c_66
      refine k_iconst (q := 91) (v := 0) C dX1_takes_90 (by decide) rfl ?_
      exact k_fin E dX1_takes_91 (by rw [rTakes, if_neg (by show ¬ kd = 0; omega), if_neg s_14_42, if_neg s_14_45, if_neg s_14_59]; first | (rw [if_neg (by omega)]; rfl) | (rw [if_pos (by omega)]; first | exact bI_t c_83 | exact bI_f c_83)) (by rw [rTakes, if_neg (by show ¬ kd = 0; omega), if_neg s_14_42, if_neg s_14_45, if_neg s_14_59]; first | (rw [if_neg (by omega)]; done) | (rw [if_pos (by omega)]; done))
    · intro c_66
      refine k_iload_n (q := 70) C 1 dX1_takes_69 rfl rfl ?_
      refine k_bipush (q := 72) (v := 57) C dX1_takes_70 (by decide +kernel) rfl ?_
      refine k_nicmp_gt (a := c) (b := 57)  (tgt := 90) (q := 75) C dX1_takes_72 (by decide) rfl (by omega) (by decide) ?_ ?_
      · intro c_72
        refine k_iconst (q := 91) (v := 0) C dX1_takes_90 (by decide) rfl ?_
        exact k_fin E dX1_takes_91 (by rw [rTakes, if_neg (by show ¬ kd = 0; omega), if_neg s_14_42, if_neg s_14_45, if_neg s_14_59]; first | (rw [if_neg (by omega)]; rfl) | (rw [if_pos (by omega)]; first | exact bI_t c_83 | exact bI_f c_83)) (by rw [rTakes, if_neg (by show ¬ kd = 0; omega), if_neg s_14_42, if_neg s_14_45, if_neg s_14_59]; first | (rw [if_neg (by omega)]; done) | (rw [if_pos (by omega)]; done))
      · intro c_72
        refine k_aload_n (q := 76) C 0 dX1_takes_75 rfl rfl ?_
        refine k_iload_n (q := 77) C 1 dX1_takes_76 rfl rfl ?_
        refine k_bipush (q := 79) (v := 48) C dX1_takes_77 (by decide +kernel) rfl ?_
        refine k_isub (q := 80) C dX1_takes_79 rfl ?_
        refine k_st (st2 := (.int (nI (c - 48)) :: _)) (congrArg (fun z => Value.int z :: _) (show (nI c) - 48 = nI (c - 48) from pk_sub (a := c) (b := 48) (by omega))) ?_
        refine k_callVI (n := 1) (q := 83) (pre := ([] : va_W)) (post := ([] : va_W)) (w2 := (wRd r ((rDigit (c - 48) (kd, hg, nu, dg, ng, tk)).2.1) ((rDigit (c - 48) (kd, hg, nu, dg, ng, tk)).2.2.1) ((rDigit (c - 48) (kd, hg, nu, dg, ng, tk)).2.2.2.1) ((rDigit (c - 48) (kd, hg, nu, dg, ng, tk)).2.2.2.2.1) ((rDigit (c - 48) (kd, hg, nu, dg, ng, tk)).2.2.2.2.2.1) ((rDigit (c - 48) (kd, hg, nu, dg, ng, tk)).2.2.2.2.2.2))) (As := [.int (nI (c - 48))]) (rest := []) C (c_X1_takesDigit cy r kd hg nu dg ng tk (c - 48) (by omega) (by omega) (by omega) (by omega)) gX1_takes_X1_takesDigit rfl rfl rfl (by decide +kernel) (k_room hR (by decide)) ⟨Nat.zero_le _, Nat.zero_le _⟩ (ci := 1) rfl 0 rfl rfl rfl (Nat.le_of_ble_eq_true rfl) ((List.append_nil _).symm) (List.append_nil _) dX1_takes_80 rfl ?_
        refine k_ifB_eq (tgt := 90) (q := 86) C dX1_takes_83 (by decide) rfl ?_ ?_
        · intro c_83
          refine k_iconst (q := 91) (v := 0) C dX1_takes_90 (by decide) rfl ?_
          exact k_fin E dX1_takes_91 (by rw [rTakes, if_neg (by show ¬ kd = 0; omega), if_neg s_14_42, if_neg s_14_45, if_neg s_14_59]; first | (rw [if_neg (by omega)]; rfl) | (rw [if_pos (by omega)]; first | exact bI_t c_83 | exact bI_f c_83)) (by rw [rTakes, if_neg (by show ¬ kd = 0; omega), if_neg s_14_42, if_neg s_14_45, if_neg s_14_59]; first | (rw [if_neg (by omega)]; done) | (rw [if_pos (by omega)]; done))
        · intro c_83
          refine k_iconst (q := 87) (v := 1) C dX1_takes_86 (by decide) rfl ?_
          refine k_goto (q := 91) C dX1_takes_87 (by decide) ?_
          exact k_fin E dX1_takes_91 (by rw [rTakes, if_neg (by show ¬ kd = 0; omega), if_neg s_14_42, if_neg s_14_45, if_neg s_14_59]; first | (rw [if_neg (by omega)]; rfl) | (rw [if_pos (by omega)]; first | exact bI_t c_83 | exact bI_f c_83)) (by rw [rTakes, if_neg (by show ¬ kd = 0; omega), if_neg s_14_42, if_neg s_14_45, if_neg s_14_59]; first | (rw [if_neg (by omega)]; done) | (rw [if_pos (by omega)]; done))
  · intro c_4
    refine k_aload_n (q := 8) C 0 dX1_takes_7 rfl rfl ?_
    refine k_iload_n (q := 9) C 1 dX1_takes_8 rfl rfl ?_
    refine k_callVI (n := 1) (q := 12) (pre := ([] : va_W)) (post := ([] : va_W)) (w2 := (wRd r (if rKind c = true then c else kd) hg nu dg ng tk)) (As := [.int (nI c)]) (rest := []) C (c_X1_takesKind cy r kd hg nu dg ng tk c (by omega)) gX1_takes_X1_takesKind rfl rfl rfl (by decide +kernel) (k_room hR (by decide)) ⟨Nat.zero_le _, Nat.zero_le _⟩ (ci := 1) rfl 0 rfl rfl rfl (Nat.le_of_ble_eq_true rfl) ((List.append_nil _).symm) (List.append_nil _) dX1_takes_9 rfl ?_
    exact k_fin E dX1_takes_12 (by rw [rTakes, if_pos c_4]) (by rw [rTakes, if_pos c_4])
