abbrev rm_X0_init : Room := { frames := 1, cells := 1, slots := 32, locals := 12 }
theorem in0_X0_init : ∀ w ∈ wsX00, w ∈ wsX0_init := fun _ h => (List.mem_cons_of_mem _ (List.mem_append_right _ h))
set_option maxHeartbeats 4000000 in
set_option maxRecDepth 100000 in
theorem c_X0_init {cy : Nat → ClassId} (h0 : Nat) : kNw yX0_init wsX0_init rm_X0_init cy [.ref h0] ([(h0, .inr (0, [.null, .int 0, .int 0, .int 0]))] : va_W) (fun (u : Nat) => ([(h0, .inr (0, [.ref (u), .int 0, .int 0, .int 0])), ((u), .inl (cy 0, 32, .inl (fun _ => 0)))] : va_W)) 1 32 := by
  refine kNw_of (cc := cX0_init) (maxL := 1) (by decide) rfl rfl (Nat.le_of_ble_eq_true rfl) ?_
  intro X hR C hnm hao E
  have C : kC X 1 RX0 cX0_init wsX0_init cy := C
  refine k_fr (fr2 := [(0, .ref h0)]) ⟨[0], rfl⟩ ?_
  refine k_aload_n (q := 1) C 0 dX0_init_0 rfl rfl ?_
  refine k_objI (q := 4) C (List.mem_of_getElem? (i := 1) rfl) (List.mem_of_getElem? (i := 2) rfl) (List.mem_of_getElem? (i := 3) rfl) (by rw [hR]; decide) dX0_init_1 rfl ?_
  refine k_aload_n (q := 5) C 0 dX0_init_4 rfl rfl ?_
  refine k_bipush (q := 7) (v := 32) C dX0_init_5 (by decide +kernel) rfl ?_
  refine k_newa (q := 9) (cB := cy 0) (ty := .int) (a0 := (32, .inl (fun _ => 0))) (N' := 32) C 0 rfl (fun _ h => h) (List.mem_of_getElem? (i := 4) rfl) rfl (fun _ => rfl) (by decide) (by decide) (by decide) (by rw [hR]; decide) dX0_init_7 rfl (fun q_7 => ?_)
  refine k_w (w2 := ([(h0, .inr (0, [.null, .int 0, .int 0, .int 0])), (q_7, .inl (cy 0, 32, .inl (fun _ => 0)))] : va_W)) rfl ?_
  refine k_putF (q := 12) (ci := 0) (v := .ref q_7) (w2 := ([(h0, .inr (0, [.ref q_7, .int 0, .int 0, .int 0])), (q_7, .inl (cy 0, 32, .inl (fun _ => 0)))] : va_W)) C 0 0 in0_X0_init rfl (List.mem_of_getElem? (i := 5) rfl) rfl tyX0 tyX0_ok nmX0 rfl hnm rfl rfl rfl rfl (by decide) (Nat.le_of_ble_eq_true rfl) rfl dX0_init_9 rfl ?_
  exact k_finN E (q_7) (by decide) (by decide) dX0_init_12 rfl
abbrev rm_X1_init : Room := { frames := 1, cells := 0, slots := 0, locals := 12 }
theorem in1_X1_init : ∀ w ∈ wsX10, w ∈ wsX1_init := fun _ h => (List.mem_cons_of_mem _ (List.mem_append_right _ h))
set_option maxHeartbeats 4000000 in
set_option maxRecDepth 100000 in
theorem c_X1_init {cy : Nat → ClassId} (h0 : Nat) : kNw yX1_init wsX1_init rm_X1_init cy [.ref h0] ([(h0, .inr (1, [.int 0, .int 0, .int 0, .int 0, .int 0, .int 0]))] : va_W) (fun (u : Unit) => ([(h0, .inr (1, [.int 0, .int 0, .int 0, .int 0, .int 0, .int 0]))] : va_W)) 0 0 := by
  refine kNw_of (cc := cX1_init) (maxL := 1) (by decide) rfl rfl (Nat.le_of_ble_eq_true rfl) ?_
  intro X hR C hnm hao E
  have C : kC X 1 RX1 cX1_init wsX1_init cy := C
  refine k_fr (fr2 := [(0, .ref h0)]) ⟨[0], rfl⟩ ?_
  refine k_aload_n (q := 1) C 0 dX1_init_0 rfl rfl ?_
  refine k_objI (q := 4) C (List.mem_of_getElem? (i := 1) rfl) (List.mem_of_getElem? (i := 2) rfl) (List.mem_of_getElem? (i := 3) rfl) (by rw [hR]; decide) dX1_init_1 rfl ?_
  refine k_aload_n (q := 5) C 0 dX1_init_4 rfl rfl ?_
  refine k_iconst (q := 6) (v := 0) C dX1_init_5 (by decide) rfl ?_
  refine k_put (q := 9) (ci := 1) (v := .int 0) (w2 := ([(h0, .inr (1, [.int 0, .int 0, .int 0, .int 0, .int 0, .int 0]))] : va_W)) C 0 0 in1_X1_init rfl (List.mem_of_getElem? (i := 4) rfl) rfl tyX1 tyX1_ok nmX1 rfl rfl rfl rfl (by decide) (Nat.le_of_ble_eq_true rfl) rfl dX1_init_6 rfl ?_
  exact k_finN E (()) (by decide) (by decide) dX1_init_9 rfl
abbrev rm_X2_init : Room := { frames := 2, cells := 6, slots := 54, locals := 32 }
theorem in0_X2_init : ∀ w ∈ wsX00, w ∈ wsX2_init := fun _ h => (List.mem_cons_of_mem _ (List.mem_append_right _ h))
theorem in2_X2_init : ∀ w ∈ wsX20, w ∈ wsX2_init := fun _ h => (List.mem_cons_of_mem _ (List.mem_append_left _ (List.mem_append_right _ h)))
set_option maxHeartbeats 4000000 in
set_option maxRecDepth 100000 in
theorem c_X2_init {cy : Nat → ClassId} (h0 : Nat) : kNw yX2_init wsX2_init rm_X2_init cy [.ref h0] ([(h0, .inr (2, [.int 0, .null, .null, .null, .null, .int 0, .null]))] : va_W) (fun (u : Nat × Nat × Nat × Nat × Nat × Nat) => ([(h0, .inr (2, [.int 0, .ref (u.1), .ref (u.2.1), .ref (u.2.2.1), .ref (u.2.2.2.1), .int 3, .ref (u.2.2.2.2.1)])), ((u.1), .inl (cy 0, 6, .inl (fun _ => 0))), ((u.2.1), .inl (cy 0, 6, .inl (fun _ => 0))), ((u.2.2.1), .inl (cy 0, 2, .inl (upd (upd (fun _ => 0) 0 5) 1 (-5)))), ((u.2.2.2.1), .inl (cy 0, 4, .inl (upd (upd (upd (upd (fun _ => 0) 0 300) 1 100) 2 20) 3 10))), ((u.2.2.2.2.1), .inr (0, [.ref (u.2.2.2.2.2), .int 0, .int 0, .int 0])), ((u.2.2.2.2.2), .inl (cy 0, 32, .inl (fun _ => 0)))] : va_W)) 6 54 := by
  refine kNw_of (cc := cX2_init) (maxL := 1) (by decide) rfl rfl (Nat.le_of_ble_eq_true rfl) ?_
  intro X hR C hnm hao E
  have C : kC X 1 RX2 cX2_init wsX2_init cy := C
  refine k_fr (fr2 := [(0, .ref h0)]) ⟨[0], rfl⟩ ?_
  refine k_aload_n (q := 1) C 0 dX2_init_0 rfl rfl ?_
  refine k_objI (q := 4) C (List.mem_of_getElem? (i := 1) rfl) (List.mem_of_getElem? (i := 2) rfl) (List.mem_of_getElem? (i := 3) rfl) (by rw [hR]; decide) dX2_init_1 rfl ?_
  refine k_aload_n (q := 5) C 0 dX2_init_4 rfl rfl ?_
  refine k_bipush (q := 7) (v := 6) C dX2_init_5 (by decide +kernel) rfl ?_
  refine k_newa (q := 9) (cB := cy 0) (ty := .int) (a0 := (6, .inl (fun _ => 0))) (N' := 6) C 0 rfl (fun _ h => h) (List.mem_of_getElem? (i := 4) rfl) rfl (fun _ => rfl) (by decide) (by decide) (by decide) (by rw [hR]; decide) dX2_init_7 rfl (fun q_7 => ?_)
  refine k_w (w2 := ([(h0, .inr (2, [.int 0, .null, .null, .null, .null, .int 0, .null])), (q_7, .inl (cy 0, 6, .inl (fun _ => 0)))] : va_W)) rfl ?_
  refine k_putF (q := 12) (ci := 2) (v := .ref q_7) (w2 := ([(h0, .inr (2, [.int 0, .ref q_7, .null, .null, .null, .int 0, .null])), (q_7, .inl (cy 0, 6, .inl (fun _ => 0)))] : va_W)) C 0 1 in2_X2_init rfl (List.mem_of_getElem? (i := 5) rfl) rfl tyX2 tyX2_ok nmX2 rfl hnm rfl rfl rfl rfl (by decide) (Nat.le_of_ble_eq_true rfl) rfl dX2_init_9 rfl ?_
  refine k_aload_n (q := 13) C 0 dX2_init_12 rfl rfl ?_
  refine k_bipush (q := 15) (v := 6) C dX2_init_13 (by decide +kernel) rfl ?_
  refine k_newa (q := 17) (cB := cy 0) (ty := .int) (a0 := (6, .inl (fun _ => 0))) (N' := 6) C 0 rfl (fun _ h => h) (List.mem_of_getElem? (i := 4) rfl) rfl (fun _ => rfl) (by decide) (by decide) (by decide) (by rw [hR]; decide) dX2_init_15 rfl (fun q_15 => ?_)
  refine k_w (w2 := ([(h0, .inr (2, [.int 0, .ref q_7, .null, .null, .null, .int 0, .null])), (q_7, .inl (cy 0, 6, .inl (fun _ => 0))), (q_15, .inl (cy 0, 6, .inl (fun _ => 0)))] : va_W)) rfl ?_
  refine k_putF (q := 20) (ci := 2) (v := .ref q_15) (w2 := ([(h0, .inr (2, [.int 0, .ref q_7, .ref q_15, .null, .null, .int 0, .null])), (q_7, .inl (cy 0, 6, .inl (fun _ => 0))), (q_15, .inl (cy 0, 6, .inl (fun _ => 0)))] : va_W)) C 0 2 in2_X2_init rfl (List.mem_of_getElem? (i := 6) rfl) rfl tyX2 tyX2_ok nmX2 rfl hnm rfl rfl rfl rfl (by decide) (Nat.le_of_ble_eq_true rfl) rfl dX2_init_17 rfl ?_
  refine k_aload_n (q := 21) C 0 dX2_init_20 rfl rfl ?_
  refine k_iconst (q := 22) (v := 2) C dX2_init_21 (by decide) rfl ?_
  refine k_newa (q := 24) (cB := cy 0) (ty := .int) (a0 := (2, .inl (fun _ => 0))) (N' := 2) C 0 rfl (fun _ h => h) (List.mem_of_getElem? (i := 4) rfl) rfl (fun _ => rfl) (by decide) (by decide) (by decide) (by rw [hR]; decide) dX2_init_22 rfl (fun q_22 => ?_)
  refine k_w (w2 := ([(h0, .inr (2, [.int 0, .ref q_7, .ref q_15, .null, .null, .int 0, .null])), (q_7, .inl (cy 0, 6, .inl (fun _ => 0))), (q_15, .inl (cy 0, 6, .inl (fun _ => 0))), (q_22, .inl (cy 0, 2, .inl (fun _ => 0)))] : va_W)) rfl ?_
  refine k_putF (q := 27) (ci := 2) (v := .ref q_22) (w2 := ([(h0, .inr (2, [.int 0, .ref q_7, .ref q_15, .ref q_22, .null, .int 0, .null])), (q_7, .inl (cy 0, 6, .inl (fun _ => 0))), (q_15, .inl (cy 0, 6, .inl (fun _ => 0))), (q_22, .inl (cy 0, 2, .inl (fun _ => 0)))] : va_W)) C 0 3 in2_X2_init rfl (List.mem_of_getElem? (i := 7) rfl) rfl tyX2 tyX2_ok nmX2 rfl hnm rfl rfl rfl rfl (by decide) (Nat.le_of_ble_eq_true rfl) rfl dX2_init_24 rfl ?_
  refine k_aload_n (q := 28) C 0 dX2_init_27 rfl rfl ?_
  refine k_get (q := 31) (ci := 2) (v := .ref q_22) C 0 3 in2_X2_init rfl (List.mem_of_getElem? (i := 7) rfl) rfl rfl (by decide) rfl dX2_init_28 rfl ?_
  refine k_iconst (q := 32) (v := 0) C dX2_init_31 (by decide) rfl ?_
  refine k_iconst (q := 33) (v := 5) C dX2_init_32 (by decide) rfl ?_
  refine k_iast (q := 34) (w2 := ([(h0, .inr (2, [.int 0, .ref q_7, .ref q_15, .ref q_22, .null, .int 0, .null])), (q_7, .inl (cy 0, 6, .inl (fun _ => 0))), (q_15, .inl (cy 0, 6, .inl (fun _ => 0))), (q_22, .inl (cy 0, 2, .inl (upd (fun _ => 0) 0 5)))] : va_W)) C 3 rfl (vp_in_nI (n := 0) (by decide) (by decide)) rfl dX2_init_33 rfl ?_
  refine k_aload_n (q := 35) C 0 dX2_init_34 rfl rfl ?_
  refine k_get (q := 38) (ci := 2) (v := .ref q_22) C 0 3 in2_X2_init rfl (List.mem_of_getElem? (i := 7) rfl) rfl rfl (by decide) rfl dX2_init_35 rfl ?_
  refine k_iconst (q := 39) (v := 1) C dX2_init_38 (by decide) rfl ?_
  refine k_bipush (q := 41) (v := -5) C dX2_init_39 (by decide +kernel) rfl ?_
  refine k_iast (q := 42) (w2 := ([(h0, .inr (2, [.int 0, .ref q_7, .ref q_15, .ref q_22, .null, .int 0, .null])), (q_7, .inl (cy 0, 6, .inl (fun _ => 0))), (q_15, .inl (cy 0, 6, .inl (fun _ => 0))), (q_22, .inl (cy 0, 2, .inl (upd (upd (fun _ => 0) 0 5) 1 (-5))))] : va_W)) C 3 rfl (vp_in_nI (n := 1) (by decide) (by decide)) rfl dX2_init_41 rfl ?_
  refine k_aload_n (q := 43) C 0 dX2_init_42 rfl rfl ?_
  refine k_iconst (q := 44) (v := 4) C dX2_init_43 (by decide) rfl ?_
  refine k_newa (q := 46) (cB := cy 0) (ty := .int) (a0 := (4, .inl (fun _ => 0))) (N' := 4) C 0 rfl (fun _ h => h) (List.mem_of_getElem? (i := 4) rfl) rfl (fun _ => rfl) (by decide) (by decide) (by decide) (by rw [hR]; decide) dX2_init_44 rfl (fun q_44 => ?_)
  refine k_w (w2 := ([(h0, .inr (2, [.int 0, .ref q_7, .ref q_15, .ref q_22, .null, .int 0, .null])), (q_7, .inl (cy 0, 6, .inl (fun _ => 0))), (q_15, .inl (cy 0, 6, .inl (fun _ => 0))), (q_22, .inl (cy 0, 2, .inl (upd (upd (fun _ => 0) 0 5) 1 (-5)))), (q_44, .inl (cy 0, 4, .inl (fun _ => 0)))] : va_W)) rfl ?_
  refine k_putF (q := 49) (ci := 2) (v := .ref q_44) (w2 := ([(h0, .inr (2, [.int 0, .ref q_7, .ref q_15, .ref q_22, .ref q_44, .int 0, .null])), (q_7, .inl (cy 0, 6, .inl (fun _ => 0))), (q_15, .inl (cy 0, 6, .inl (fun _ => 0))), (q_22, .inl (cy 0, 2, .inl (upd (upd (fun _ => 0) 0 5) 1 (-5)))), (q_44, .inl (cy 0, 4, .inl (fun _ => 0)))] : va_W)) C 0 4 in2_X2_init rfl (List.mem_of_getElem? (i := 8) rfl) rfl tyX2 tyX2_ok nmX2 rfl hnm rfl rfl rfl rfl (by decide) (Nat.le_of_ble_eq_true rfl) rfl dX2_init_46 rfl ?_
  refine k_aload_n (q := 50) C 0 dX2_init_49 rfl rfl ?_
  refine k_get (q := 53) (ci := 2) (v := .ref q_44) C 0 4 in2_X2_init rfl (List.mem_of_getElem? (i := 8) rfl) rfl rfl (by decide) rfl dX2_init_50 rfl ?_
  refine k_iconst (q := 54) (v := 0) C dX2_init_53 (by decide) rfl ?_
  refine k_sipush (q := 57) (v := 300) C dX2_init_54 (by decide +kernel) rfl ?_
  refine k_iast (q := 58) (w2 := ([(h0, .inr (2, [.int 0, .ref q_7, .ref q_15, .ref q_22, .ref q_44, .int 0, .null])), (q_7, .inl (cy 0, 6, .inl (fun _ => 0))), (q_15, .inl (cy 0, 6, .inl (fun _ => 0))), (q_22, .inl (cy 0, 2, .inl (upd (upd (fun _ => 0) 0 5) 1 (-5)))), (q_44, .inl (cy 0, 4, .inl (upd (fun _ => 0) 0 300)))] : va_W)) C 4 rfl (vp_in_nI (n := 0) (by decide) (by decide)) rfl dX2_init_57 rfl ?_
  refine k_aload_n (q := 59) C 0 dX2_init_58 rfl rfl ?_
  refine k_get (q := 62) (ci := 2) (v := .ref q_44) C 0 4 in2_X2_init rfl (List.mem_of_getElem? (i := 8) rfl) rfl rfl (by decide) rfl dX2_init_59 rfl ?_
  refine k_iconst (q := 63) (v := 1) C dX2_init_62 (by decide) rfl ?_
  refine k_bipush (q := 65) (v := 100) C dX2_init_63 (by decide +kernel) rfl ?_
  refine k_iast (q := 66) (w2 := ([(h0, .inr (2, [.int 0, .ref q_7, .ref q_15, .ref q_22, .ref q_44, .int 0, .null])), (q_7, .inl (cy 0, 6, .inl (fun _ => 0))), (q_15, .inl (cy 0, 6, .inl (fun _ => 0))), (q_22, .inl (cy 0, 2, .inl (upd (upd (fun _ => 0) 0 5) 1 (-5)))), (q_44, .inl (cy 0, 4, .inl (upd (upd (fun _ => 0) 0 300) 1 100)))] : va_W)) C 4 rfl (vp_in_nI (n := 1) (by decide) (by decide)) rfl dX2_init_65 rfl ?_
  refine k_aload_n (q := 67) C 0 dX2_init_66 rfl rfl ?_
  refine k_get (q := 70) (ci := 2) (v := .ref q_44) C 0 4 in2_X2_init rfl (List.mem_of_getElem? (i := 8) rfl) rfl rfl (by decide) rfl dX2_init_67 rfl ?_
  refine k_iconst (q := 71) (v := 2) C dX2_init_70 (by decide) rfl ?_
  refine k_bipush (q := 73) (v := 20) C dX2_init_71 (by decide +kernel) rfl ?_
  refine k_iast (q := 74) (w2 := ([(h0, .inr (2, [.int 0, .ref q_7, .ref q_15, .ref q_22, .ref q_44, .int 0, .null])), (q_7, .inl (cy 0, 6, .inl (fun _ => 0))), (q_15, .inl (cy 0, 6, .inl (fun _ => 0))), (q_22, .inl (cy 0, 2, .inl (upd (upd (fun _ => 0) 0 5) 1 (-5)))), (q_44, .inl (cy 0, 4, .inl (upd (upd (upd (fun _ => 0) 0 300) 1 100) 2 20)))] : va_W)) C 4 rfl (vp_in_nI (n := 2) (by decide) (by decide)) rfl dX2_init_73 rfl ?_
  refine k_aload_n (q := 75) C 0 dX2_init_74 rfl rfl ?_
  refine k_get (q := 78) (ci := 2) (v := .ref q_44) C 0 4 in2_X2_init rfl (List.mem_of_getElem? (i := 8) rfl) rfl rfl (by decide) rfl dX2_init_75 rfl ?_
  refine k_iconst (q := 79) (v := 3) C dX2_init_78 (by decide) rfl ?_
  refine k_bipush (q := 81) (v := 10) C dX2_init_79 (by decide +kernel) rfl ?_
  refine k_iast (q := 82) (w2 := ([(h0, .inr (2, [.int 0, .ref q_7, .ref q_15, .ref q_22, .ref q_44, .int 0, .null])), (q_7, .inl (cy 0, 6, .inl (fun _ => 0))), (q_15, .inl (cy 0, 6, .inl (fun _ => 0))), (q_22, .inl (cy 0, 2, .inl (upd (upd (fun _ => 0) 0 5) 1 (-5)))), (q_44, .inl (cy 0, 4, .inl (upd (upd (upd (upd (fun _ => 0) 0 300) 1 100) 2 20) 3 10)))] : va_W)) C 4 rfl (vp_in_nI (n := 3) (by decide) (by decide)) rfl dX2_init_81 rfl ?_
  refine k_aload_n (q := 83) C 0 dX2_init_82 rfl rfl ?_
  refine k_iconst (q := 84) (v := 3) C dX2_init_83 (by decide) rfl ?_
  refine k_put (q := 87) (ci := 2) (v := .int 3) (w2 := ([(h0, .inr (2, [.int 0, .ref q_7, .ref q_15, .ref q_22, .ref q_44, .int 3, .null])), (q_7, .inl (cy 0, 6, .inl (fun _ => 0))), (q_15, .inl (cy 0, 6, .inl (fun _ => 0))), (q_22, .inl (cy 0, 2, .inl (upd (upd (fun _ => 0) 0 5) 1 (-5)))), (q_44, .inl (cy 0, 4, .inl (upd (upd (upd (upd (fun _ => 0) 0 300) 1 100) 2 20) 3 10)))] : va_W)) C 0 5 in2_X2_init rfl (List.mem_of_getElem? (i := 9) rfl) rfl tyX2 tyX2_ok nmX2 rfl rfl rfl rfl (by decide) (Nat.le_of_ble_eq_true rfl) rfl dX2_init_84 rfl ?_
  refine k_aload_n (q := 88) C 0 dX2_init_87 rfl rfl ?_
  refine k_new (q := 91) (ci := 0) (fs := [.null, .int 0, .int 0, .int 0]) C in0_X2_init tyX0 tyX0_ok (List.mem_of_getElem? (i := 10) rfl) (List.mem_of_getElem? (i := 11) rfl) (List.mem_of_getElem? (i := 12) rfl) rfl (fun j hj => by rcases (show j = 0 ∨ j = 1 ∨ j = 2 ∨ j = 3 by omega) with rfl | rfl | rfl | rfl <;> rfl) (by rw [hR]; decide) dX2_init_88 rfl (fun q_88 => ?_)
  refine k_w (w2 := ([(h0, .inr (2, [.int 0, .ref q_7, .ref q_15, .ref q_22, .ref q_44, .int 3, .null])), (q_7, .inl (cy 0, 6, .inl (fun _ => 0))), (q_15, .inl (cy 0, 6, .inl (fun _ => 0))), (q_22, .inl (cy 0, 2, .inl (upd (upd (fun _ => 0) 0 5) 1 (-5)))), (q_44, .inl (cy 0, 4, .inl (upd (upd (upd (upd (fun _ => 0) 0 300) 1 100) 2 20) 3 10))), (q_88, .inr (0, [.null, .int 0, .int 0, .int 0]))] : va_W)) rfl ?_
  refine k_dup (q := 92) C dX2_init_91 rfl rfl ?_
  refine k_callN (n := 0) (q := 95) (pre := ([(h0, .inr (2, [.int 0, .ref q_7, .ref q_15, .ref q_22, .ref q_44, .int 3, .null])), (q_7, .inl (cy 0, 6, .inl (fun _ => 0))), (q_15, .inl (cy 0, 6, .inl (fun _ => 0))), (q_22, .inl (cy 0, 2, .inl (upd (upd (fun _ => 0) 0 5) 1 (-5)))), (q_44, .inl (cy 0, 4, .inl (upd (upd (upd (upd (fun _ => 0) 0 300) 1 100) 2 20) 3 10)))] : va_W)) (post := ([] : va_W)) (w2 := fun u => ([(h0, .inr (2, [.int 0, .ref q_7, .ref q_15, .ref q_22, .ref q_44, .int 3, .null])), (q_7, .inl (cy 0, 6, .inl (fun _ => 0))), (q_15, .inl (cy 0, 6, .inl (fun _ => 0))), (q_22, .inl (cy 0, 2, .inl (upd (upd (fun _ => 0) 0 5) 1 (-5)))), (q_44, .inl (cy 0, 4, .inl (upd (upd (upd (upd (fun _ => 0) 0 300) 1 100) 2 20) 3 10))), (q_88, .inr (0, [.ref (u), .int 0, .int 0, .int 0])), ((u), .inl (cy 0, 32, .inl (fun _ => 0)))] : va_W)) (As := []) (rest := [.ref q_88, .ref h0]) C hao (c_X0_init q_88) gX2_init_X0_init rfl rfl rfl (List.mem_of_getElem? (i := 12) rfl) (List.mem_of_getElem? (i := 14) rfl) (List.mem_of_getElem? (i := 15) rfl) rfl (by decide +kernel) (by rw [hR]; decide) (by rw [hR]; decide) rfl rfl (Nat.le_of_ble_eq_true rfl) rfl (fun _ => rfl) dX2_init_92 rfl ?_
  intro q_7_92
  refine k_w (w2 := ([(h0, .inr (2, [.int 0, .ref q_7, .ref q_15, .ref q_22, .ref q_44, .int 3, .null])), (q_7, .inl (cy 0, 6, .inl (fun _ => 0))), (q_15, .inl (cy 0, 6, .inl (fun _ => 0))), (q_22, .inl (cy 0, 2, .inl (upd (upd (fun _ => 0) 0 5) 1 (-5)))), (q_44, .inl (cy 0, 4, .inl (upd (upd (upd (upd (fun _ => 0) 0 300) 1 100) 2 20) 3 10))), (q_88, .inr (0, [.ref q_7_92, .int 0, .int 0, .int 0])), (q_7_92, .inl (cy 0, 32, .inl (fun _ => 0)))] : va_W)) rfl ?_
  refine k_putF (q := 98) (ci := 2) (v := .ref q_88) (w2 := ([(h0, .inr (2, [.int 0, .ref q_7, .ref q_15, .ref q_22, .ref q_44, .int 3, .ref q_88])), (q_7, .inl (cy 0, 6, .inl (fun _ => 0))), (q_15, .inl (cy 0, 6, .inl (fun _ => 0))), (q_22, .inl (cy 0, 2, .inl (upd (upd (fun _ => 0) 0 5) 1 (-5)))), (q_44, .inl (cy 0, 4, .inl (upd (upd (upd (upd (fun _ => 0) 0 300) 1 100) 2 20) 3 10))), (q_88, .inr (0, [.ref q_7_92, .int 0, .int 0, .int 0])), (q_7_92, .inl (cy 0, 32, .inl (fun _ => 0)))] : va_W)) C 0 6 in2_X2_init rfl (List.mem_of_getElem? (i := 13) rfl) rfl tyX2 tyX2_ok nmX2 rfl hnm rfl rfl rfl rfl (by decide) (Nat.le_of_ble_eq_true rfl) rfl dX2_init_95 rfl ?_
  exact k_finN E (q_7, q_15, q_22, q_44, q_88, q_7_92) (by decide) (by decide) dX2_init_98 rfl
