abbrev rm_X0_init : Room := { frames := 1, cells := 1, slots := 32, locals := 12 }
theorem in0_X0_init : ∀ w ∈ wsX00, w ∈ wsX0_init := fun _ h => (List.mem_cons_of_mem _ (List.mem_append_right _ h))
set_option maxHeartbeats 4000000 in
set_option maxRecDepth 100000 in
theorem c_X0_init {cy : Nat → ClassId} (h0 : Nat) : kNw yX0_init wsX0_init rm_X0_init cy [.ref h0] ([(h0, .inr (0, [.null, .int 0, .int 0, .int 0]))] : va_W) (fun (u : Nat) => ([(h0, .inr (0, [.ref (u), .int 0, .int 0, .int 0])), ((u), .inl (cy 0, 32, .inl (fun _ => 0)))] : va_W)) 1 32 := by
  refine kNw_of (cc := cX0_init) (maxL := 1) (by decide) rfl rfl (Nat.le_of_ble_eq_true rfl) ?_
  intro X hR C hnm hao E
  have C : kC X 1 RX0 cX0_init wsX0_init cy := C
  refine k_fr (fr2 := [(0, .ref h0)]) ⟨[0], rfl⟩ ?_
  refine k_aload_n (q := 1) C 0 dX0_init_0 rfl rfl ?_
  refine k_objI (q := 4) C (List.mem_of_getElem? (i := 1) rfl) (List.mem_of_getElem? (i := 2) rfl) (List.mem_of_getElem? (i := 3) rfl) (by rw [hR]; decide) dX0_init_1 rfl ?_
  refine k_aload_n (q := 5) C 0 dX0_init_4 rfl rfl ?_
  refine k_bipush (q := 7) (v := 32) C dX0_init_5 (by decide +kernel) rfl ?_
  refine k_newa (q := 9) (cB := cy 0) (ty := .int) (a0 := (32, .inl (fun _ => 0))) (N' := 32) C 0 rfl (fun _ h => h) (List.mem_of_getElem? (i := 4) rfl) rfl (fun _ => rfl) (by decide) (by decide) (by decide) (by rw [hR]; decide) dX0_init_7 rfl (fun q_7 => ?_)
  refine k_w (w2 := ([(h0, .inr (0, [.null, .int 0, .int 0, .int 0])), (q_7, .inl (cy 0, 32, .inl (fun _ => 0)))] : va_W)) rfl ?_
  refine k_putF (q := 12) (ci := 0) (v := .ref q_7) (w2 := ([(h0, .inr (0, [.ref q_7, .int 0, .int 0, .int 0])), (q_7, .inl (cy 0, 32, .inl (fun _ => 0)))] : va_W)) C 0 0 in0_X0_init rfl (List.mem_of_getElem? (i := 5) rfl) rfl tyX0 tyX0_ok nmX0 rfl hnm rfl rfl rfl rfl (by decide) (Nat.le_of_ble_eq_true rfl) rfl dX0_init_9 rfl ?_
  exact k_finN E (q_7) (by decide) (by decide) dX0_init_12 rfl
abbrev rm_X1_init : Room := { frames := 1, cells := 0, slots := 0, locals := 12 }
theorem in1_X1_init : ∀ w ∈ wsX10, w ∈ wsX1_init := fun _ h => (List.mem_cons_of_mem _ (List.mem_append_right _ h))
set_option maxHeartbeats 4000000 in
set_option maxRecDepth 100000 in
theorem c_X1_init {cy : Nat → ClassId} (h0 : Nat) : kNw yX1_init wsX1_init rm_X1_init cy [.ref h0] ([(h0, .inr (1, [.int 0, .int 0, .int 0, .int 0, .int 0, .int 0]))] : va_W) (fun (u : Unit) => ([(h0, .inr (1, [.int 0, .int 0, .int 0, .int 0, .int 0, .int 0]))] : va_W)) 0 0 := by
  refine kNw_of (cc := cX1_init) (maxL := 1) (by decide) rfl rfl (Nat.le_of_ble_eq_true rfl) ?_
  intro X hR C hnm hao E
  have C : kC X 1 RX1 cX1_init wsX1_init cy := C
  refine k_fr (fr2 := [(0, .ref h0)]) ⟨[0], rfl⟩ ?_
  refine k_aload_n (q := 1) C 0 dX1_init_0 rfl rfl ?_
  refine k_objI (q := 4) C (List.mem_of_getElem? (i := 1) rfl) (List.mem_of_getElem? (i := 2) rfl) (List.mem_of_getElem? (i := 3) rfl) (by rw [hR]; decide) dX1_init_1 rfl ?_
  refine k_aload_n (q := 5) C 0 dX1_init_4 rfl rfl ?_
  refine k_iconst (q := 6) (v := 0) C dX1_init_5 (by decide) rfl ?_
  refine k_put (q := 9) (ci := 1) (v := .int 0) (w2 := ([(h0, .inr (1, [.int 0, .int 0, .int 0, .int 0, .int 0, .int 0]))] : va_W)) C 0 0 in1_X1_init rfl (List.mem_of_getElem? (i := 4) rfl) rfl tyX1 tyX1_ok nmX1 rfl rfl rfl rfl (by decide) (Nat.le_of_ble_eq_true rfl) rfl dX1_init_6 rfl ?_
  exact k_finN E (()) (by decide) (by decide) dX1_init_9 rfl
abbrev rm_X2_init : Room := { frames := 2, cells := 6, slots := 54, locals := 32 }
theorem in0_X2_init : ∀ w ∈ wsX00, w ∈ wsX2_init := fun _ h => (List.mem_cons_of_mem _ (List.mem_append_right _ h))
theorem in2_X2_init : ∀ w ∈ wsX20, w ∈ wsX2_init := fun _ h => (List.mem_cons_of_mem _ (List.mem_append_left _ (List.mem_append_right _ h)))
set_option maxHeartbeats 4000000 in
set_option maxRecDepth 100000 in
theorem c_X2_init {cy : Nat → ClassId} (h0 : Nat) : kNw yX2_init wsX2_init rm_X2_init cy [.ref h0] ([(h0, .inr (2, [.int 0, .null, .null, .null, .null, .int 0, .null]))] : va_W) (fun (u : Nat × Nat × Nat × Nat × Nat × Nat) => ([(h0, .inr (2, [.int 0, .ref (u.1), .ref (u.2.1), .ref (u.2.2.1), .ref (u.2.2.2.1), .int 3, .ref (u.2.2.2.2.1)])), ((u.1), .inl (cy 0, 6, .inl (fun _ => 0))), ((u.2.1), .inl (cy 0, 6, .inl (fun _ => 0))), ((u.2.2.1), .inl (cy 0, 2, .inl (upd (upd (fun _ => 0) 0 5) 1 (-5)))), ((u.2.2.2.1), .inl (cy 0, 4, .inl (upd (upd (upd (upd (fun _ => 0) 0 300) 1 100) 2 20) 3 10))), ((u.2.2.2.2.1), .inr (0, [.ref (u.2.2.2.2.2), .int 0, .int 0, .int 0])), ((u.2.2.2.2.2), .inl (cy 0, 32, .inl (fun _ => 0)))] : va_W)) 6 54 := by
  refine kNw_of (cc := cX2_init) (maxL := 1) (by decide) rfl rfl (Nat.le_of_ble_eq_true rfl) ?_
  intro X hR C hnm hao E
  have C : kC X 1 RX2 cX2_init wsX2_init cy := C
  refine k_fr (fr2 := [(0, .ref h0)]) ⟨[0], rfl⟩ ?_
  refine k_aload_n (q := 1) C 0 dX2_init_0 rfl rfl ?_
  refine k_objI (q := 4) C (List.mem_of_getElem? (i := 1) rfl) (List.mem_of_getElem? (i := 2) rfl) (List.mem_of_getElem? (i := 3) rfl) (by rw [hR]; decide) dX2_init_1 rfl ?_
  refine k_aload_n (q := 5) C 0 dX2_init_4 rfl rfl ?_
  refine k_bipush (q := 7) (v := 6) C dX2_init_5 (by decide +kernel) rfl ?_
  refine k_newa (q := 9) (cB := cy 0) (ty := .int) (a0 := (6, .inl (fun _ => 0))) (N' := 6) C 0 rfl (fun _ h => h) (List.mem_of_getElem? (i := 4) rfl) rfl (fun _ => rfl) (by decide) (by decide) (by decide) (by rw [hR]; decide) dX2_init_7 rfl (fun q_7 => ?_)
  refine k_w (w2 := ([(h0, .inr (2, [.int 0, .null, .null, .null, .null, .int 0, .null])), (q_7, .inl (cy 0, 6, .inl (fun _ => 0)))] : va_W)) rfl ?_
  refine k_putF (q := 12) (ci := 2) (v := .ref q_7) (w2 := ([(h0, .inr (2, [.int 0, .ref q_7, .null, .null, .null, .int 0, .null])), (q_7, .inl (cy 0, 6, .inl (fun _ => 0)))] : va_W)) C 0 1 in2_X2_init rfl (List.mem_of_getElem? (i := 5) rfl) rfl tyX2 tyX2_ok nmX2 rfl hnm rfl rfl rfl rfl (by decide) (Nat.le_of_ble_eq_true rfl) rfl dX2_init_9 rfl ?_
  refine k_aload_n (q := 13) C 0 dX2_init_12 rfl rfl ?_
  refine k_bipush (q := 15) (v := 6) C dX2_init_13 (by decide +kernel) rfl ?_
  refine k_newa (q := 17) (cB := cy 0) (ty := .int) (a0 := (6, .inl (fun _ => 0))) (N' := 6) C 0 rfl (fun _ h => h) (List.mem_of_getElem? (i := 4) rfl) rfl (fun _ => rfl) (by decide) (by decide) (by decide) (by rw [hR]; decide) dX2_init_15 rfl (fun q_15 => ?_)
  refine k_w (w2 := ([(h0, .inr (2, [.int 0, .ref q_7, .null, .null, .null, .int 0, .null])), (q_7, .inl (cy 0, 6, .inl (fun _ => 0))), (q_15, .inl (cy 0, 6, .inl (fun _ => 0)))] : va_W)) rfl ?_
  refine k_putF (q := 20) (ci := 2) (v := .ref q_15) (w2 := ([(h0, .inr (2, [.int 0, .ref q_7, .ref q_15, .null, .null, .int 0, .null])), (q_7, .inl (cy 0, 6, .inl (fun _ => 0))), (q_15, .inl (cy 0, 6, .inl (fun _ => 0)))] : va_W)) C 0 2 in2_X2_init rfl (List.mem_of_getElem? (i := 6) rfl) rfl tyX2 tyX2_ok nmX2 rfl hnm rfl rfl rfl rfl (by decide) (Nat.le_of_ble_eq_true rfl) rfl dX2_init_17 rfl ?_
  refine k_aload_n (q := 21) C 0 dX2_init_20 rfl rfl ?_
  refine k_iconst (q := 22) (v := 2) C dX2_init_21 (by decide) rfl ?_
  refine k_newa (q := 24) (cB := cy 0) (ty := .int) (a0 := (2, .inl (fun _ => 0))) (N' := 2) C 0 rfl (fun _ h => h) (List.mem_of_getElem? (i := 4) rfl) rfl (fun _ => rfl) (by decide) (by decide) (by decide) (by rw [hR]; decide) dX2_init_22 rfl (fun q_22 => ?_)
  refine k_w (w2 := ([(h0, .inr (2, [.int 0, .ref q_7, .ref q_15, .null, .null, .int 0, .null])), (q_7, .inl (cy 0, 6, .inl (fun _ => 0))), (q_15, .inl (cy 0, 6, .inl (fun _ => 0))), (q_22, .inl (cy 0, 2, .inl (fun _ => 0)))] : va_W)) rfl ?_
  refine k_putF (q := 27) (ci := 2) (v := .ref q_22) (w2 := ([(h0, .inr (2, [.int 0, .ref q_7, .ref q_15, .ref q_22, .null, .int 0, .null])), (q_7, .inl (cy 0, 6, .inl (fun _ => 0))), (q_15, .inl (cy 0, 6, .inl (fun _ => 0))), (q_22, .inl (cy 0, 2, .inl (fun _ => 0)))] : va_W)) C 0 3 in2_X2_init rfl (List.mem_of_getElem? (i := 7) rfl) rfl tyX2 tyX2_ok nmX2 rfl hnm rfl rfl rfl rfl (by decide) (Nat.le_of_ble_eq_true rfl) rfl dX2_init_24 rfl ?_
  refine k_aload_n (q := 28) C 0 dX2_init_27 rfl rfl ?_
  refine k_get (q := 31) (ci := 2) (v := .ref q_22) C 0 3 in2_X2_init rfl (List.mem_of_getElem? (i := 7) rfl) rfl rfl (by decide) rfl dX2_init_28 rfl ?_
  refine k_iconst (q := 32) (v := 0) C dX2_init_31 (by decide) rfl ?_
  refine k_iconst (q := 33) (v := 5) C dX2_init_32 (by decide) rfl ?_
  refine k_iast (q := 34) (w2 := ([(h0, .inr (2, [.int 0, .ref q_7, .ref q_15, .ref q_22, .null, .int 0, .null])), (q_7, .inl (cy 0, 6, .inl (fun _ => 0))), (q_15, .inl (cy 0, 6, .inl (fun _ => 0))), (q_22, .inl (cy 0, 2, .inl (upd (fun _ => 0) 0 5)))] : va_W)) C 3 rfl (vp_in_nI (n := 0) (by decide) (by decide)) rfl dX2_init_33 rfl ?_
  refine k_aload_n (q := 35) C 0 dX2_init_34 rfl rfl ?_
  refine k_get (q := 38) (ci := 2) (v := .ref q_22) C 0 3 in2_X2_init rfl (List.mem_of_getElem? (i := 7) rfl) rfl rfl (by decide) rfl dX2_init_35 rfl ?_
  refine k_iconst (q := 39) (v := 1) C dX2_init_38 (by decide) rfl ?_
  refine k_bipush (q := 41) (v := -5) C dX2_init_39 (by decide +kernel) rfl ?_
  refine k_iast (q := 42) (w2 := ([(h0, .inr (2, [.int 0, .ref q_7, .ref q_15, .ref q_22, .null, .int 0, .null])), (q_7, .inl (cy 0, 6, .inl (fun _ => 0))), (q_15, .inl (cy 0, 6, .inl (fun _ => 0))), (q_22, .inl (cy 0, 2, .inl (upd (upd (fun _ => 0) 0 5) 1 (-5))))] : va_W)) C 3 rfl (vp_in_nI (n := 1) (by decide) (by decide)) rfl dX2_init_41 rfl ?_
  refine k_aload_n (q := 43) C 0 dX2_init_42 rfl rfl ?_
  refine k_iconst (q := 44) (v := 4) C dX2_init_43 (by decide) rfl ?_
  refine k_newa (q := 46) (cB := cy 0) (ty := .int) (a0 := (4, .inl (fun _ => 0))) (N' := 4) C 0 rfl (fun _ h => h) (List.mem_of_getElem? (i := 4) rfl) rfl (fun _ => rfl) (by decide) (by decide) (by decide) (by rw [hR]; decide) dX2_init_44 rfl (fun q_44 => ?_)
  refine k_w (w2 := ([(h0, .inr (2, [.int 0, .ref q_7, .ref q_15, .ref q_22, .null, .int 0, .null])), (q_7, .inl (cy 0, 6, .inl (fun _ => 0))), (q_15, .inl (cy 0, 6, .inl (fun _ => 0))), (q_22, .inl (cy 0, 2, .inl (upd (upd (fun _ => 0) 0 5) 1 (-5)))), (q_44, .inl (cy 0, 4, .inl (fun _ => 0)))] : va_W)) rfl ?_
  refine k_putF (q := 49) (ci := 2) (v := .ref q_44) (w2 := ([(h0, .inr (2, [.int 0, .ref q_7, .ref q_15, .ref q_22, .ref q_44, .int 0, .null])), (q_7, .inl (cy 0, 6, .inl (fun _ => 0))), (q_15, .inl (cy 0, 6, .inl (fun _ => 0))), (q_22, .inl (cy 0, 2, .inl (upd (upd (fun _ => 0) 0 5) 1 (-5)))), (q_44, .inl (cy 0, 4, .inl (fun _ => 0)))] : va_W)) C 0 4 in2_X2_init rfl (List.mem_of_getElem? (i := 8) rfl) rfl tyX2 tyX2_ok nmX2 rfl hnm rfl rfl rfl rfl (by decide) (Nat.le_of_ble_eq_true rfl) rfl dX2_init_46 rfl ?_
  refine k_aload_n (q := 50) C 0 dX2_init_49 rfl rfl ?_
  refine k_get (q := 53) (ci := 2) (v := .ref q_44) C 0 4 in2_X2_init rfl (List.mem_of_getElem? (i := 8) rfl) rfl rfl (by decide) rfl dX2_init_50 rfl ?_
  refine k_iconst (q := 54) (v := 0) C dX2_init_53 (by decide) rfl ?_
  refine k_sipush (q := 57) (v := 300) C dX2_init_54 (by decide +kernel) rfl ?_
  refine k_iast (q := 58) (w2 := ([(h0, .inr (2, [.int 0, .ref q_7, .ref q_15, .ref q_22, .ref q_44, .int 0, .null])), (q_7, .inl (cy 0, 6, .inl (fun _ => 0))), (q_15, .inl (cy 0, 6, .inl (fun _ => 0))), (q_22, .inl (cy 0, 2, .inl (upd (upd (fun _ => 0) 0 5) 1 (-5)))), (q_44, .inl (cy 0, 4, .inl (upd (fun _ => 0) 0 300)))] : va_W)) C 4 rfl (vp_in_nI (n := 0) (by decide) (by decide)) rfl dX2_init_57 rfl ?_
  refine k_aload_n (q := 59) C 0 dX2_init_58 rfl rfl ?_
  refine k_get (q := 62) (ci := 2) (v := .ref q_44) C 0 4 in2_X2_init rfl (List.mem_of_getElem? (i := 8) rfl) rfl rfl (by decide) rfl dX2_init_59 rfl ?_
  refine k_iconst (q := 63) (v := 1) C dX2_init_62 (by decide) rfl ?_
  refine k_bipush (q := 65) (v := 100) C dX2_init_63 (by decide +kernel) rfl ?_
  refine k_iast (q := 66) (w2 := ([(h0, .inr (2, [.int 0, .ref q_7, .ref q_15, .ref q_22, .ref q_44, .int 0, .null])), (q_7, .inl (cy 0, 6, .inl (fun _ => 0))), (q_15, .inl (cy 0, 6, .inl (fun _ => 0))), (q_22, .inl (cy 0, 2, .inl (upd (upd (fun _ => 0) 0 5) 1 (-5)))), (q_44, .inl (cy 0, 4, .inl (upd (upd (fun _ => 0) 0 300) 1 100)))] : va_W)) C 4 rfl (vp_in_nI (n := 1) (by decide) (by decide)) rfl dX2_init_65 rfl ?_
  refine k_aload_n (q := 67) C 0 dX2_init_66 rfl rfl ?_
  refine k_get (q := 70) (ci := 2) (v := .ref q_44) C 0 4 in2_X2_init rfl (List.mem_of_getElem? (i := 8) rfl) rfl rfl (by decide) rfl dX2_init_67 rfl ?_
  refine k_iconst (q := 71) (v := 2) C dX2_init_70 (by decide) rfl ?_
  refine k_bipush (q := 73) (v := 20) C dX2_init_71 (by decide +kernel) rfl ?_
  refine k_iast (q := 74) (w2 := ([(h0, .inr (2, [.int 0, .ref q_7, .ref q_15, .ref q_22, .ref q_44, .int 0, .null])), (q_7, .inl (cy 0, 6, .inl (fun _ => 0))), (q_15, .inl (cy 0, 6, .inl (fun _ => 0))), (q_22, .inl (cy 0, 2, .inl (upd (upd (fun _ => 0) 0 5) 1 (-5)))), (q_44, .inl (cy 0, 4, .inl (upd (upd (upd (fun _ => 0) 0 300) 1 100) 2 20)))] : va_W)) C 4 rfl (vp_in_nI (n := 2) (by decide) (by decide)) rfl dX2_init_73 rfl ?_
  refine k_aload_n (q := 75) C 0 dX2_init_74 rfl rfl ?_
  refine k_get (q := 78) (ci := 2) (v := .ref q_44) C 0 4 in2_X2_init rfl (List.mem_of_getElem? (i := 8) rfl) rfl rfl (by decide) rfl dX2_init_75 rfl ?_
  refine k_iconst (q := 79) (v := 3) C dX2_init_78 (by decide) rfl ?_
  refine k_bipush (q := 81) (v := 10) C dX2_init_79 (by decide +kernel) rfl ?_
  refine k_iast (q := 82) (w2 := ([(h0, .inr (2, [.int 0, .ref q_7, .ref q_15, .ref q_22, .ref q_44, .int 0, .null])), (q_7, .inl (cy 0, 6, .inl (fun _ => 0))), (q_15, .inl (cy 0, 6, .inl (fun _ => 0))), (q_22, .inl (cy 0, 2, .inl (upd (upd (fun _ => 0) 0 5) 1 (-5)))), (q_44, .inl (cy 0, 4, .inl (upd (upd (upd (upd (fun _ => 0) 0 300) 1 100) 2 20) 3 10)))] : va_W)) C 4 rfl (vp_in_nI (n := 3) (by decide) (by decide)) rfl dX2_init_81 rfl ?_
  refine k_aload_n (q := 83) C 0 dX2_init_82 rfl rfl ?_
  refine k_iconst (q := 84) (v := 3) C dX2_init_83 (by decide) rfl ?_
  refine k_put (q := 87) (ci := 2) (v := .int 3) (w2 := ([(h0, .inr (2, [.int 0, .ref q_7, .ref q_15, .ref q_22, .ref q_44, .int 3, .null])), (q_7, .inl (cy 0, 6, .inl (fun _ => 0))), (q_15, .inl (cy 0, 6, .inl (fun _ => 0))), (q_22, .inl (cy 0, 2, .inl (upd (upd (fun _ => 0) 0 5) 1 (-5)))), (q_44, .inl (cy 0, 4, .inl (upd (upd (upd (upd (fun _ => 0) 0 300) 1 100) 2 20) 3 10)))] : va_W)) C 0 5 in2_X2_init rfl (List.mem_of_getElem? (i := 9) rfl) rfl tyX2 tyX2_ok nmX2 rfl rfl rfl rfl (by decide) (Nat.le_of_ble_eq_true rfl) rfl dX2_init_84 rfl ?_
  refine k_aload_n (q := 88) C 0 dX2_init_87 rfl rfl ?_
  refine k_new (q := 91) (ci := 0) (fs := [.null, .int 0, .int 0, .int 0]) C in0_X2_init tyX0 tyX0_ok (List.mem_of_getElem? (i := 10) rfl) (List.mem_of_getElem? (i := 11) rfl) (List.mem_of_getElem? (i := 12) rfl) rfl (fun j hj => by rcases (show j = 0 ∨ j = 1 ∨ j = 2 ∨ j = 3 by omega) with rfl | rfl | rfl | rfl <;> rfl) (by rw [hR]; decide) dX2_init_88 rfl (fun q_88 => ?_)
  refine k_w (w2 := ([(h0, .inr (2, [.int 0, .ref q_7, .ref q_15, .ref q_22, .ref q_44, .int 3, .null])), (q_7, .inl (cy 0, 6, .inl (fun _ => 0))), (q_15, .inl (cy 0, 6, .inl (fun _ => 0))), (q_22, .inl (cy 0, 2, .inl (upd (upd (fun _ => 0) 0 5) 1 (-5)))), (q_44, .inl (cy 0, 4, .inl (upd (upd (upd (upd (fun _ => 0) 0 300) 1 100) 2 20) 3 10))), (q_88, .inr (0, [.null, .int 0, .int 0, .int 0]))] : va_W)) rfl ?_
  refine k_dup (q := 92) C dX2_init_91 rfl rfl ?_
  refine k_callN (n := 0) (q := 95) (pre := ([(h0, .inr (2, [.int 0, .ref q_7, .ref q_15, .ref q_22, .ref q_44, .int 3, .null])), (q_7, .inl (cy 0, 6, .inl (fun _ => 0))), (q_15, .inl (cy 0, 6, .inl (fun _ => 0))), (q_22, .inl (cy 0, 2, .inl (upd (upd (fun _ => 0) 0 5) 1 (-5)))), (q_44, .inl (cy 0, 4, .inl (upd (upd (upd (upd (fun _ => 0) 0 300) 1 100) 2 20) 3 10)))] : va_W)) (post := ([] : va_W)) (w2 := fun u => ([(h0, .inr (2, [.int 0, .ref q_7, .ref q_15, .ref q_22, .ref q_44, .int 3, .null])), (q_7, .inl (cy 0, 6, .inl (fun _ => 0))), (q_15, .inl (cy 0, 6, .inl (fun _ => 0))), (q_22, .inl (cy 0, 2, .inl (upd (upd (fun _ => 0) 0 5) 1 (-5)))), (q_44, .inl (cy 0, 4, .inl (upd (upd (upd (upd (fun _ => 0) 0 300) 1 100) 2 20) 3 10))), (q_88, .inr (0, [.ref (u), .int 0, .int 0, .int 0])), ((u), .inl (cy 0, 32, .inl (fun _ => 0)))] : va_W)) (As := []) (rest := [.ref q_88, .ref h0]) C hao (c_X0_init q_88) gX2_init_X0_init rfl rfl rfl (List.mem_of_getElem? (i := 12) rfl) (List.mem_of_getElem? (i := 14) rfl) (List.mem_of_getElem? (i := 15) rfl) rfl (by decide +kernel) (by rw [hR]; decide) (by rw [hR]; decide) rfl rfl (Nat.le_of_ble_eq_true rfl) rfl (fun _ => rfl) dX2_init_92 rfl ?_
  intro q_7_92
  refine k_w (w2 := ([(h0, .inr (2, [.int 0, .ref q_7, .ref q_15, .ref q_22, .ref q_44, .int 3, .null])), (q_7, .inl (cy 0, 6, .inl (fun _ => 0))), (q_15, .inl (cy 0, 6, .inl (fun _ => 0))), (q_22, .inl (cy 0, 2, .inl (upd (upd (fun _ => 0) 0 5) 1 (-5)))), (q_44, .inl (cy 0, 4, .inl (upd (upd (upd (upd (fun _ => 0) 0 300) 1 100) 2 20) 3 10))), (q_88, .inr (0, [.ref q_7_92, .int 0, .int 0, .int 0])), (q_7_92, .inl (cy 0, 32, .inl (fun _ => 0)))] : va_W)) rfl ?_
  refine k_putF (q := 98) (ci := 2) (v := .ref q_88) (w2 := ([(h0, .inr (2, [.int 0, .ref q_7, .ref q_15, .ref q_22, .ref q_44, .int 3, .ref q_88])), (q_7, .inl (cy 0, 6, .inl (fun _ => 0))), (q_15, .inl (cy 0, 6, .inl (fun _ => 0))), (q_22, .inl (cy 0, 2, .inl (upd (upd (fun _ => 0) 0 5) 1 (-5)))), (q_44, .inl (cy 0, 4, .inl (upd (upd (upd (upd (fun _ => 0) 0 300) 1 100) 2 20) 3 10))), (q_88, .inr (0, [.ref q_7_92, .int 0, .int 0, .int 0])), (q_7_92, .inl (cy 0, 32, .inl (fun _ => 0)))] : va_W)) C 0 6 in2_X2_init rfl (List.mem_of_getElem? (i := 13) rfl) rfl tyX2 tyX2_ok nmX2 rfl hnm rfl rfl rfl rfl (by decide) (Nat.le_of_ble_eq_true rfl) rfl dX2_init_95 rfl ?_
  exact k_finN E (q_7, q_15, q_22, q_44, q_88, q_7_92) (by decide) (by decide) dX2_init_98 rfl
abbrev rm_X4_init : Room := { frames := 1, cells := 8, slots := 594, locals := 12 }
theorem in4_X4_init : ∀ w ∈ wsX40, w ∈ wsX4_init := fun _ h => (List.mem_cons_of_mem _ (List.mem_append_right _ h))
set_option maxHeartbeats 4000000 in
set_option maxRecDepth 100000 in
theorem c_X4_init {cy : Nat → ClassId} (h0 : Nat) : kNw yX4_init wsX4_init rm_X4_init cy [.ref h0] ([(h0, .inr (4, [.int 0, .null, .null, .int 0, .null, .null, .null, .int 0, .int 0, .int 0, .int 0, .int 0, .null, .null, .null]))] : va_W) (fun (u : Nat × Nat × Nat × Nat × Nat × Nat × Nat × Nat) => ([(h0, .inr (4, [.int 0, .ref (u.1), .ref (u.2.1), .int 0, .ref (u.2.2.1), .ref (u.2.2.2.1), .ref (u.2.2.2.2.1), .int 0, .int 0, .int 0, .int 0, .int 0, .ref (u.2.2.2.2.2.1), .ref (u.2.2.2.2.2.2.1), .ref (u.2.2.2.2.2.2.2)])), ((u.1), .inl (cy 0, 56, .inl (upd (upd (upd (upd (upd (upd (upd (upd (fun _ => 0) 0 300) 1 100) 2 20) 3 10) 4 5) 5 (-5)) 6 1) 7 1))), ((u.2.1), .inl (cy 0, 336, .inl (fun _ => 0))), ((u.2.2.1), .inl (cy 0, 112, .inl (fun _ => 0))), ((u.2.2.2.1), .inl (cy 0, 2, .inl (fun _ => 0))), ((u.2.2.2.2.1), .inl (cy 0, 60, .inl (fun _ => 0))), ((u.2.2.2.2.2.1), .inl (cy 0, 12, .inl (fun _ => 0))), ((u.2.2.2.2.2.2.1), .inl (cy 0, 12, .inl (fun _ => 0))), ((u.2.2.2.2.2.2.2), .inl (cy 0, 4, .inl (fun _ => 0)))] : va_W)) 8 594 := by
  refine kNw_of (cc := cX4_init) (maxL := 1) (by decide) rfl rfl (Nat.le_of_ble_eq_true rfl) ?_
  intro X hR C hnm hao E
  have C : kC X 1 RX4 cX4_init wsX4_init cy := C
  refine k_fr (fr2 := [(0, .ref h0)]) ⟨[0], rfl⟩ ?_
  refine k_aload_n (q := 1) C 0 dX4_init_0 rfl rfl ?_
  refine k_objI (q := 4) C (List.mem_of_getElem? (i := 1) rfl) (List.mem_of_getElem? (i := 2) rfl) (List.mem_of_getElem? (i := 3) rfl) (by rw [hR]; decide) dX4_init_1 rfl ?_
  refine k_aload_n (q := 5) C 0 dX4_init_4 rfl rfl ?_
  refine k_bipush (q := 7) (v := 56) C dX4_init_5 (by decide +kernel) rfl ?_
  refine k_newa (q := 9) (cB := cy 0) (ty := .int) (a0 := (56, .inl (fun _ => 0))) (N' := 56) C 0 rfl (fun _ h => h) (List.mem_of_getElem? (i := 4) rfl) rfl (fun _ => rfl) (by decide) (by decide) (by decide) (by rw [hR]; decide) dX4_init_7 rfl (fun q_7 => ?_)
  refine k_w (w2 := ([(h0, .inr (4, [.int 0, .null, .null, .int 0, .null, .null, .null, .int 0, .int 0, .int 0, .int 0, .int 0, .null, .null, .null])), (q_7, .inl (cy 0, 56, .inl (fun _ => 0)))] : va_W)) rfl ?_
  refine k_putF (q := 12) (ci := 4) (v := .ref q_7) (w2 := ([(h0, .inr (4, [.int 0, .ref q_7, .null, .int 0, .null, .null, .null, .int 0, .int 0, .int 0, .int 0, .int 0, .null, .null, .null])), (q_7, .inl (cy 0, 56, .inl (fun _ => 0)))] : va_W)) C 0 1 in4_X4_init rfl (List.mem_of_getElem? (i := 5) rfl) rfl tyX4 tyX4_ok nmX4 rfl hnm rfl rfl rfl rfl (by decide) (Nat.le_of_ble_eq_true rfl) rfl dX4_init_9 rfl ?_
  refine k_aload_n (q := 13) C 0 dX4_init_12 rfl rfl ?_
  refine k_sipush (q := 16) (v := 336) C dX4_init_13 (by decide +kernel) rfl ?_
  refine k_newa (q := 18) (cB := cy 0) (ty := .int) (a0 := (336, .inl (fun _ => 0))) (N' := 336) C 0 rfl (fun _ h => h) (List.mem_of_getElem? (i := 4) rfl) rfl (fun _ => rfl) (by decide) (by decide) (by decide) (by rw [hR]; decide) dX4_init_16 rfl (fun q_16 => ?_)
  refine k_w (w2 := ([(h0, .inr (4, [.int 0, .ref q_7, .null, .int 0, .null, .null, .null, .int 0, .int 0, .int 0, .int 0, .int 0, .null, .null, .null])), (q_7, .inl (cy 0, 56, .inl (fun _ => 0))), (q_16, .inl (cy 0, 336, .inl (fun _ => 0)))] : va_W)) rfl ?_
  refine k_putF (q := 21) (ci := 4) (v := .ref q_16) (w2 := ([(h0, .inr (4, [.int 0, .ref q_7, .ref q_16, .int 0, .null, .null, .null, .int 0, .int 0, .int 0, .int 0, .int 0, .null, .null, .null])), (q_7, .inl (cy 0, 56, .inl (fun _ => 0))), (q_16, .inl (cy 0, 336, .inl (fun _ => 0)))] : va_W)) C 0 2 in4_X4_init rfl (List.mem_of_getElem? (i := 6) rfl) rfl tyX4 tyX4_ok nmX4 rfl hnm rfl rfl rfl rfl (by decide) (Nat.le_of_ble_eq_true rfl) rfl dX4_init_18 rfl ?_
  refine k_aload_n (q := 22) C 0 dX4_init_21 rfl rfl ?_
  refine k_bipush (q := 24) (v := 112) C dX4_init_22 (by decide +kernel) rfl ?_
  refine k_newa (q := 26) (cB := cy 0) (ty := .int) (a0 := (112, .inl (fun _ => 0))) (N' := 112) C 0 rfl (fun _ h => h) (List.mem_of_getElem? (i := 4) rfl) rfl (fun _ => rfl) (by decide) (by decide) (by decide) (by rw [hR]; decide) dX4_init_24 rfl (fun q_24 => ?_)
  refine k_w (w2 := ([(h0, .inr (4, [.int 0, .ref q_7, .ref q_16, .int 0, .null, .null, .null, .int 0, .int 0, .int 0, .int 0, .int 0, .null, .null, .null])), (q_7, .inl (cy 0, 56, .inl (fun _ => 0))), (q_16, .inl (cy 0, 336, .inl (fun _ => 0))), (q_24, .inl (cy 0, 112, .inl (fun _ => 0)))] : va_W)) rfl ?_
  refine k_putF (q := 29) (ci := 4) (v := .ref q_24) (w2 := ([(h0, .inr (4, [.int 0, .ref q_7, .ref q_16, .int 0, .ref q_24, .null, .null, .int 0, .int 0, .int 0, .int 0, .int 0, .null, .null, .null])), (q_7, .inl (cy 0, 56, .inl (fun _ => 0))), (q_16, .inl (cy 0, 336, .inl (fun _ => 0))), (q_24, .inl (cy 0, 112, .inl (fun _ => 0)))] : va_W)) C 0 4 in4_X4_init rfl (List.mem_of_getElem? (i := 7) rfl) rfl tyX4 tyX4_ok nmX4 rfl hnm rfl rfl rfl rfl (by decide) (Nat.le_of_ble_eq_true rfl) rfl dX4_init_26 rfl ?_
  refine k_aload_n (q := 30) C 0 dX4_init_29 rfl rfl ?_
  refine k_iconst (q := 31) (v := 2) C dX4_init_30 (by decide) rfl ?_
  refine k_newa (q := 33) (cB := cy 0) (ty := .int) (a0 := (2, .inl (fun _ => 0))) (N' := 2) C 0 rfl (fun _ h => h) (List.mem_of_getElem? (i := 4) rfl) rfl (fun _ => rfl) (by decide) (by decide) (by decide) (by rw [hR]; decide) dX4_init_31 rfl (fun q_31 => ?_)
  refine k_w (w2 := ([(h0, .inr (4, [.int 0, .ref q_7, .ref q_16, .int 0, .ref q_24, .null, .null, .int 0, .int 0, .int 0, .int 0, .int 0, .null, .null, .null])), (q_7, .inl (cy 0, 56, .inl (fun _ => 0))), (q_16, .inl (cy 0, 336, .inl (fun _ => 0))), (q_24, .inl (cy 0, 112, .inl (fun _ => 0))), (q_31, .inl (cy 0, 2, .inl (fun _ => 0)))] : va_W)) rfl ?_
  refine k_putF (q := 36) (ci := 4) (v := .ref q_31) (w2 := ([(h0, .inr (4, [.int 0, .ref q_7, .ref q_16, .int 0, .ref q_24, .ref q_31, .null, .int 0, .int 0, .int 0, .int 0, .int 0, .null, .null, .null])), (q_7, .inl (cy 0, 56, .inl (fun _ => 0))), (q_16, .inl (cy 0, 336, .inl (fun _ => 0))), (q_24, .inl (cy 0, 112, .inl (fun _ => 0))), (q_31, .inl (cy 0, 2, .inl (fun _ => 0)))] : va_W)) C 0 5 in4_X4_init rfl (List.mem_of_getElem? (i := 8) rfl) rfl tyX4 tyX4_ok nmX4 rfl hnm rfl rfl rfl rfl (by decide) (Nat.le_of_ble_eq_true rfl) rfl dX4_init_33 rfl ?_
  refine k_aload_n (q := 37) C 0 dX4_init_36 rfl rfl ?_
  refine k_bipush (q := 39) (v := 60) C dX4_init_37 (by decide +kernel) rfl ?_
  refine k_newa (q := 41) (cB := cy 0) (ty := .int) (a0 := (60, .inl (fun _ => 0))) (N' := 60) C 0 rfl (fun _ h => h) (List.mem_of_getElem? (i := 4) rfl) rfl (fun _ => rfl) (by decide) (by decide) (by decide) (by rw [hR]; decide) dX4_init_39 rfl (fun q_39 => ?_)
  refine k_w (w2 := ([(h0, .inr (4, [.int 0, .ref q_7, .ref q_16, .int 0, .ref q_24, .ref q_31, .null, .int 0, .int 0, .int 0, .int 0, .int 0, .null, .null, .null])), (q_7, .inl (cy 0, 56, .inl (fun _ => 0))), (q_16, .inl (cy 0, 336, .inl (fun _ => 0))), (q_24, .inl (cy 0, 112, .inl (fun _ => 0))), (q_31, .inl (cy 0, 2, .inl (fun _ => 0))), (q_39, .inl (cy 0, 60, .inl (fun _ => 0)))] : va_W)) rfl ?_
  refine k_putF (q := 44) (ci := 4) (v := .ref q_39) (w2 := ([(h0, .inr (4, [.int 0, .ref q_7, .ref q_16, .int 0, .ref q_24, .ref q_31, .ref q_39, .int 0, .int 0, .int 0, .int 0, .int 0, .null, .null, .null])), (q_7, .inl (cy 0, 56, .inl (fun _ => 0))), (q_16, .inl (cy 0, 336, .inl (fun _ => 0))), (q_24, .inl (cy 0, 112, .inl (fun _ => 0))), (q_31, .inl (cy 0, 2, .inl (fun _ => 0))), (q_39, .inl (cy 0, 60, .inl (fun _ => 0)))] : va_W)) C 0 6 in4_X4_init rfl (List.mem_of_getElem? (i := 9) rfl) rfl tyX4 tyX4_ok nmX4 rfl hnm rfl rfl rfl rfl (by decide) (Nat.le_of_ble_eq_true rfl) rfl dX4_init_41 rfl ?_
  refine k_aload_n (q := 45) C 0 dX4_init_44 rfl rfl ?_
  refine k_bipush (q := 47) (v := 12) C dX4_init_45 (by decide +kernel) rfl ?_
  refine k_newa (q := 49) (cB := cy 0) (ty := .int) (a0 := (12, .inl (fun _ => 0))) (N' := 12) C 0 rfl (fun _ h => h) (List.mem_of_getElem? (i := 4) rfl) rfl (fun _ => rfl) (by decide) (by decide) (by decide) (by rw [hR]; decide) dX4_init_47 rfl (fun q_47 => ?_)
  refine k_w (w2 := ([(h0, .inr (4, [.int 0, .ref q_7, .ref q_16, .int 0, .ref q_24, .ref q_31, .ref q_39, .int 0, .int 0, .int 0, .int 0, .int 0, .null, .null, .null])), (q_7, .inl (cy 0, 56, .inl (fun _ => 0))), (q_16, .inl (cy 0, 336, .inl (fun _ => 0))), (q_24, .inl (cy 0, 112, .inl (fun _ => 0))), (q_31, .inl (cy 0, 2, .inl (fun _ => 0))), (q_39, .inl (cy 0, 60, .inl (fun _ => 0))), (q_47, .inl (cy 0, 12, .inl (fun _ => 0)))] : va_W)) rfl ?_
  refine k_putF (q := 52) (ci := 4) (v := .ref q_47) (w2 := ([(h0, .inr (4, [.int 0, .ref q_7, .ref q_16, .int 0, .ref q_24, .ref q_31, .ref q_39, .int 0, .int 0, .int 0, .int 0, .int 0, .ref q_47, .null, .null])), (q_7, .inl (cy 0, 56, .inl (fun _ => 0))), (q_16, .inl (cy 0, 336, .inl (fun _ => 0))), (q_24, .inl (cy 0, 112, .inl (fun _ => 0))), (q_31, .inl (cy 0, 2, .inl (fun _ => 0))), (q_39, .inl (cy 0, 60, .inl (fun _ => 0))), (q_47, .inl (cy 0, 12, .inl (fun _ => 0)))] : va_W)) C 0 12 in4_X4_init rfl (List.mem_of_getElem? (i := 10) rfl) rfl tyX4 tyX4_ok nmX4 rfl hnm rfl rfl rfl rfl (by decide) (Nat.le_of_ble_eq_true rfl) rfl dX4_init_49 rfl ?_
  refine k_aload_n (q := 53) C 0 dX4_init_52 rfl rfl ?_
  refine k_bipush (q := 55) (v := 12) C dX4_init_53 (by decide +kernel) rfl ?_
  refine k_newa (q := 57) (cB := cy 0) (ty := .int) (a0 := (12, .inl (fun _ => 0))) (N' := 12) C 0 rfl (fun _ h => h) (List.mem_of_getElem? (i := 4) rfl) rfl (fun _ => rfl) (by decide) (by decide) (by decide) (by rw [hR]; decide) dX4_init_55 rfl (fun q_55 => ?_)
  refine k_w (w2 := ([(h0, .inr (4, [.int 0, .ref q_7, .ref q_16, .int 0, .ref q_24, .ref q_31, .ref q_39, .int 0, .int 0, .int 0, .int 0, .int 0, .ref q_47, .null, .null])), (q_7, .inl (cy 0, 56, .inl (fun _ => 0))), (q_16, .inl (cy 0, 336, .inl (fun _ => 0))), (q_24, .inl (cy 0, 112, .inl (fun _ => 0))), (q_31, .inl (cy 0, 2, .inl (fun _ => 0))), (q_39, .inl (cy 0, 60, .inl (fun _ => 0))), (q_47, .inl (cy 0, 12, .inl (fun _ => 0))), (q_55, .inl (cy 0, 12, .inl (fun _ => 0)))] : va_W)) rfl ?_
  refine k_putF (q := 60) (ci := 4) (v := .ref q_55) (w2 := ([(h0, .inr (4, [.int 0, .ref q_7, .ref q_16, .int 0, .ref q_24, .ref q_31, .ref q_39, .int 0, .int 0, .int 0, .int 0, .int 0, .ref q_47, .ref q_55, .null])), (q_7, .inl (cy 0, 56, .inl (fun _ => 0))), (q_16, .inl (cy 0, 336, .inl (fun _ => 0))), (q_24, .inl (cy 0, 112, .inl (fun _ => 0))), (q_31, .inl (cy 0, 2, .inl (fun _ => 0))), (q_39, .inl (cy 0, 60, .inl (fun _ => 0))), (q_47, .inl (cy 0, 12, .inl (fun _ => 0))), (q_55, .inl (cy 0, 12, .inl (fun _ => 0)))] : va_W)) C 0 13 in4_X4_init rfl (List.mem_of_getElem? (i := 11) rfl) rfl tyX4 tyX4_ok nmX4 rfl hnm rfl rfl rfl rfl (by decide) (Nat.le_of_ble_eq_true rfl) rfl dX4_init_57 rfl ?_
  refine k_aload_n (q := 61) C 0 dX4_init_60 rfl rfl ?_
  refine k_iconst (q := 62) (v := 4) C dX4_init_61 (by decide) rfl ?_
  refine k_newa (q := 64) (cB := cy 0) (ty := .int) (a0 := (4, .inl (fun _ => 0))) (N' := 4) C 0 rfl (fun _ h => h) (List.mem_of_getElem? (i := 4) rfl) rfl (fun _ => rfl) (by decide) (by decide) (by decide) (by rw [hR]; decide) dX4_init_62 rfl (fun q_62 => ?_)
  refine k_w (w2 := ([(h0, .inr (4, [.int 0, .ref q_7, .ref q_16, .int 0, .ref q_24, .ref q_31, .ref q_39, .int 0, .int 0, .int 0, .int 0, .int 0, .ref q_47, .ref q_55, .null])), (q_7, .inl (cy 0, 56, .inl (fun _ => 0))), (q_16, .inl (cy 0, 336, .inl (fun _ => 0))), (q_24, .inl (cy 0, 112, .inl (fun _ => 0))), (q_31, .inl (cy 0, 2, .inl (fun _ => 0))), (q_39, .inl (cy 0, 60, .inl (fun _ => 0))), (q_47, .inl (cy 0, 12, .inl (fun _ => 0))), (q_55, .inl (cy 0, 12, .inl (fun _ => 0))), (q_62, .inl (cy 0, 4, .inl (fun _ => 0)))] : va_W)) rfl ?_
  refine k_putF (q := 67) (ci := 4) (v := .ref q_62) (w2 := ([(h0, .inr (4, [.int 0, .ref q_7, .ref q_16, .int 0, .ref q_24, .ref q_31, .ref q_39, .int 0, .int 0, .int 0, .int 0, .int 0, .ref q_47, .ref q_55, .ref q_62])), (q_7, .inl (cy 0, 56, .inl (fun _ => 0))), (q_16, .inl (cy 0, 336, .inl (fun _ => 0))), (q_24, .inl (cy 0, 112, .inl (fun _ => 0))), (q_31, .inl (cy 0, 2, .inl (fun _ => 0))), (q_39, .inl (cy 0, 60, .inl (fun _ => 0))), (q_47, .inl (cy 0, 12, .inl (fun _ => 0))), (q_55, .inl (cy 0, 12, .inl (fun _ => 0))), (q_62, .inl (cy 0, 4, .inl (fun _ => 0)))] : va_W)) C 0 14 in4_X4_init rfl (List.mem_of_getElem? (i := 12) rfl) rfl tyX4 tyX4_ok nmX4 rfl hnm rfl rfl rfl rfl (by decide) (Nat.le_of_ble_eq_true rfl) rfl dX4_init_64 rfl ?_
  refine k_aload_n (q := 68) C 0 dX4_init_67 rfl rfl ?_
  refine k_get (q := 71) (ci := 4) (v := .ref q_7) C 0 1 in4_X4_init rfl (List.mem_of_getElem? (i := 5) rfl) rfl rfl (by decide) rfl dX4_init_68 rfl ?_
  refine k_iconst (q := 72) (v := 0) C dX4_init_71 (by decide) rfl ?_
  refine k_sipush (q := 75) (v := 300) C dX4_init_72 (by decide +kernel) rfl ?_
  refine k_iast (q := 76) (w2 := ([(h0, .inr (4, [.int 0, .ref q_7, .ref q_16, .int 0, .ref q_24, .ref q_31, .ref q_39, .int 0, .int 0, .int 0, .int 0, .int 0, .ref q_47, .ref q_55, .ref q_62])), (q_7, .inl (cy 0, 56, .inl (upd (fun _ => 0) 0 300))), (q_16, .inl (cy 0, 336, .inl (fun _ => 0))), (q_24, .inl (cy 0, 112, .inl (fun _ => 0))), (q_31, .inl (cy 0, 2, .inl (fun _ => 0))), (q_39, .inl (cy 0, 60, .inl (fun _ => 0))), (q_47, .inl (cy 0, 12, .inl (fun _ => 0))), (q_55, .inl (cy 0, 12, .inl (fun _ => 0))), (q_62, .inl (cy 0, 4, .inl (fun _ => 0)))] : va_W)) C 1 rfl (vp_in_nI (n := 0) (by decide) (by decide)) rfl dX4_init_75 rfl ?_
  refine k_aload_n (q := 77) C 0 dX4_init_76 rfl rfl ?_
  refine k_get (q := 80) (ci := 4) (v := .ref q_7) C 0 1 in4_X4_init rfl (List.mem_of_getElem? (i := 5) rfl) rfl rfl (by decide) rfl dX4_init_77 rfl ?_
  refine k_iconst (q := 81) (v := 1) C dX4_init_80 (by decide) rfl ?_
  refine k_bipush (q := 83) (v := 100) C dX4_init_81 (by decide +kernel) rfl ?_
  refine k_iast (q := 84) (w2 := ([(h0, .inr (4, [.int 0, .ref q_7, .ref q_16, .int 0, .ref q_24, .ref q_31, .ref q_39, .int 0, .int 0, .int 0, .int 0, .int 0, .ref q_47, .ref q_55, .ref q_62])), (q_7, .inl (cy 0, 56, .inl (upd (upd (fun _ => 0) 0 300) 1 100))), (q_16, .inl (cy 0, 336, .inl (fun _ => 0))), (q_24, .inl (cy 0, 112, .inl (fun _ => 0))), (q_31, .inl (cy 0, 2, .inl (fun _ => 0))), (q_39, .inl (cy 0, 60, .inl (fun _ => 0))), (q_47, .inl (cy 0, 12, .inl (fun _ => 0))), (q_55, .inl (cy 0, 12, .inl (fun _ => 0))), (q_62, .inl (cy 0, 4, .inl (fun _ => 0)))] : va_W)) C 1 rfl (vp_in_nI (n := 1) (by decide) (by decide)) rfl dX4_init_83 rfl ?_
  refine k_aload_n (q := 85) C 0 dX4_init_84 rfl rfl ?_
  refine k_get (q := 88) (ci := 4) (v := .ref q_7) C 0 1 in4_X4_init rfl (List.mem_of_getElem? (i := 5) rfl) rfl rfl (by decide) rfl dX4_init_85 rfl ?_
  refine k_iconst (q := 89) (v := 2) C dX4_init_88 (by decide) rfl ?_
  refine k_bipush (q := 91) (v := 20) C dX4_init_89 (by decide +kernel) rfl ?_
  refine k_iast (q := 92) (w2 := ([(h0, .inr (4, [.int 0, .ref q_7, .ref q_16, .int 0, .ref q_24, .ref q_31, .ref q_39, .int 0, .int 0, .int 0, .int 0, .int 0, .ref q_47, .ref q_55, .ref q_62])), (q_7, .inl (cy 0, 56, .inl (upd (upd (upd (fun _ => 0) 0 300) 1 100) 2 20))), (q_16, .inl (cy 0, 336, .inl (fun _ => 0))), (q_24, .inl (cy 0, 112, .inl (fun _ => 0))), (q_31, .inl (cy 0, 2, .inl (fun _ => 0))), (q_39, .inl (cy 0, 60, .inl (fun _ => 0))), (q_47, .inl (cy 0, 12, .inl (fun _ => 0))), (q_55, .inl (cy 0, 12, .inl (fun _ => 0))), (q_62, .inl (cy 0, 4, .inl (fun _ => 0)))] : va_W)) C 1 rfl (vp_in_nI (n := 2) (by decide) (by decide)) rfl dX4_init_91 rfl ?_
  refine k_aload_n (q := 93) C 0 dX4_init_92 rfl rfl ?_
  refine k_get (q := 96) (ci := 4) (v := .ref q_7) C 0 1 in4_X4_init rfl (List.mem_of_getElem? (i := 5) rfl) rfl rfl (by decide) rfl dX4_init_93 rfl ?_
  refine k_iconst (q := 97) (v := 3) C dX4_init_96 (by decide) rfl ?_
  refine k_bipush (q := 99) (v := 10) C dX4_init_97 (by decide +kernel) rfl ?_
  refine k_iast (q := 100) (w2 := ([(h0, .inr (4, [.int 0, .ref q_7, .ref q_16, .int 0, .ref q_24, .ref q_31, .ref q_39, .int 0, .int 0, .int 0, .int 0, .int 0, .ref q_47, .ref q_55, .ref q_62])), (q_7, .inl (cy 0, 56, .inl (upd (upd (upd (upd (fun _ => 0) 0 300) 1 100) 2 20) 3 10))), (q_16, .inl (cy 0, 336, .inl (fun _ => 0))), (q_24, .inl (cy 0, 112, .inl (fun _ => 0))), (q_31, .inl (cy 0, 2, .inl (fun _ => 0))), (q_39, .inl (cy 0, 60, .inl (fun _ => 0))), (q_47, .inl (cy 0, 12, .inl (fun _ => 0))), (q_55, .inl (cy 0, 12, .inl (fun _ => 0))), (q_62, .inl (cy 0, 4, .inl (fun _ => 0)))] : va_W)) C 1 rfl (vp_in_nI (n := 3) (by decide) (by decide)) rfl dX4_init_99 rfl ?_
  refine k_aload_n (q := 101) C 0 dX4_init_100 rfl rfl ?_
  refine k_get (q := 104) (ci := 4) (v := .ref q_7) C 0 1 in4_X4_init rfl (List.mem_of_getElem? (i := 5) rfl) rfl rfl (by decide) rfl dX4_init_101 rfl ?_
  refine k_iconst (q := 105) (v := 4) C dX4_init_104 (by decide) rfl ?_
  refine k_iconst (q := 106) (v := 5) C dX4_init_105 (by decide) rfl ?_
  refine k_iast (q := 107) (w2 := ([(h0, .inr (4, [.int 0, .ref q_7, .ref q_16, .int 0, .ref q_24, .ref q_31, .ref q_39, .int 0, .int 0, .int 0, .int 0, .int 0, .ref q_47, .ref q_55, .ref q_62])), (q_7, .inl (cy 0, 56, .inl (upd (upd (upd (upd (upd (fun _ => 0) 0 300) 1 100) 2 20) 3 10) 4 5))), (q_16, .inl (cy 0, 336, .inl (fun _ => 0))), (q_24, .inl (cy 0, 112, .inl (fun _ => 0))), (q_31, .inl (cy 0, 2, .inl (fun _ => 0))), (q_39, .inl (cy 0, 60, .inl (fun _ => 0))), (q_47, .inl (cy 0, 12, .inl (fun _ => 0))), (q_55, .inl (cy 0, 12, .inl (fun _ => 0))), (q_62, .inl (cy 0, 4, .inl (fun _ => 0)))] : va_W)) C 1 rfl (vp_in_nI (n := 4) (by decide) (by decide)) rfl dX4_init_106 rfl ?_
  refine k_aload_n (q := 108) C 0 dX4_init_107 rfl rfl ?_
  refine k_get (q := 111) (ci := 4) (v := .ref q_7) C 0 1 in4_X4_init rfl (List.mem_of_getElem? (i := 5) rfl) rfl rfl (by decide) rfl dX4_init_108 rfl ?_
  refine k_iconst (q := 112) (v := 5) C dX4_init_111 (by decide) rfl ?_
  refine k_bipush (q := 114) (v := -5) C dX4_init_112 (by decide +kernel) rfl ?_
  refine k_iast (q := 115) (w2 := ([(h0, .inr (4, [.int 0, .ref q_7, .ref q_16, .int 0, .ref q_24, .ref q_31, .ref q_39, .int 0, .int 0, .int 0, .int 0, .int 0, .ref q_47, .ref q_55, .ref q_62])), (q_7, .inl (cy 0, 56, .inl (upd (upd (upd (upd (upd (upd (fun _ => 0) 0 300) 1 100) 2 20) 3 10) 4 5) 5 (-5)))), (q_16, .inl (cy 0, 336, .inl (fun _ => 0))), (q_24, .inl (cy 0, 112, .inl (fun _ => 0))), (q_31, .inl (cy 0, 2, .inl (fun _ => 0))), (q_39, .inl (cy 0, 60, .inl (fun _ => 0))), (q_47, .inl (cy 0, 12, .inl (fun _ => 0))), (q_55, .inl (cy 0, 12, .inl (fun _ => 0))), (q_62, .inl (cy 0, 4, .inl (fun _ => 0)))] : va_W)) C 1 rfl (vp_in_nI (n := 5) (by decide) (by decide)) rfl dX4_init_114 rfl ?_
  refine k_aload_n (q := 116) C 0 dX4_init_115 rfl rfl ?_
  refine k_get (q := 119) (ci := 4) (v := .ref q_7) C 0 1 in4_X4_init rfl (List.mem_of_getElem? (i := 5) rfl) rfl rfl (by decide) rfl dX4_init_116 rfl ?_
  refine k_bipush (q := 121) (v := 6) C dX4_init_119 (by decide +kernel) rfl ?_
  refine k_iconst (q := 122) (v := 1) C dX4_init_121 (by decide) rfl ?_
  refine k_iast (q := 123) (w2 := ([(h0, .inr (4, [.int 0, .ref q_7, .ref q_16, .int 0, .ref q_24, .ref q_31, .ref q_39, .int 0, .int 0, .int 0, .int 0, .int 0, .ref q_47, .ref q_55, .ref q_62])), (q_7, .inl (cy 0, 56, .inl (upd (upd (upd (upd (upd (upd (upd (fun _ => 0) 0 300) 1 100) 2 20) 3 10) 4 5) 5 (-5)) 6 1))), (q_16, .inl (cy 0, 336, .inl (fun _ => 0))), (q_24, .inl (cy 0, 112, .inl (fun _ => 0))), (q_31, .inl (cy 0, 2, .inl (fun _ => 0))), (q_39, .inl (cy 0, 60, .inl (fun _ => 0))), (q_47, .inl (cy 0, 12, .inl (fun _ => 0))), (q_55, .inl (cy 0, 12, .inl (fun _ => 0))), (q_62, .inl (cy 0, 4, .inl (fun _ => 0)))] : va_W)) C 1 rfl (vp_in_nI (n := 6) (by decide) (by decide)) rfl dX4_init_122 rfl ?_
  refine k_aload_n (q := 124) C 0 dX4_init_123 rfl rfl ?_
  refine k_get (q := 127) (ci := 4) (v := .ref q_7) C 0 1 in4_X4_init rfl (List.mem_of_getElem? (i := 5) rfl) rfl rfl (by decide) rfl dX4_init_124 rfl ?_
  refine k_bipush (q := 129) (v := 7) C dX4_init_127 (by decide +kernel) rfl ?_
  refine k_iconst (q := 130) (v := 1) C dX4_init_129 (by decide) rfl ?_
  refine k_iast (q := 131) (w2 := ([(h0, .inr (4, [.int 0, .ref q_7, .ref q_16, .int 0, .ref q_24, .ref q_31, .ref q_39, .int 0, .int 0, .int 0, .int 0, .int 0, .ref q_47, .ref q_55, .ref q_62])), (q_7, .inl (cy 0, 56, .inl (upd (upd (upd (upd (upd (upd (upd (upd (fun _ => 0) 0 300) 1 100) 2 20) 3 10) 4 5) 5 (-5)) 6 1) 7 1))), (q_16, .inl (cy 0, 336, .inl (fun _ => 0))), (q_24, .inl (cy 0, 112, .inl (fun _ => 0))), (q_31, .inl (cy 0, 2, .inl (fun _ => 0))), (q_39, .inl (cy 0, 60, .inl (fun _ => 0))), (q_47, .inl (cy 0, 12, .inl (fun _ => 0))), (q_55, .inl (cy 0, 12, .inl (fun _ => 0))), (q_62, .inl (cy 0, 4, .inl (fun _ => 0)))] : va_W)) C 1 rfl (vp_in_nI (n := 7) (by decide) (by decide)) rfl dX4_init_130 rfl ?_
  exact k_finN E (q_7, q_16, q_24, q_31, q_39, q_47, q_55, q_62) (by decide) (by decide) dX4_init_131 rfl
