abbrev rm_J6_bitCount_0f7a4 : Room := { frames := 0, cells := 0, slots := 0, locals := 0 }
set_option maxHeartbeats 4000000 in
set_option maxRecDepth 100000 in
theorem c_J6_bitCount_0f7a4 {cy : Nat → ClassId} (x : Int32)   : kI yJ6_bitCount_0f7a4 wsJ6_bitCount_0f7a4 rm_J6_bitCount_0f7a4 cy [.int x] ([] : va_W) (sBits x) ([] : va_W) := by
  refine kI_of (cc := cJ6_bitCount_0f7a4) (maxL := 1) (rt := .int) (by decide) rfl (rfl) (Nat.le_of_ble_eq_true rfl) ?_
  intro X hR C E
  have C : kC X 1 RJ6 cJ6_bitCount_0f7a4 wsJ6_bitCount_0f7a4 cy := C
  refine k_fr (fr2 := [(0, .int x)]) ⟨[0], rfl⟩ ?_
  refine k_iload_n (q := 1) C 0 dJ6_bitCount_0f7a4_0 rfl rfl ?_
  refine k_iload_n (q := 2) C 0 dJ6_bitCount_0f7a4_1 rfl rfl ?_
  refine k_iconst (q := 3) (v := 1) C dJ6_bitCount_0f7a4_2 (by decide) rfl ?_
  refine k_iushr (q := 4) C dJ6_bitCount_0f7a4_3 rfl ?_
  refine k_ldcw (q := 7) (v := 1431655765) C (List.mem_of_getElem? (i := 1) rfl) dJ6_bitCount_0f7a4_4 rfl ?_
  refine k_iand (q := 8) C dJ6_bitCount_0f7a4_7 rfl ?_
  refine k_isub (q := 9) C dJ6_bitCount_0f7a4_8 rfl ?_
  refine k_st (st2 := (.int (sB1 x) :: _)) (congrArg (fun z => Value.int z :: _) (show x - (((x.toUInt32 >>> ((1 : Int32).toUInt32 &&& Int32.toUInt32 31)).toInt32) &&& 1431655765) = sB1 x from rfl)) ?_
  refine k_istore_n (q := 10) (fr2 := [(0, .int (sB1 x))]) C dJ6_bitCount_0f7a4_9 (by decide) rfl rfl ?_
  refine k_iload_n (q := 11) C 0 dJ6_bitCount_0f7a4_10 rfl rfl ?_
  refine k_ldcw (q := 14) (v := 858993459) C (List.mem_of_getElem? (i := 2) rfl) dJ6_bitCount_0f7a4_11 rfl ?_
  refine k_iand (q := 15) C dJ6_bitCount_0f7a4_14 rfl ?_
  refine k_iload_n (q := 16) C 0 dJ6_bitCount_0f7a4_15 rfl rfl ?_
  refine k_iconst (q := 17) (v := 2) C dJ6_bitCount_0f7a4_16 (by decide) rfl ?_
  refine k_iushr (q := 18) C dJ6_bitCount_0f7a4_17 rfl ?_
  refine k_ldcw (q := 21) (v := 858993459) C (List.mem_of_getElem? (i := 2) rfl) dJ6_bitCount_0f7a4_18 rfl ?_
  refine k_iand (q := 22) C dJ6_bitCount_0f7a4_21 rfl ?_
  refine k_iadd (q := 23) C dJ6_bitCount_0f7a4_22 rfl ?_
  refine k_st (st2 := (.int (sB2 (sB1 x)) :: _)) (congrArg (fun z => Value.int z :: _) (show ((sB1 x) &&& 858993459) + ((((sB1 x).toUInt32 >>> ((2 : Int32).toUInt32 &&& Int32.toUInt32 31)).toInt32) &&& 858993459) = sB2 (sB1 x) from rfl)) ?_
  refine k_istore_n (q := 24) (fr2 := [(0, .int (sB2 (sB1 x)))]) C dJ6_bitCount_0f7a4_23 (by decide) rfl rfl ?_
  refine k_iload_n (q := 25) C 0 dJ6_bitCount_0f7a4_24 rfl rfl ?_
  refine k_iload_n (q := 26) C 0 dJ6_bitCount_0f7a4_25 rfl rfl ?_
  refine k_iconst (q := 27) (v := 4) C dJ6_bitCount_0f7a4_26 (by decide) rfl ?_
  refine k_iushr (q := 28) C dJ6_bitCount_0f7a4_27 rfl ?_
  refine k_iadd (q := 29) C dJ6_bitCount_0f7a4_28 rfl ?_
  refine k_ldcw (q := 32) (v := 252645135) C (List.mem_of_getElem? (i := 3) rfl) dJ6_bitCount_0f7a4_29 rfl ?_
  refine k_iand (q := 33) C dJ6_bitCount_0f7a4_32 rfl ?_
  refine k_st (st2 := (.int (sB3 (sB2 (sB1 x))) :: _)) (congrArg (fun z => Value.int z :: _) (show ((sB2 (sB1 x)) + (((sB2 (sB1 x)).toUInt32 >>> ((4 : Int32).toUInt32 &&& Int32.toUInt32 31)).toInt32)) &&& 252645135 = sB3 (sB2 (sB1 x)) from rfl)) ?_
  refine k_istore_n (q := 34) (fr2 := [(0, .int (sB3 (sB2 (sB1 x))))]) C dJ6_bitCount_0f7a4_33 (by decide) rfl rfl ?_
  refine k_iload_n (q := 35) C 0 dJ6_bitCount_0f7a4_34 rfl rfl ?_
  refine k_iload_n (q := 36) C 0 dJ6_bitCount_0f7a4_35 rfl rfl ?_
  refine k_bipush (q := 38) (v := 8) C dJ6_bitCount_0f7a4_36 (by decide +kernel) rfl ?_
  refine k_iushr (q := 39) C dJ6_bitCount_0f7a4_38 rfl ?_
  refine k_iadd (q := 40) C dJ6_bitCount_0f7a4_39 rfl ?_
  refine k_st (st2 := (.int (sB4 (sB3 (sB2 (sB1 x)))) :: _)) (congrArg (fun z => Value.int z :: _) (show (sB3 (sB2 (sB1 x))) + (((sB3 (sB2 (sB1 x))).toUInt32 >>> ((8 : Int32).toUInt32 &&& Int32.toUInt32 31)).toInt32) = sB4 (sB3 (sB2 (sB1 x))) from rfl)) ?_
  refine k_istore_n (q := 41) (fr2 := [(0, .int (sB4 (sB3 (sB2 (sB1 x)))))]) C dJ6_bitCount_0f7a4_40 (by decide) rfl rfl ?_
  refine k_iload_n (q := 42) C 0 dJ6_bitCount_0f7a4_41 rfl rfl ?_
  refine k_iload_n (q := 43) C 0 dJ6_bitCount_0f7a4_42 rfl rfl ?_
  refine k_bipush (q := 45) (v := 16) C dJ6_bitCount_0f7a4_43 (by decide +kernel) rfl ?_
  refine k_iushr (q := 46) C dJ6_bitCount_0f7a4_45 rfl ?_
  refine k_iadd (q := 47) C dJ6_bitCount_0f7a4_46 rfl ?_
  refine k_st (st2 := (.int (sB5 (sB4 (sB3 (sB2 (sB1 x))))) :: _)) (congrArg (fun z => Value.int z :: _) (show (sB4 (sB3 (sB2 (sB1 x)))) + (((sB4 (sB3 (sB2 (sB1 x)))).toUInt32 >>> ((16 : Int32).toUInt32 &&& Int32.toUInt32 31)).toInt32) = sB5 (sB4 (sB3 (sB2 (sB1 x)))) from rfl)) ?_
  refine k_istore_n (q := 48) (fr2 := [(0, .int (sB5 (sB4 (sB3 (sB2 (sB1 x))))))]) C dJ6_bitCount_0f7a4_47 (by decide) rfl rfl ?_
  refine k_iload_n (q := 49) C 0 dJ6_bitCount_0f7a4_48 rfl rfl ?_
  refine k_bipush (q := 51) (v := 63) C dJ6_bitCount_0f7a4_49 (by decide +kernel) rfl ?_
  refine k_iand (q := 52) C dJ6_bitCount_0f7a4_51 rfl ?_
  exact k_fin E dJ6_bitCount_0f7a4_52 (rfl) (rfl)
abbrev rm_X0_becomeLike : Room := { frames := 1, cells := 0, slots := 0, locals := 32 }
theorem in0_X0_becomeLike : ∀ w ∈ wsX00, w ∈ wsX0_becomeLike := fun _ h => (List.mem_cons_of_mem _ (List.mem_append_right _ h))
set_option maxHeartbeats 4000000 in
set_option maxRecDepth 100000 in
theorem c_X0_becomeLike (cy : Nat → ClassId) (a : Nat → Nat) (b : Nat → Nat) (kn : Nat) (lo : Int32) (lf : Int32) (nm : Nat → Int32) (kn2 : Nat) (lo2 : Int32) (lf2 : Int32) (nm2 : Nat → Int32)   : kV yX0_becomeLike wsX0_becomeLike rm_X0_becomeLike cy [.ref (b 5), .ref (a 5)] (wLog a cy kn lo lf nm ++ wLog b cy kn2 lo2 lf2 nm2) (wLog a cy kn lo lf nm ++ wLog b cy kn lo lf (va_cpy nm nm2 0 0 32)) := by
  refine kV_of (cc := cX0_becomeLike) (maxL := 2) (by decide) rfl (Nat.le_of_ble_eq_true rfl) ?_
  intro X hR C E
  have C : kC X 2 RX0 cX0_becomeLike wsX0_becomeLike cy := C
  refine k_fr (fr2 := [(0, .ref (b 5)), (1, .ref (a 5))]) ⟨[0, 1], rfl⟩ ?_
  refine k_aload_n (q := 1) C 1 dX0_becomeLike_0 rfl rfl ?_
  refine k_get (q := 4) (ci := 0) (v := .ref (a 6)) C 0 0 in0_X0_becomeLike rfl (List.mem_of_getElem? (i := 1) rfl) rfl rfl (by decide) rfl dX0_becomeLike_1 rfl ?_
  refine k_iconst (q := 5) (v := 0) C dX0_becomeLike_4 (by decide) rfl ?_
  refine k_aload_n (q := 6) C 0 dX0_becomeLike_5 rfl rfl ?_
  refine k_get (q := 9) (ci := 0) (v := .ref (b 6)) C 2 0 in0_X0_becomeLike rfl (List.mem_of_getElem? (i := 1) rfl) rfl rfl (by decide) rfl dX0_becomeLike_6 rfl ?_
  refine k_iconst (q := 10) (v := 0) C dX0_becomeLike_9 (by decide) rfl ?_
  refine k_bipush (q := 12) (v := 32) C dX0_becomeLike_10 (by decide +kernel) rfl ?_
  refine k_copy (q := 15) (w2 := (wLog a cy kn lo lf nm ++ wLog b cy kn2 lo2 lf2 (va_cpy nm nm2 0 0 32))) C 1 3 (List.mem_of_getElem? (i := 2) rfl) (List.mem_of_getElem? (i := 3) rfl) (List.mem_of_getElem? (i := 4) rfl) (List.mem_of_getElem? (i := 5) rfl) rfl rfl (by decide) (by decide) (by decide) (by decide +kernel) (by decide +kernel) (k_roomC hR (by decide)) rfl rfl dX0_becomeLike_12 rfl ?_
  refine k_aload_n (q := 16) C 0 dX0_becomeLike_15 rfl rfl ?_
  refine k_aload_n (q := 17) C 1 dX0_becomeLike_16 rfl rfl ?_
  refine k_get (q := 20) (ci := 0) (v := .int (nI kn)) C 0 1 in0_X0_becomeLike rfl (List.mem_of_getElem? (i := 6) rfl) rfl rfl (by decide) rfl dX0_becomeLike_17 rfl ?_
  refine k_put (q := 23) (ci := 0) (v := .int (nI kn)) (w2 := (wLog a cy kn lo lf nm ++ wLog b cy kn lo2 lf2 (va_cpy nm nm2 0 0 32))) C 2 1 in0_X0_becomeLike rfl (List.mem_of_getElem? (i := 6) rfl) rfl tyX0 tyX0_ok nmX0 rfl (rfl) (rfl) rfl (by decide) (Nat.le_of_ble_eq_true rfl) (rfl) dX0_becomeLike_20 rfl ?_
  refine k_aload_n (q := 24) C 0 dX0_becomeLike_23 rfl rfl ?_
  refine k_aload_n (q := 25) C 1 dX0_becomeLike_24 rfl rfl ?_
  refine k_get (q := 28) (ci := 0) (v := .int lo) C 0 2 in0_X0_becomeLike rfl (List.mem_of_getElem? (i := 7) rfl) rfl rfl (by decide) rfl dX0_becomeLike_25 rfl ?_
  refine k_put (q := 31) (ci := 0) (v := .int lo) (w2 := (wLog a cy kn lo lf nm ++ wLog b cy kn lo lf2 (va_cpy nm nm2 0 0 32))) C 2 2 in0_X0_becomeLike rfl (List.mem_of_getElem? (i := 7) rfl) rfl tyX0 tyX0_ok nmX0 rfl (rfl) (rfl) rfl (by decide) (Nat.le_of_ble_eq_true rfl) (rfl) dX0_becomeLike_28 rfl ?_
  refine k_aload_n (q := 32) C 0 dX0_becomeLike_31 rfl rfl ?_
  refine k_aload_n (q := 33) C 1 dX0_becomeLike_32 rfl rfl ?_
  refine k_get (q := 36) (ci := 0) (v := .int lf) C 0 3 in0_X0_becomeLike rfl (List.mem_of_getElem? (i := 8) rfl) rfl rfl (by decide) rfl dX0_becomeLike_33 rfl ?_
  refine k_put (q := 39) (ci := 0) (v := .int lf) (w2 := (wLog a cy kn lo lf nm ++ wLog b cy kn lo lf (va_cpy nm nm2 0 0 32))) C 2 3 in0_X0_becomeLike rfl (List.mem_of_getElem? (i := 8) rfl) rfl tyX0 tyX0_ok nmX0 rfl (rfl) (rfl) rfl (by decide) (Nat.le_of_ble_eq_true rfl) (rfl) dX0_becomeLike_36 rfl ?_
  exact k_finV E dX0_becomeLike_39 (rfl)
abbrev rm_X0_write : Room := { frames := 1, cells := 0, slots := 0, locals := 32 }
theorem in0_X0_write : ∀ w ∈ wsX00, w ∈ wsX0_write := fun _ h => (List.mem_cons_of_mem _ (List.mem_append_right _ h))
set_option maxHeartbeats 4000000 in
set_option maxRecDepth 100000 in
theorem c_X0_write (cy : Nat → ClassId) (a : Nat → Nat) (kn : Nat) (lo : Int32) (lf : Int32) (nm : Nat → Int32) (p0 : Int32) (p1 : Int32) (p2 : Int32) (p3 : Bool)  (hk : kn ≤ 8) : kI yX0_write wsX0_write rm_X0_write cy [.ref (a 5), .int p0, .int p1, .int p2, .int (bI (p3 = true))] (wLog a cy kn lo lf nm) (nI (min (kn + 1) 8)) (wLog a cy (min (kn + 1) 8) (lo + 1) (lf + bI (p3 = true)) (sWr nm p0 p1 p2 p3)) := by
  refine kI_of (cc := cX0_write) (maxL := 5) (rt := .int) (by decide) rfl (rfl) (Nat.le_of_ble_eq_true rfl) ?_
  intro X hR C E
  have C : kC X 5 RX0 cX0_write wsX0_write cy := C
  refine k_fr (fr2 := [(0, .ref (a 5)), (1, .int p0), (2, .int p1), (3, .int p2), (4, .int (bI (p3 = true)))]) ⟨[0, 1, 2, 3, 4], rfl⟩ ?_
  refine k_aload_n (q := 1) C 0 dX0_write_0 rfl rfl ?_
  refine k_get (q := 4) (ci := 0) (v := .ref (a 6)) C 0 0 in0_X0_write rfl (List.mem_of_getElem? (i := 1) rfl) rfl rfl (by decide) rfl dX0_write_1 rfl ?_
  refine k_iconst (q := 5) (v := 0) C dX0_write_4 (by decide) rfl ?_
  refine k_aload_n (q := 6) C 0 dX0_write_5 rfl rfl ?_
  refine k_get (q := 9) (ci := 0) (v := .ref (a 6)) C 0 0 in0_X0_write rfl (List.mem_of_getElem? (i := 1) rfl) rfl rfl (by decide) rfl dX0_write_6 rfl ?_
  refine k_iconst (q := 10) (v := 4) C dX0_write_9 (by decide) rfl ?_
  refine k_bipush (q := 12) (v := 28) C dX0_write_10 (by decide +kernel) rfl ?_
  refine k_copy (q := 15) (w2 := (wLog a cy kn lo lf (va_cpy nm nm 0 4 28))) C 1 1 (List.mem_of_getElem? (i := 2) rfl) (List.mem_of_getElem? (i := 3) rfl) (List.mem_of_getElem? (i := 4) rfl) (List.mem_of_getElem? (i := 5) rfl) rfl rfl (by decide) (by decide) (by decide) (by decide +kernel) (by decide +kernel) (k_roomC hR (by decide)) rfl rfl dX0_write_12 rfl ?_
  refine k_aload_n (q := 16) C 0 dX0_write_15 rfl rfl ?_
  refine k_get (q := 19) (ci := 0) (v := .ref (a 6)) C 0 0 in0_X0_write rfl (List.mem_of_getElem? (i := 1) rfl) rfl rfl (by decide) rfl dX0_write_16 rfl ?_
  refine k_iconst (q := 20) (v := 0) C dX0_write_19 (by decide) rfl ?_
  refine k_iload_n (q := 21) C 1 dX0_write_20 rfl rfl ?_
  refine k_iast (q := 22) (w2 := (wLog a cy kn lo lf (upd (va_cpy nm nm 0 4 28) 0 p0))) C 1 rfl (vp_in_nI (n := 0) (by decide) (by decide)) rfl dX0_write_21 rfl ?_
  refine k_aload_n (q := 23) C 0 dX0_write_22 rfl rfl ?_
  refine k_get (q := 26) (ci := 0) (v := .ref (a 6)) C 0 0 in0_X0_write rfl (List.mem_of_getElem? (i := 1) rfl) rfl rfl (by decide) rfl dX0_write_23 rfl ?_
  refine k_iconst (q := 27) (v := 1) C dX0_write_26 (by decide) rfl ?_
  refine k_iload_n (q := 28) C 2 dX0_write_27 rfl rfl ?_
  refine k_iast (q := 29) (w2 := (wLog a cy kn lo lf (upd (upd (va_cpy nm nm 0 4 28) 0 p0) 1 p1))) C 1 rfl (vp_in_nI (n := 1) (by decide) (by decide)) rfl dX0_write_28 rfl ?_
  refine k_aload_n (q := 30) C 0 dX0_write_29 rfl rfl ?_
  refine k_get (q := 33) (ci := 0) (v := .ref (a 6)) C 0 0 in0_X0_write rfl (List.mem_of_getElem? (i := 1) rfl) rfl rfl (by decide) rfl dX0_write_30 rfl ?_
  refine k_iconst (q := 34) (v := 2) C dX0_write_33 (by decide) rfl ?_
  refine k_iload_n (q := 35) C 3 dX0_write_34 rfl rfl ?_
  refine k_iast (q := 36) (w2 := (wLog a cy kn lo lf (upd (upd (upd (va_cpy nm nm 0 4 28) 0 p0) 1 p1) 2 p2))) C 1 rfl (vp_in_nI (n := 2) (by decide) (by decide)) rfl dX0_write_35 rfl ?_
  refine k_aload_n (q := 37) C 0 dX0_write_36 rfl rfl ?_
  refine k_get (q := 40) (ci := 0) (v := .ref (a 6)) C 0 0 in0_X0_write rfl (List.mem_of_getElem? (i := 1) rfl) rfl rfl (by decide) rfl dX0_write_37 rfl ?_
  refine k_iconst (q := 41) (v := 3) C dX0_write_40 (by decide) rfl ?_
  refine k_iload (q := 43) C 4 dX0_write_41 rfl rfl ?_
  refine k_ifB_eq (tgt := 50) (q := 46) C dX0_write_43 (by decide) rfl ?_ ?_
  · intro c_43
    refine k_iconst (q := 51) (v := 0) C dX0_write_50 (by decide) rfl ?_
    refine k_st (st2 := (.int (bI (p3 = true)) :: _)) (congrArg (fun z => Value.int z :: _) (show 0 = bI (p3 = true) from by first | exact bI_t c_43 | exact bI_f c_43)) ?_
    refine k_iast (q := 52) (w2 := (wLog a cy kn lo lf (upd (upd (upd (upd (va_cpy nm nm 0 4 28) 0 p0) 1 p1) 2 p2) 3 (bI (p3 = true))))) C 1 rfl (vp_in_nI (n := 3) (by decide) (by decide)) rfl dX0_write_51 rfl ?_
    refine k_aload_n (q := 53) C 0 dX0_write_52 rfl rfl ?_
    refine k_aload_n (q := 54) C 0 dX0_write_53 rfl rfl ?_
    refine k_get (q := 57) (ci := 0) (v := .int (nI kn)) C 0 1 in0_X0_write rfl (List.mem_of_getElem? (i := 6) rfl) rfl rfl (by decide) rfl dX0_write_54 rfl ?_
    refine k_iconst (q := 58) (v := 1) C dX0_write_57 (by decide) rfl ?_
    refine k_iadd (q := 59) C dX0_write_58 rfl ?_
    refine k_st (st2 := (.int (nI (kn + 1)) :: _)) (congrArg (fun z => Value.int z :: _) (show (nI kn) + 1 = nI (kn + 1) from nI_add kn 1)) ?_
    refine k_bipush (q := 61) (v := 8) C dX0_write_59 (by decide +kernel) rfl ?_
    refine k_mmin (q := 64) C (List.mem_of_getElem? (i := 7) rfl) (List.mem_of_getElem? (i := 8) rfl) (List.mem_of_getElem? (i := 9) rfl) (List.mem_of_getElem? (i := 10) rfl) (k_roomM hR (by decide)) (Nat.le_of_ble_eq_true rfl) dX0_write_61 rfl ?_
    refine k_st (st2 := (.int (nI (min (kn + 1) 8)) :: _)) (congrArg (fun z => Value.int z :: _) (show mMin (nI (kn + 1)) 8 = nI (min (kn + 1) 8) from nI_min (a := kn + 1) (b := 8) (by omega) (by decide))) ?_
    refine k_put (q := 67) (ci := 0) (v := .int (nI (min (kn + 1) 8))) (w2 := (wLog a cy (min (kn + 1) 8) lo lf (upd (upd (upd (upd (va_cpy nm nm 0 4 28) 0 p0) 1 p1) 2 p2) 3 (bI (p3 = true))))) C 0 1 in0_X0_write rfl (List.mem_of_getElem? (i := 6) rfl) rfl tyX0 tyX0_ok nmX0 rfl (rfl) (rfl) rfl (by decide) (Nat.le_of_ble_eq_true rfl) (rfl) dX0_write_64 rfl ?_
    refine k_aload_n (q := 68) C 0 dX0_write_67 rfl rfl ?_
    refine k_dup (q := 69) C dX0_write_68 rfl rfl ?_
    refine k_get (q := 72) (ci := 0) (v := .int lo) C 0 2 in0_X0_write rfl (List.mem_of_getElem? (i := 11) rfl) rfl rfl (by decide) rfl dX0_write_69 rfl ?_
    refine k_iconst (q := 73) (v := 1) C dX0_write_72 (by decide) rfl ?_
    refine k_iadd (q := 74) C dX0_write_73 rfl ?_
    refine k_put (q := 77) (ci := 0) (v := .int (lo + 1)) (w2 := (wLog a cy (min (kn + 1) 8) (lo + 1) lf (upd (upd (upd (upd (va_cpy nm nm 0 4 28) 0 p0) 1 p1) 2 p2) 3 (bI (p3 = true))))) C 0 2 in0_X0_write rfl (List.mem_of_getElem? (i := 11) rfl) rfl tyX0 tyX0_ok nmX0 rfl (rfl) (rfl) rfl (by decide) (Nat.le_of_ble_eq_true rfl) (rfl) dX0_write_74 rfl ?_
    refine k_iload (q := 79) C 4 dX0_write_77 rfl rfl ?_
    refine k_ifB_eq (tgt := 92) (q := 82) C dX0_write_79 (by decide) rfl ?_ ?_
    · intro c_79
      refine k_aload_n (q := 93) C 0 dX0_write_92 rfl rfl ?_
      refine k_get (q := 96) (ci := 0) (v := .int (nI (min (kn + 1) 8))) C 0 1 in0_X0_write rfl (List.mem_of_getElem? (i := 6) rfl) rfl rfl (by decide) rfl dX0_write_93 rfl ?_
      exact k_fin E dX0_write_96 (rfl) (by first | rfl | (rw [show lf + bI (p3 = true) = lf by rw [← bI_f c_79, Int32.add_zero]]; rfl))
    · exact fun c_79 => absurd c_79 c_43
  · intro c_43
    refine k_iconst (q := 47) (v := 1) C dX0_write_46 (by decide) rfl ?_
    refine k_goto (q := 51) C dX0_write_47 (by decide) ?_
    refine k_st (st2 := (.int (bI (p3 = true)) :: _)) (congrArg (fun z => Value.int z :: _) (show 1 = bI (p3 = true) from by first | exact bI_t c_43 | exact bI_f c_43)) ?_
    refine k_iast (q := 52) (w2 := (wLog a cy kn lo lf (upd (upd (upd (upd (va_cpy nm nm 0 4 28) 0 p0) 1 p1) 2 p2) 3 (bI (p3 = true))))) C 1 rfl (vp_in_nI (n := 3) (by decide) (by decide)) rfl dX0_write_51 rfl ?_
    refine k_aload_n (q := 53) C 0 dX0_write_52 rfl rfl ?_
    refine k_aload_n (q := 54) C 0 dX0_write_53 rfl rfl ?_
    refine k_get (q := 57) (ci := 0) (v := .int (nI kn)) C 0 1 in0_X0_write rfl (List.mem_of_getElem? (i := 6) rfl) rfl rfl (by decide) rfl dX0_write_54 rfl ?_
    refine k_iconst (q := 58) (v := 1) C dX0_write_57 (by decide) rfl ?_
    refine k_iadd (q := 59) C dX0_write_58 rfl ?_
    refine k_st (st2 := (.int (nI (kn + 1)) :: _)) (congrArg (fun z => Value.int z :: _) (show (nI kn) + 1 = nI (kn + 1) from nI_add kn 1)) ?_
    refine k_bipush (q := 61) (v := 8) C dX0_write_59 (by decide +kernel) rfl ?_
    refine k_mmin (q := 64) C (List.mem_of_getElem? (i := 7) rfl) (List.mem_of_getElem? (i := 8) rfl) (List.mem_of_getElem? (i := 9) rfl) (List.mem_of_getElem? (i := 10) rfl) (k_roomM hR (by decide)) (Nat.le_of_ble_eq_true rfl) dX0_write_61 rfl ?_
    refine k_st (st2 := (.int (nI (min (kn + 1) 8)) :: _)) (congrArg (fun z => Value.int z :: _) (show mMin (nI (kn + 1)) 8 = nI (min (kn + 1) 8) from nI_min (a := kn + 1) (b := 8) (by omega) (by decide))) ?_
    refine k_put (q := 67) (ci := 0) (v := .int (nI (min (kn + 1) 8))) (w2 := (wLog a cy (min (kn + 1) 8) lo lf (upd (upd (upd (upd (va_cpy nm nm 0 4 28) 0 p0) 1 p1) 2 p2) 3 (bI (p3 = true))))) C 0 1 in0_X0_write rfl (List.mem_of_getElem? (i := 6) rfl) rfl tyX0 tyX0_ok nmX0 rfl (rfl) (rfl) rfl (by decide) (Nat.le_of_ble_eq_true rfl) (rfl) dX0_write_64 rfl ?_
    refine k_aload_n (q := 68) C 0 dX0_write_67 rfl rfl ?_
    refine k_dup (q := 69) C dX0_write_68 rfl rfl ?_
    refine k_get (q := 72) (ci := 0) (v := .int lo) C 0 2 in0_X0_write rfl (List.mem_of_getElem? (i := 11) rfl) rfl rfl (by decide) rfl dX0_write_69 rfl ?_
    refine k_iconst (q := 73) (v := 1) C dX0_write_72 (by decide) rfl ?_
    refine k_iadd (q := 74) C dX0_write_73 rfl ?_
    refine k_put (q := 77) (ci := 0) (v := .int (lo + 1)) (w2 := (wLog a cy (min (kn + 1) 8) (lo + 1) lf (upd (upd (upd (upd (va_cpy nm nm 0 4 28) 0 p0) 1 p1) 2 p2) 3 (bI (p3 = true))))) C 0 2 in0_X0_write rfl (List.mem_of_getElem? (i := 11) rfl) rfl tyX0 tyX0_ok nmX0 rfl (rfl) (rfl) rfl (by decide) (Nat.le_of_ble_eq_true rfl) (rfl) dX0_write_74 rfl ?_
    refine k_iload (q := 79) C 4 dX0_write_77 rfl rfl ?_
    refine k_ifB_eq (tgt := 92) (q := 82) C dX0_write_79 (by decide) rfl ?_ ?_
    · exact fun c_79 => absurd c_43 c_79
    · intro c_79
      refine k_aload_n (q := 83) C 0 dX0_write_82 rfl rfl ?_
      refine k_dup (q := 84) C dX0_write_83 rfl rfl ?_
      refine k_get (q := 87) (ci := 0) (v := .int lf) C 0 3 in0_X0_write rfl (List.mem_of_getElem? (i := 12) rfl) rfl rfl (by decide) rfl dX0_write_84 rfl ?_
      refine k_iconst (q := 88) (v := 1) C dX0_write_87 (by decide) rfl ?_
      refine k_iadd (q := 89) C dX0_write_88 rfl ?_
      refine k_st (st2 := (.int (lf + bI (p3 = true)) :: _)) (congrArg (fun z => Value.int z :: _) (show lf + 1 = lf + bI (p3 = true) from by rw [← bI_t c_79])) ?_
      refine k_put (q := 92) (ci := 0) (v := .int (lf + bI (p3 = true))) (w2 := (wLog a cy (min (kn + 1) 8) (lo + 1) (lf + bI (p3 = true)) (upd (upd (upd (upd (va_cpy nm nm 0 4 28) 0 p0) 1 p1) 2 p2) 3 (bI (p3 = true))))) C 0 3 in0_X0_write rfl (List.mem_of_getElem? (i := 12) rfl) rfl tyX0 tyX0_ok nmX0 rfl (rfl) (rfl) rfl (by decide) (Nat.le_of_ble_eq_true rfl) (rfl) dX0_write_89 rfl ?_
      refine k_aload_n (q := 93) C 0 dX0_write_92 rfl rfl ?_
      refine k_get (q := 96) (ci := 0) (v := .int (nI (min (kn + 1) 8))) C 0 1 in0_X0_write rfl (List.mem_of_getElem? (i := 6) rfl) rfl rfl (by decide) rfl dX0_write_93 rfl ?_
      exact k_fin E dX0_write_96 (rfl) (by first | rfl | (rw [show lf + bI (p3 = true) = lf by rw [← bI_f c_79, Int32.add_zero]]; rfl))
abbrev rm_X0_nightNumber : Room := { frames := 0, cells := 0, slots := 0, locals := 0 }
theorem in0_X0_nightNumber : ∀ w ∈ wsX00, w ∈ wsX0_nightNumber := fun _ h => (List.mem_cons_of_mem _ (List.mem_append_right _ h))
set_option maxHeartbeats 4000000 in
set_option maxRecDepth 100000 in
theorem c_X0_nightNumber (cy : Nat → ClassId) (a : Nat → Nat) (kn : Nat) (lo : Int32) (lf : Int32) (nm : Nat → Int32) (j : Nat) (w : Nat)  (hk : kn ≤ 8) (hw : w ≤ 3) (hj : j < 2 ^ 31) : kI yX0_nightNumber wsX0_nightNumber rm_X0_nightNumber cy [.ref (a 5), .int (nI j), .int (nI w)] (wLog a cy kn lo lf nm) (sNight kn nm j w) (wLog a cy kn lo lf nm) := by
  refine kI_of (cc := cX0_nightNumber) (maxL := 3) (rt := .int) (by decide) rfl (rfl) (Nat.le_of_ble_eq_true rfl) ?_
  intro X hR C E
  have C : kC X 3 RX0 cX0_nightNumber wsX0_nightNumber cy := C
  refine k_fr (fr2 := [(0, .ref (a 5)), (1, .int (nI j)), (2, .int (nI w))]) ⟨[0, 1, 2], rfl⟩ ?_
  refine k_iload_n (q := 1) C 1 dX0_nightNumber_0 rfl rfl ?_
  refine k_aload_n (q := 2) C 0 dX0_nightNumber_1 rfl rfl ?_
  refine k_get (q := 5) (ci := 0) (v := .int (nI kn)) C 0 1 in0_X0_nightNumber rfl (List.mem_of_getElem? (i := 1) rfl) rfl rfl (by decide) rfl dX0_nightNumber_2 rfl ?_
  refine k_nicmp_ge (a := j) (b := kn)  (tgt := 21) (q := 8) C dX0_nightNumber_5 (by decide) rfl (by omega) (by omega) ?_ ?_
  · intro c_5
    refine k_ldc (q := 23) (v := -99999) C (List.mem_of_getElem? (i := 3) rfl) dX0_nightNumber_21 rfl ?_
    exact k_fin E dX0_nightNumber_23 (by first | (rw [sNight, if_pos (by omega)]; congr 1; omega) | (rw [sNight, if_neg (by omega)])) (rfl)
  · intro c_5
    refine k_aload_n (q := 9) C 0 dX0_nightNumber_8 rfl rfl ?_
    refine k_get (q := 12) (ci := 0) (v := .ref (a 6)) C 0 0 in0_X0_nightNumber rfl (List.mem_of_getElem? (i := 2) rfl) rfl rfl (by decide) rfl dX0_nightNumber_9 rfl ?_
    refine k_iload_n (q := 13) C 1 dX0_nightNumber_12 rfl rfl ?_
    refine k_iconst (q := 14) (v := 4) C dX0_nightNumber_13 (by decide) rfl ?_
    have hj8 : j < 8 := by omega
    refine k_imul (q := 15) C dX0_nightNumber_14 rfl ?_
    refine k_st (st2 := (.int (nI (j * 4)) :: _)) (congrArg (fun z => Value.int z :: _) (show (nI j) * 4 = nI (j * 4) from pk_mul j 4)) ?_
    refine k_iload_n (q := 16) C 2 dX0_nightNumber_15 rfl rfl ?_
    refine k_iadd (q := 17) C dX0_nightNumber_16 rfl ?_
    refine k_st (st2 := (.int (nI (j * 4 + w)) :: _)) (congrArg (fun z => Value.int z :: _) (show (nI (j * 4)) + (nI w) = nI (j * 4 + w) from nI_add (j * 4) w)) ?_
    refine k_iald (q := 18) C 1 rfl (vp_in_nI (n := j * 4 + w) (by omega) (by decide)) dX0_nightNumber_17 rfl ?_
    refine k_st (st2 := (.int (nm (j * 4 + w)) :: _)) (congrArg (fun z => Value.int z :: _) (show nm (nI (j * 4 + w)).toNatClampNeg = nm (j * 4 + w) from congrArg nm (nI_clamp (n := j * 4 + w) (by omega)))) ?_
    refine k_goto (q := 23) C dX0_nightNumber_18 (by decide) ?_
    exact k_fin E dX0_nightNumber_23 (by first | (rw [sNight, if_pos (by omega)]; congr 1; omega) | (rw [sNight, if_neg (by omega)])) (rfl)
abbrev rm_X2_hasLayer : Room := { frames := 0, cells := 0, slots := 0, locals := 0 }
theorem in2_X2_hasLayer : ∀ w ∈ wsX20, w ∈ wsX2_hasLayer := fun _ h => (List.mem_cons_of_mem _ (List.mem_append_right _ h))
set_option maxHeartbeats 4000000 in
set_option maxRecDepth 100000 in
theorem c_X2_hasLayer (cy : Nat → ClassId) (a : Nat → Nat) (n : Nat) (lit : Int32) (h : Nat → Int32) (t : Nat → Int32) (s : Nat → Int32) (g : Nat → Int32) (kn : Nat) (lo : Int32) (lf : Int32) (nm : Nat → Int32) (x : Int32)   : kI yX2_hasLayer wsX2_hasLayer rm_X2_hasLayer cy [.ref (a 0), .int x] (wSky a cy n lit h t s g kn lo lf nm) (bI (0 ≤ x ∧ x < nI n)) (wSky a cy n lit h t s g kn lo lf nm) := by
  refine kI_of (cc := cX2_hasLayer) (maxL := 2) (rt := .boolean) (by decide) rfl (kb_nar _) (Nat.le_of_ble_eq_true rfl) ?_
  intro X hR C E
  have C : kC X 2 RX2 cX2_hasLayer wsX2_hasLayer cy := C
  refine k_fr (fr2 := [(0, .ref (a 0)), (1, .int x)]) ⟨[0, 1], rfl⟩ ?_
  refine k_iload_n (q := 1) C 1 dX2_hasLayer_0 rfl rfl ?_
  refine k_if_lt (tgt := 16) (q := 4) C dX2_hasLayer_1 (by decide) rfl ?_ ?_
  · intro c_1
    refine k_iconst (q := 17) (v := 0) C dX2_hasLayer_16 (by decide) rfl ?_
    exact k_fin E dX2_hasLayer_17 (by first | exact bI_t ⟨Int32.not_lt.mp c_1, Int32.not_le.mp c_9⟩ | exact bI_f (fun q => Int32.not_le.mpr c_1 q.1) | exact bI_f (fun q => Int32.not_le.mpr q.2 c_9)) (rfl)
  · intro c_1
    refine k_iload_n (q := 5) C 1 dX2_hasLayer_4 rfl rfl ?_
    refine k_aload_n (q := 6) C 0 dX2_hasLayer_5 rfl rfl ?_
    refine k_get (q := 9) (ci := 2) (v := .int (nI n)) C 0 0 in2_X2_hasLayer rfl (List.mem_of_getElem? (i := 1) rfl) rfl rfl (by decide) rfl dX2_hasLayer_6 rfl ?_
    refine k_icmp_ge (tgt := 16) (q := 12) C dX2_hasLayer_9 (by decide) rfl ?_ ?_
    · intro c_9
      refine k_iconst (q := 17) (v := 0) C dX2_hasLayer_16 (by decide) rfl ?_
      exact k_fin E dX2_hasLayer_17 (by first | exact bI_t ⟨Int32.not_lt.mp c_1, Int32.not_le.mp c_9⟩ | exact bI_f (fun q => Int32.not_le.mpr c_1 q.1) | exact bI_f (fun q => Int32.not_le.mpr q.2 c_9)) (rfl)
    · intro c_9
      refine k_iconst (q := 13) (v := 1) C dX2_hasLayer_12 (by decide) rfl ?_
      refine k_goto (q := 17) C dX2_hasLayer_13 (by decide) ?_
      exact k_fin E dX2_hasLayer_17 (by first | exact bI_t ⟨Int32.not_lt.mp c_1, Int32.not_le.mp c_9⟩ | exact bI_f (fun q => Int32.not_le.mpr c_1 q.1) | exact bI_f (fun q => Int32.not_le.mpr q.2 c_9)) (rfl)
abbrev rm_X2_takesLayer : Room := { frames := 0, cells := 0, slots := 0, locals := 0 }
theorem in2_X2_takesLayer : ∀ w ∈ wsX20, w ∈ wsX2_takesLayer := fun _ h => (List.mem_cons_of_mem _ (List.mem_append_right _ h))
set_option maxHeartbeats 4000000 in
set_option maxRecDepth 100000 in
theorem lp_X2_takesLayer_2 (cy : Nat → ClassId) (a : Nat → Nat) (n : Nat) (lit : Int32) (h : Nat → Int32) (t : Nat → Int32) (s : Nat → Int32) (g : Nat → Int32) (kn : Nat) (lo : Int32) (lf : Int32) (nm : Nat → Int32) (x : Int32)  (hn : n ≤ 6) (X : kX) (hR : xR X = rm_X2_takesLayer) (C : kC X 3 RX2 cX2_takesLayer wsX2_takesLayer cy) (E : kEnd X 3 cX2_takesLayer (bI (sAny h x n = false ∧ n < 6)) (wSky a cy n lit h t s g kn lo lf nm)) : ∀ (fu : Nat) (k : Nat), n - k < fu → (k ≤ n) → (sAny h x k = false) → kG X 3 0 0 (wSky a cy n lit h t s g kn lo lf nm) 2 [(0, .ref (a 0)), (1, .int x), (2, .int (nI k))] [] := by
  intro fu
  induction fu with
  | zero => intro k hfu; exact absurd hfu (Nat.not_lt_zero _)
  | succ fu ih =>
    intro k hfu hk ha
    refine k_iload_n (q := 3) C 2 dX2_takesLayer_2 rfl rfl ?_
    refine k_aload_n (q := 4) C 0 dX2_takesLayer_3 rfl rfl ?_
    refine k_get (q := 7) (ci := 2) (v := .int (nI n)) C 0 0 in2_X2_takesLayer rfl (List.mem_of_getElem? (i := 1) rfl) rfl rfl (by decide) rfl dX2_takesLayer_4 rfl ?_
    refine k_nicmp_ge (a := k) (b := n)  (tgt := 28) (q := 10) C dX2_takesLayer_7 (by decide) rfl (by omega) (by omega) ?_ ?_
    · intro c_7
      have hkn : k = n := by omega
      rw [hkn] at ha
      refine k_aload_n (q := 29) C 0 dX2_takesLayer_28 rfl rfl ?_
      refine k_get (q := 32) (ci := 2) (v := .int (nI n)) C 0 0 in2_X2_takesLayer rfl (List.mem_of_getElem? (i := 1) rfl) rfl rfl (by decide) rfl dX2_takesLayer_29 rfl ?_
      refine k_bipush (q := 34) (v := 6) C dX2_takesLayer_32 (by decide +kernel) rfl ?_
      refine k_nicmp_ge (a := n) (b := 6)  (tgt := 41) (q := 37) C dX2_takesLayer_34 (by decide) rfl (by omega) (by decide) ?_ ?_
      · intro c_34
        refine k_iconst (q := 42) (v := 0) C dX2_takesLayer_41 (by decide) rfl ?_
        exact k_fin E dX2_takesLayer_42 (by first | exact bI_t ⟨ha, c_34⟩ | exact bI_f (fun q => by omega)) (rfl)
      · intro c_34
        refine k_iconst (q := 38) (v := 1) C dX2_takesLayer_37 (by decide) rfl ?_
        refine k_goto (q := 42) C dX2_takesLayer_38 (by decide) ?_
        exact k_fin E dX2_takesLayer_42 (by first | exact bI_t ⟨ha, c_34⟩ | exact bI_f (fun q => by omega)) (rfl)
    · intro c_7
      refine k_aload_n (q := 11) C 0 dX2_takesLayer_10 rfl rfl ?_
      refine k_get (q := 14) (ci := 2) (v := .ref (a 1)) C 0 1 in2_X2_takesLayer rfl (List.mem_of_getElem? (i := 2) rfl) rfl rfl (by decide) rfl dX2_takesLayer_11 rfl ?_
      refine k_iload_n (q := 15) C 2 dX2_takesLayer_14 rfl rfl ?_
      refine k_iald (q := 16) C 1 rfl (vp_in_nI (n := k) (by omega) (by decide)) dX2_takesLayer_15 rfl ?_
      refine k_st (st2 := (.int (h k) :: _)) (congrArg (fun z => Value.int z :: _) (show h (nI k).toNatClampNeg = h k from congrArg h (nI_clamp (n := k) (by omega)))) ?_
      refine k_iload_n (q := 17) C 1 dX2_takesLayer_16 rfl rfl ?_
      refine k_icmp_ne (tgt := 22) (q := 20) C dX2_takesLayer_17 (by decide) rfl ?_ ?_
      · intro c_17
        refine k_iinc (q := 25) (v := nI (k + 1)) (fr2 := [(2, .int (nI (k + 1))), (0, .ref (a 0)), (1, .int x)]) C 2 dX2_takesLayer_22 rfl (nI_add k 1) (by decide) rfl rfl ?_
        refine k_goto (q := 2) C dX2_takesLayer_25 (by decide) ?_
        refine k_fr (fr2 := [(0, .ref (a 0)), (1, .int x), (2, .int (nI (k + 1)))]) ⟨[1, 2, 0], rfl⟩ ?_
        exact ih (k + 1) (by omega) (by omega) (by rw [sAny, ha, decide_eq_false c_17]; rfl)
      · intro c_17
        refine k_iconst (q := 21) (v := 0) C dX2_takesLayer_20 (by decide) rfl ?_
        exact k_fin E dX2_takesLayer_21 (bI_f (fun q => by rw [sAny_of c_7 c_17] at q; exact absurd q.1 (by decide))) (rfl)
set_option maxHeartbeats 4000000 in
set_option maxRecDepth 100000 in
theorem c_X2_takesLayer (cy : Nat → ClassId) (a : Nat → Nat) (n : Nat) (lit : Int32) (h : Nat → Int32) (t : Nat → Int32) (s : Nat → Int32) (g : Nat → Int32) (kn : Nat) (lo : Int32) (lf : Int32) (nm : Nat → Int32) (x : Int32)  (hn : n ≤ 6) : kI yX2_takesLayer wsX2_takesLayer rm_X2_takesLayer cy [.ref (a 0), .int x] (wSky a cy n lit h t s g kn lo lf nm) (bI (sAny h x n = false ∧ n < 6)) (wSky a cy n lit h t s g kn lo lf nm) := by
  refine kI_of (cc := cX2_takesLayer) (maxL := 3) (rt := .boolean) (by decide) rfl (kb_nar _) (Nat.le_of_ble_eq_true rfl) ?_
  intro X hR C E
  have C : kC X 3 RX2 cX2_takesLayer wsX2_takesLayer cy := C
  refine k_fr (fr2 := [(0, .ref (a 0)), (1, .int x)]) ⟨[0, 1], rfl⟩ ?_
  refine k_iconst (q := 1) (v := 0) C dX2_takesLayer_0 (by decide) rfl ?_
  refine k_istore_n (q := 2) (fr2 := [(2, .int 0), (0, .ref (a 0)), (1, .int x)]) C dX2_takesLayer_1 (by decide) rfl rfl ?_
  refine k_fr (fr2 := [(0, .ref (a 0)), (1, .int x), (2, .int 0)]) ⟨[1, 2, 0], rfl⟩ ?_
  exact lp_X2_takesLayer_2 cy a n lit h t s g kn lo lf nm x hn X hR C E _ 0 (Nat.lt_succ_self _) (by omega) rfl
abbrev rm_X2_addLayer : Room := { frames := 0, cells := 0, slots := 0, locals := 0 }
theorem in2_X2_addLayer : ∀ w ∈ wsX20, w ∈ wsX2_addLayer := fun _ h => (List.mem_cons_of_mem _ (List.mem_append_right _ h))
set_option maxHeartbeats 4000000 in
set_option maxRecDepth 100000 in
theorem lp_X2_addLayer_5 (cy : Nat → ClassId) (a : Nat → Nat) (n : Nat) (lit : Int32) (h : Nat → Int32) (t : Nat → Int32) (s : Nat → Int32) (g : Nat → Int32) (kn : Nat) (lo : Int32) (lf : Int32) (nm : Nat → Int32) (x : Int32) (y : Int32)  (hn : n < 6) (X : kX) (hR : xR X = rm_X2_addLayer) (C : kC X 4 RX2 cX2_addLayer wsX2_addLayer cy) (E : kEnd X 4 cX2_addLayer (nI (sPos h x n)) (wSky a cy (n + 1) lit (sIns h n (sPos h x n) x) (sIns t n (sPos h x n) y) s g kn lo lf nm)) : ∀ (fu : Nat) (k : Nat), k < fu → (k ≤ n) → (sPos h x k = sPos h x n) → kG X 4 0 0 (wSky a cy n lit (sUp h n k) (sUp t n k) s g kn lo lf nm) 5 [(0, .ref (a 0)), (1, .int x), (2, .int y), (3, .int (nI k))] [] := by
  intro fu
  induction fu with
  | zero => intro k hfu; exact absurd hfu (Nat.not_lt_zero _)
  | succ fu ih =>
    intro k hfu hk hp
    refine k_iload_n (q := 6) C 3 dX2_addLayer_5 rfl rfl ?_
    refine k_nif_le (a := k)  (tgt := 55) (q := 9) C dX2_addLayer_6 (by decide) rfl (by omega) ?_ ?_
    · intro c_6
      have hk6 : k < 6 := by omega
      have hpos : k = sPos h x n := by first | (rw [← hp]; exact (sPos_n c_18).symm) | (rw [← hp, c_6]; rfl)
      refine k_aload_n (q := 56) C 0 dX2_addLayer_55 rfl rfl ?_
      refine k_get (q := 59) (ci := 2) (v := .ref (a 1)) C 0 1 in2_X2_addLayer rfl (List.mem_of_getElem? (i := 2) rfl) rfl rfl (by decide) rfl dX2_addLayer_56 rfl ?_
      refine k_iload_n (q := 60) C 3 dX2_addLayer_59 rfl rfl ?_
      refine k_iload_n (q := 61) C 1 dX2_addLayer_60 rfl rfl ?_
      refine k_iast (q := 62) (w2 := (wSky a cy n lit (upd (sUp h n k) k x) (sUp t n k) s g kn lo lf nm)) C 1 rfl (vp_in_nI (n := k) (by omega) (by decide)) (by rw [nI_clamp (n := k) (by omega)]; rfl) dX2_addLayer_61 rfl ?_
      refine k_aload_n (q := 63) C 0 dX2_addLayer_62 rfl rfl ?_
      refine k_get (q := 66) (ci := 2) (v := .ref (a 2)) C 0 2 in2_X2_addLayer rfl (List.mem_of_getElem? (i := 3) rfl) rfl rfl (by decide) rfl dX2_addLayer_63 rfl ?_
      refine k_iload_n (q := 67) C 3 dX2_addLayer_66 rfl rfl ?_
      refine k_iload_n (q := 68) C 2 dX2_addLayer_67 rfl rfl ?_
      refine k_iast (q := 69) (w2 := (wSky a cy n lit (upd (sUp h n k) k x) (upd (sUp t n k) k y) s g kn lo lf nm)) C 2 rfl (vp_in_nI (n := k) (by omega) (by decide)) (by rw [nI_clamp (n := k) (by omega)]; rfl) dX2_addLayer_68 rfl ?_
      refine k_aload_n (q := 70) C 0 dX2_addLayer_69 rfl rfl ?_
      refine k_dup (q := 71) C dX2_addLayer_70 rfl rfl ?_
      refine k_get (q := 74) (ci := 2) (v := .int (nI n)) C 0 0 in2_X2_addLayer rfl (List.mem_of_getElem? (i := 1) rfl) rfl rfl (by decide) rfl dX2_addLayer_71 rfl ?_
      refine k_iconst (q := 75) (v := 1) C dX2_addLayer_74 (by decide) rfl ?_
      refine k_iadd (q := 76) C dX2_addLayer_75 rfl ?_
      refine k_st (st2 := (.int (nI (n + 1)) :: _)) (congrArg (fun z => Value.int z :: _) (show (nI n) + 1 = nI (n + 1) from nI_add n 1)) ?_
      refine k_put (q := 79) (ci := 2) (v := .int (nI (n + 1))) (w2 := (wSky a cy (n + 1) lit (upd (sUp h n k) k x) (upd (sUp t n k) k y) s g kn lo lf nm)) C 0 0 in2_X2_addLayer rfl (List.mem_of_getElem? (i := 1) rfl) rfl tyX2 tyX2_ok nmX2 rfl (rfl) (rfl) rfl (by decide) (Nat.le_of_ble_eq_true rfl) (rfl) dX2_addLayer_76 rfl ?_
      refine k_iload_n (q := 80) C 3 dX2_addLayer_79 rfl rfl ?_
      exact k_fin E dX2_addLayer_80 (by rw [hpos]) (by rw [← hpos]; rfl)
    · intro c_6
      refine k_aload_n (q := 10) C 0 dX2_addLayer_9 rfl rfl ?_
      refine k_get (q := 13) (ci := 2) (v := .ref (a 1)) C 0 1 in2_X2_addLayer rfl (List.mem_of_getElem? (i := 2) rfl) rfl rfl (by decide) rfl dX2_addLayer_10 rfl ?_
      refine k_iload_n (q := 14) C 3 dX2_addLayer_13 rfl rfl ?_
      refine k_iconst (q := 15) (v := 1) C dX2_addLayer_14 (by decide) rfl ?_
      refine k_isub (q := 16) C dX2_addLayer_15 rfl ?_
      refine k_st (st2 := (.int (nI (k - 1)) :: _)) (congrArg (fun z => Value.int z :: _) (show (nI k) - 1 = nI (k - 1) from pk_sub (a := k) (b := 1) (by omega))) ?_
      refine k_iald (q := 17) C 1 rfl (vp_in_nI (n := k - 1) (by omega) (by decide)) dX2_addLayer_16 rfl ?_
      refine k_st (st2 := (.int ((sUp h n k) (k - 1)) :: _)) (congrArg (fun z => Value.int z :: _) (show (sUp h n k) (nI (k - 1)).toNatClampNeg = (sUp h n k) (k - 1) from congrArg (sUp h n k) (nI_clamp (n := k - 1) (by omega)))) ?_
      refine k_st (st2 := (.int (h (k - 1)) :: _)) (congrArg (fun z => Value.int z :: _) (show (sUp h n k) (k - 1) = h (k - 1) from sUp_p c_6)) ?_
      refine k_iload_n (q := 18) C 1 dX2_addLayer_17 rfl rfl ?_
      refine k_icmp_le (tgt := 55) (q := 21) C dX2_addLayer_18 (by decide) rfl ?_ ?_
      · intro c_18
        have hk6 : k < 6 := by omega
        have hpos : k = sPos h x n := by first | (rw [← hp]; exact (sPos_n c_18).symm) | (rw [← hp, c_6]; rfl)
        refine k_aload_n (q := 56) C 0 dX2_addLayer_55 rfl rfl ?_
        refine k_get (q := 59) (ci := 2) (v := .ref (a 1)) C 0 1 in2_X2_addLayer rfl (List.mem_of_getElem? (i := 2) rfl) rfl rfl (by decide) rfl dX2_addLayer_56 rfl ?_
        refine k_iload_n (q := 60) C 3 dX2_addLayer_59 rfl rfl ?_
        refine k_iload_n (q := 61) C 1 dX2_addLayer_60 rfl rfl ?_
        refine k_iast (q := 62) (w2 := (wSky a cy n lit (upd (sUp h n k) k x) (sUp t n k) s g kn lo lf nm)) C 1 rfl (vp_in_nI (n := k) (by omega) (by decide)) (by rw [nI_clamp (n := k) (by omega)]; rfl) dX2_addLayer_61 rfl ?_
        refine k_aload_n (q := 63) C 0 dX2_addLayer_62 rfl rfl ?_
        refine k_get (q := 66) (ci := 2) (v := .ref (a 2)) C 0 2 in2_X2_addLayer rfl (List.mem_of_getElem? (i := 3) rfl) rfl rfl (by decide) rfl dX2_addLayer_63 rfl ?_
        refine k_iload_n (q := 67) C 3 dX2_addLayer_66 rfl rfl ?_
        refine k_iload_n (q := 68) C 2 dX2_addLayer_67 rfl rfl ?_
        refine k_iast (q := 69) (w2 := (wSky a cy n lit (upd (sUp h n k) k x) (upd (sUp t n k) k y) s g kn lo lf nm)) C 2 rfl (vp_in_nI (n := k) (by omega) (by decide)) (by rw [nI_clamp (n := k) (by omega)]; rfl) dX2_addLayer_68 rfl ?_
        refine k_aload_n (q := 70) C 0 dX2_addLayer_69 rfl rfl ?_
        refine k_dup (q := 71) C dX2_addLayer_70 rfl rfl ?_
        refine k_get (q := 74) (ci := 2) (v := .int (nI n)) C 0 0 in2_X2_addLayer rfl (List.mem_of_getElem? (i := 1) rfl) rfl rfl (by decide) rfl dX2_addLayer_71 rfl ?_
        refine k_iconst (q := 75) (v := 1) C dX2_addLayer_74 (by decide) rfl ?_
        refine k_iadd (q := 76) C dX2_addLayer_75 rfl ?_
        refine k_st (st2 := (.int (nI (n + 1)) :: _)) (congrArg (fun z => Value.int z :: _) (show (nI n) + 1 = nI (n + 1) from nI_add n 1)) ?_
        refine k_put (q := 79) (ci := 2) (v := .int (nI (n + 1))) (w2 := (wSky a cy (n + 1) lit (upd (sUp h n k) k x) (upd (sUp t n k) k y) s g kn lo lf nm)) C 0 0 in2_X2_addLayer rfl (List.mem_of_getElem? (i := 1) rfl) rfl tyX2 tyX2_ok nmX2 rfl (rfl) (rfl) rfl (by decide) (Nat.le_of_ble_eq_true rfl) (rfl) dX2_addLayer_76 rfl ?_
        refine k_iload_n (q := 80) C 3 dX2_addLayer_79 rfl rfl ?_
        exact k_fin E dX2_addLayer_80 (by rw [hpos]) (by rw [← hpos]; rfl)
      · intro c_18
        refine k_aload_n (q := 22) C 0 dX2_addLayer_21 rfl rfl ?_
        refine k_get (q := 25) (ci := 2) (v := .ref (a 1)) C 0 1 in2_X2_addLayer rfl (List.mem_of_getElem? (i := 2) rfl) rfl rfl (by decide) rfl dX2_addLayer_22 rfl ?_
        refine k_iload_n (q := 26) C 3 dX2_addLayer_25 rfl rfl ?_
        refine k_aload_n (q := 27) C 0 dX2_addLayer_26 rfl rfl ?_
        refine k_get (q := 30) (ci := 2) (v := .ref (a 1)) C 0 1 in2_X2_addLayer rfl (List.mem_of_getElem? (i := 2) rfl) rfl rfl (by decide) rfl dX2_addLayer_27 rfl ?_
        refine k_iload_n (q := 31) C 3 dX2_addLayer_30 rfl rfl ?_
        refine k_iconst (q := 32) (v := 1) C dX2_addLayer_31 (by decide) rfl ?_
        refine k_isub (q := 33) C dX2_addLayer_32 rfl ?_
        refine k_st (st2 := (.int (nI (k - 1)) :: _)) (congrArg (fun z => Value.int z :: _) (show (nI k) - 1 = nI (k - 1) from pk_sub (a := k) (b := 1) (by omega))) ?_
        refine k_iald (q := 34) C 1 rfl (vp_in_nI (n := k - 1) (by omega) (by decide)) dX2_addLayer_33 rfl ?_
        refine k_st (st2 := (.int ((sUp h n k) (k - 1)) :: _)) (congrArg (fun z => Value.int z :: _) (show (sUp h n k) (nI (k - 1)).toNatClampNeg = (sUp h n k) (k - 1) from congrArg (sUp h n k) (nI_clamp (n := k - 1) (by omega)))) ?_
        refine k_st (st2 := (.int (h (k - 1)) :: _)) (congrArg (fun z => Value.int z :: _) (show (sUp h n k) (k - 1) = h (k - 1) from sUp_p c_6)) ?_
        refine k_iast (q := 35) (w2 := (wSky a cy n lit (upd (sUp h n k) k (h (k - 1))) (sUp t n k) s g kn lo lf nm)) C 1 rfl (vp_in_nI (n := k) (by omega) (by decide)) (by rw [nI_clamp (n := k) (by omega)]; rfl) dX2_addLayer_34 rfl ?_
        refine k_w (w2 := (wSky a cy n lit (sUp h n (k - 1)) (sUp t n k) s g kn lo lf nm)) (by rw [sUp_d c_6 hk]) ?_
        refine k_aload_n (q := 36) C 0 dX2_addLayer_35 rfl rfl ?_
        refine k_get (q := 39) (ci := 2) (v := .ref (a 2)) C 0 2 in2_X2_addLayer rfl (List.mem_of_getElem? (i := 3) rfl) rfl rfl (by decide) rfl dX2_addLayer_36 rfl ?_
        refine k_iload_n (q := 40) C 3 dX2_addLayer_39 rfl rfl ?_
        refine k_aload_n (q := 41) C 0 dX2_addLayer_40 rfl rfl ?_
        refine k_get (q := 44) (ci := 2) (v := .ref (a 2)) C 0 2 in2_X2_addLayer rfl (List.mem_of_getElem? (i := 3) rfl) rfl rfl (by decide) rfl dX2_addLayer_41 rfl ?_
        refine k_iload_n (q := 45) C 3 dX2_addLayer_44 rfl rfl ?_
        refine k_iconst (q := 46) (v := 1) C dX2_addLayer_45 (by decide) rfl ?_
        refine k_isub (q := 47) C dX2_addLayer_46 rfl ?_
        refine k_st (st2 := (.int (nI (k - 1)) :: _)) (congrArg (fun z => Value.int z :: _) (show (nI k) - 1 = nI (k - 1) from pk_sub (a := k) (b := 1) (by omega))) ?_
        refine k_iald (q := 48) C 2 rfl (vp_in_nI (n := k - 1) (by omega) (by decide)) dX2_addLayer_47 rfl ?_
        refine k_st (st2 := (.int ((sUp t n k) (k - 1)) :: _)) (congrArg (fun z => Value.int z :: _) (show (sUp t n k) (nI (k - 1)).toNatClampNeg = (sUp t n k) (k - 1) from congrArg (sUp t n k) (nI_clamp (n := k - 1) (by omega)))) ?_
        refine k_st (st2 := (.int (t (k - 1)) :: _)) (congrArg (fun z => Value.int z :: _) (show (sUp t n k) (k - 1) = t (k - 1) from sUp_p c_6)) ?_
        refine k_iast (q := 49) (w2 := (wSky a cy n lit (sUp h n (k - 1)) (upd (sUp t n k) k (t (k - 1))) s g kn lo lf nm)) C 2 rfl (vp_in_nI (n := k) (by omega) (by decide)) (by rw [nI_clamp (n := k) (by omega)]; rfl) dX2_addLayer_48 rfl ?_
        refine k_w (w2 := (wSky a cy n lit (sUp h n (k - 1)) (sUp t n (k - 1)) s g kn lo lf nm)) (by rw [sUp_d c_6 hk]) ?_
        refine k_iinc (q := 52) (v := nI (k - 1)) (fr2 := [(3, .int (nI (k - 1))), (0, .ref (a 0)), (1, .int x), (2, .int y)]) C 3 dX2_addLayer_49 rfl ((by rw [show (Int32.ofInt (-1)) = -1 from by decide +kernel, ← Int32.sub_eq_add_neg]; exact pk_sub (a := k) (b := 1) (by omega))) (by decide) rfl rfl ?_
        refine k_goto (q := 5) C dX2_addLayer_52 (by decide) ?_
        refine k_fr (fr2 := [(0, .ref (a 0)), (1, .int x), (2, .int y), (3, .int (nI (k - 1)))]) ⟨[1, 2, 3, 0], rfl⟩ ?_
        exact ih (k - 1) (by omega) (by omega) (by rw [← hp]; exact (sPos_y c_6 (Int32.not_le.mp c_18)).symm)
set_option maxHeartbeats 4000000 in
set_option maxRecDepth 100000 in
theorem c_X2_addLayer (cy : Nat → ClassId) (a : Nat → Nat) (n : Nat) (lit : Int32) (h : Nat → Int32) (t : Nat → Int32) (s : Nat → Int32) (g : Nat → Int32) (kn : Nat) (lo : Int32) (lf : Int32) (nm : Nat → Int32) (x : Int32) (y : Int32)  (hn : n < 6) : kI yX2_addLayer wsX2_addLayer rm_X2_addLayer cy [.ref (a 0), .int x, .int y] (wSky a cy n lit h t s g kn lo lf nm) (nI (sPos h x n)) (wSky a cy (n + 1) lit (sIns h n (sPos h x n) x) (sIns t n (sPos h x n) y) s g kn lo lf nm) := by
  refine kI_of (cc := cX2_addLayer) (maxL := 4) (rt := .int) (by decide) rfl (rfl) (Nat.le_of_ble_eq_true rfl) ?_
  intro X hR C E
  have C : kC X 4 RX2 cX2_addLayer wsX2_addLayer cy := C
  refine k_fr (fr2 := [(0, .ref (a 0)), (1, .int x), (2, .int y)]) ⟨[0, 1, 2], rfl⟩ ?_
  refine k_aload_n (q := 1) C 0 dX2_addLayer_0 rfl rfl ?_
  refine k_get (q := 4) (ci := 2) (v := .int (nI n)) C 0 0 in2_X2_addLayer rfl (List.mem_of_getElem? (i := 1) rfl) rfl rfl (by decide) rfl dX2_addLayer_1 rfl ?_
  refine k_istore_n (q := 5) (fr2 := [(3, .int (nI n)), (0, .ref (a 0)), (1, .int x), (2, .int y)]) C dX2_addLayer_4 (by decide) rfl rfl ?_
  refine k_fr (fr2 := [(0, .ref (a 0)), (1, .int x), (2, .int y), (3, .int (nI n))]) ⟨[1, 2, 3, 0], rfl⟩ ?_
  have K := lp_X2_addLayer_5 cy a n lit h t s g kn lo lf nm x y hn X hR C E _ n (Nat.lt_succ_self _) (Nat.le_refl _) rfl
  rw [sUp_0, sUp_0] at K
  exact K
abbrev rm_X2_removeLayer : Room := { frames := 0, cells := 0, slots := 0, locals := 0 }
theorem in2_X2_removeLayer : ∀ w ∈ wsX20, w ∈ wsX2_removeLayer := fun _ h => (List.mem_cons_of_mem _ (List.mem_append_right _ h))
set_option maxHeartbeats 4000000 in
set_option maxRecDepth 100000 in
theorem lp_X2_removeLayer_11 (cy : Nat → ClassId) (a : Nat → Nat) (n : Nat) (lit : Int32) (h : Nat → Int32) (t : Nat → Int32) (s : Nat → Int32) (g : Nat → Int32) (kn : Nat) (lo : Int32) (lf : Int32) (nm : Nat → Int32) (p : Nat)  (hn : n ≤ 6) (hp : p < n) (X : kX) (hR : xR X = rm_X2_removeLayer) (C : kC X 4 RX2 cX2_removeLayer wsX2_removeLayer cy) (E : kEnd X 4 cX2_removeLayer (h p) (wSky a cy (n - 1) lit (sDn h p n) (sDn t p n) s g kn lo lf nm)) : ∀ (fu : Nat) (i : Nat), n - i < fu → (p < i) → (i ≤ n) → kG X 4 0 0 (wSky a cy n lit (sDn h p i) (sDn t p i) s g kn lo lf nm) 11 [(0, .ref (a 0)), (1, .int (nI p)), (2, .int (h p)), (3, .int (nI i))] [] := by
  intro fu
  induction fu with
  | zero => intro i hfu; exact absurd hfu (Nat.not_lt_zero _)
  | succ fu ih =>
    intro i hfu h1 h2
    refine k_iload_n (q := 12) C 3 dX2_removeLayer_11 rfl rfl ?_
    refine k_aload_n (q := 13) C 0 dX2_removeLayer_12 rfl rfl ?_
    refine k_get (q := 16) (ci := 2) (v := .int (nI n)) C 0 0 in2_X2_removeLayer rfl (List.mem_of_getElem? (i := 2) rfl) rfl rfl (by decide) rfl dX2_removeLayer_13 rfl ?_
    refine k_nicmp_ge (a := i) (b := n)  (tgt := 53) (q := 19) C dX2_removeLayer_16 (by decide) rfl (by omega) (by omega) ?_ ?_
    · intro c_16
      obtain rfl : n = i := by omega
      refine k_aload_n (q := 54) C 0 dX2_removeLayer_53 rfl rfl ?_
      refine k_dup (q := 55) C dX2_removeLayer_54 rfl rfl ?_
      refine k_get (q := 58) (ci := 2) (v := .int (nI n)) C 0 0 in2_X2_removeLayer rfl (List.mem_of_getElem? (i := 2) rfl) rfl rfl (by decide) rfl dX2_removeLayer_55 rfl ?_
      refine k_iconst (q := 59) (v := 1) C dX2_removeLayer_58 (by decide) rfl ?_
      refine k_isub (q := 60) C dX2_removeLayer_59 rfl ?_
      refine k_st (st2 := (.int (nI (n - 1)) :: _)) (congrArg (fun z => Value.int z :: _) (show (nI n) - 1 = nI (n - 1) from pk_sub (a := n) (b := 1) (by omega))) ?_
      refine k_put (q := 63) (ci := 2) (v := .int (nI (n - 1))) (w2 := (wSky a cy (n - 1) lit (sDn h p n) (sDn t p n) s g kn lo lf nm)) C 0 0 in2_X2_removeLayer rfl (List.mem_of_getElem? (i := 2) rfl) rfl tyX2 tyX2_ok nmX2 rfl (rfl) (rfl) rfl (by decide) (Nat.le_of_ble_eq_true rfl) (rfl) dX2_removeLayer_60 rfl ?_
      refine k_iload_n (q := 64) C 2 dX2_removeLayer_63 rfl rfl ?_
      exact k_fin E dX2_removeLayer_64 (rfl) (rfl)
    · intro c_16
      refine k_aload_n (q := 20) C 0 dX2_removeLayer_19 rfl rfl ?_
      refine k_get (q := 23) (ci := 2) (v := .ref (a 1)) C 0 1 in2_X2_removeLayer rfl (List.mem_of_getElem? (i := 1) rfl) rfl rfl (by decide) rfl dX2_removeLayer_20 rfl ?_
      refine k_iload_n (q := 24) C 3 dX2_removeLayer_23 rfl rfl ?_
      refine k_iconst (q := 25) (v := 1) C dX2_removeLayer_24 (by decide) rfl ?_
      refine k_isub (q := 26) C dX2_removeLayer_25 rfl ?_
      refine k_st (st2 := (.int (nI (i - 1)) :: _)) (congrArg (fun z => Value.int z :: _) (show (nI i) - 1 = nI (i - 1) from pk_sub (a := i) (b := 1) (by omega))) ?_
      refine k_aload_n (q := 27) C 0 dX2_removeLayer_26 rfl rfl ?_
      refine k_get (q := 30) (ci := 2) (v := .ref (a 1)) C 0 1 in2_X2_removeLayer rfl (List.mem_of_getElem? (i := 1) rfl) rfl rfl (by decide) rfl dX2_removeLayer_27 rfl ?_
      refine k_iload_n (q := 31) C 3 dX2_removeLayer_30 rfl rfl ?_
      refine k_iald (q := 32) C 1 rfl (vp_in_nI (n := i) (by omega) (by decide)) dX2_removeLayer_31 rfl ?_
      refine k_st (st2 := (.int ((sDn h p i) i) :: _)) (congrArg (fun z => Value.int z :: _) (show (sDn h p i) (nI i).toNatClampNeg = (sDn h p i) i from congrArg (sDn h p i) (nI_clamp (n := i) (by omega)))) ?_
      refine k_st (st2 := (.int (h i) :: _)) (congrArg (fun z => Value.int z :: _) (show (sDn h p i) i = h i from sDn_at)) ?_
      refine k_iast (q := 33) (w2 := (wSky a cy n lit (upd (sDn h p i) (i - 1) (h i)) (sDn t p i) s g kn lo lf nm)) C 1 rfl (vp_in_nI (n := i - 1) (by omega) (by decide)) (by rw [nI_clamp (n := i - 1) (by omega)]; rfl) dX2_removeLayer_32 rfl ?_
      refine k_w (w2 := (wSky a cy n lit (sDn h p (i + 1)) (sDn t p i) s g kn lo lf nm)) (by rw [sDn_s h1]) ?_
      refine k_aload_n (q := 34) C 0 dX2_removeLayer_33 rfl rfl ?_
      refine k_get (q := 37) (ci := 2) (v := .ref (a 2)) C 0 2 in2_X2_removeLayer rfl (List.mem_of_getElem? (i := 3) rfl) rfl rfl (by decide) rfl dX2_removeLayer_34 rfl ?_
      refine k_iload_n (q := 38) C 3 dX2_removeLayer_37 rfl rfl ?_
      refine k_iconst (q := 39) (v := 1) C dX2_removeLayer_38 (by decide) rfl ?_
      refine k_isub (q := 40) C dX2_removeLayer_39 rfl ?_
      refine k_st (st2 := (.int (nI (i - 1)) :: _)) (congrArg (fun z => Value.int z :: _) (show (nI i) - 1 = nI (i - 1) from pk_sub (a := i) (b := 1) (by omega))) ?_
      refine k_aload_n (q := 41) C 0 dX2_removeLayer_40 rfl rfl ?_
      refine k_get (q := 44) (ci := 2) (v := .ref (a 2)) C 0 2 in2_X2_removeLayer rfl (List.mem_of_getElem? (i := 3) rfl) rfl rfl (by decide) rfl dX2_removeLayer_41 rfl ?_
      refine k_iload_n (q := 45) C 3 dX2_removeLayer_44 rfl rfl ?_
      refine k_iald (q := 46) C 2 rfl (vp_in_nI (n := i) (by omega) (by decide)) dX2_removeLayer_45 rfl ?_
      refine k_st (st2 := (.int ((sDn t p i) i) :: _)) (congrArg (fun z => Value.int z :: _) (show (sDn t p i) (nI i).toNatClampNeg = (sDn t p i) i from congrArg (sDn t p i) (nI_clamp (n := i) (by omega)))) ?_
      refine k_st (st2 := (.int (t i) :: _)) (congrArg (fun z => Value.int z :: _) (show (sDn t p i) i = t i from sDn_at)) ?_
      refine k_iast (q := 47) (w2 := (wSky a cy n lit (sDn h p (i + 1)) (upd (sDn t p i) (i - 1) (t i)) s g kn lo lf nm)) C 2 rfl (vp_in_nI (n := i - 1) (by omega) (by decide)) (by rw [nI_clamp (n := i - 1) (by omega)]; rfl) dX2_removeLayer_46 rfl ?_
      refine k_w (w2 := (wSky a cy n lit (sDn h p (i + 1)) (sDn t p (i + 1)) s g kn lo lf nm)) (by rw [sDn_s h1]) ?_
      refine k_iinc (q := 50) (v := nI (i + 1)) (fr2 := [(3, .int (nI (i + 1))), (0, .ref (a 0)), (1, .int (nI p)), (2, .int (h p))]) C 3 dX2_removeLayer_47 rfl (nI_add i 1) (by decide) rfl rfl ?_
      refine k_goto (q := 11) C dX2_removeLayer_50 (by decide) ?_
      refine k_fr (fr2 := [(0, .ref (a 0)), (1, .int (nI p)), (2, .int (h p)), (3, .int (nI (i + 1)))]) ⟨[1, 2, 3, 0], rfl⟩ ?_
      exact ih (i + 1) (by omega) (by omega) (by omega)
set_option maxHeartbeats 4000000 in
set_option maxRecDepth 100000 in
theorem c_X2_removeLayer (cy : Nat → ClassId) (a : Nat → Nat) (n : Nat) (lit : Int32) (h : Nat → Int32) (t : Nat → Int32) (s : Nat → Int32) (g : Nat → Int32) (kn : Nat) (lo : Int32) (lf : Int32) (nm : Nat → Int32) (p : Nat)  (hn : n ≤ 6) (hp : p < n) : kI yX2_removeLayer wsX2_removeLayer rm_X2_removeLayer cy [.ref (a 0), .int (nI p)] (wSky a cy n lit h t s g kn lo lf nm) (h p) (wSky a cy (n - 1) lit (sDn h p n) (sDn t p n) s g kn lo lf nm) := by
  refine kI_of (cc := cX2_removeLayer) (maxL := 4) (rt := .int) (by decide) rfl (rfl) (Nat.le_of_ble_eq_true rfl) ?_
  intro X hR C E
  have C : kC X 4 RX2 cX2_removeLayer wsX2_removeLayer cy := C
  refine k_fr (fr2 := [(0, .ref (a 0)), (1, .int (nI p))]) ⟨[0, 1], rfl⟩ ?_
  refine k_aload_n (q := 1) C 0 dX2_removeLayer_0 rfl rfl ?_
  refine k_get (q := 4) (ci := 2) (v := .ref (a 1)) C 0 1 in2_X2_removeLayer rfl (List.mem_of_getElem? (i := 1) rfl) rfl rfl (by decide) rfl dX2_removeLayer_1 rfl ?_
  refine k_iload_n (q := 5) C 1 dX2_removeLayer_4 rfl rfl ?_
  refine k_iald (q := 6) C 1 rfl (vp_in_nI (n := p) (by omega) (by decide)) dX2_removeLayer_5 rfl ?_
  refine k_st (st2 := (.int (h p) :: _)) (congrArg (fun z => Value.int z :: _) (show h (nI p).toNatClampNeg = h p from congrArg h (nI_clamp (n := p) (by omega)))) ?_
  refine k_istore_n (q := 7) (fr2 := [(2, .int (h p)), (0, .ref (a 0)), (1, .int (nI p))]) C dX2_removeLayer_6 (by decide) rfl rfl ?_
  refine k_iload_n (q := 8) C 2 dX2_removeLayer_7 rfl rfl ?_
  refine k_iconst (q := 9) (v := 1) C dX2_removeLayer_8 (by decide) rfl ?_
  refine k_iadd (q := 10) C dX2_removeLayer_9 rfl ?_
  refine k_st (st2 := (.int (nI (p + 1)) :: _)) (congrArg (fun z => Value.int z :: _) (show (nI p) + 1 = nI (p + 1) from nI_add p 1)) ?_
  refine k_istore_n (q := 11) (fr2 := [(3, .int (nI (p + 1))), (2, .int (h p)), (0, .ref (a 0)), (1, .int (nI p))]) C dX2_removeLayer_10 (by decide) rfl rfl ?_
  refine k_fr (fr2 := [(0, .ref (a 0)), (1, .int (nI p)), (2, .int (h p)), (3, .int (nI (p + 1)))]) ⟨[2, 3, 1, 0], rfl⟩ ?_
  have K := lp_X2_removeLayer_11 cy a n lit h t s g kn lo lf nm p hn hp X hR C E _ (p + 1) (Nat.lt_succ_self _) (by omega) (by omega)
  rw [sDn_0, sDn_0] at K
  exact K
abbrev rm_X2_removeThinLayers : Room := { frames := 0, cells := 0, slots := 0, locals := 0 }
theorem in2_X2_removeThinLayers : ∀ w ∈ wsX20, w ∈ wsX2_removeThinLayers := fun _ h => (List.mem_cons_of_mem _ (List.mem_append_right _ h))
set_option maxHeartbeats 4000000 in
set_option maxRecDepth 100000 in
theorem lp_X2_removeThinLayers_4 (cy : Nat → ClassId) (a : Nat → Nat) (n : Nat) (lit : Int32) (h : Nat → Int32) (t : Nat → Int32) (s : Nat → Int32) (g : Nat → Int32) (kn : Nat) (lo : Int32) (lf : Int32) (nm : Nat → Int32) (x : Int32)  (hn : n ≤ 6) (X : kX) (hR : xR X = rm_X2_removeThinLayers) (C : kC X 4 RX2 cX2_removeThinLayers wsX2_removeThinLayers cy) (E : kEnd X 4 cX2_removeThinLayers (nI (n - sKeep t x n)) (wSky a cy (sKeep t x n) lit (sPack t x h n) (sPack t x t n) s g kn lo lf nm)) : ∀ (fu : Nat) (i : Nat), n - i < fu → (i ≤ n) → kG X 4 0 0 (wSky a cy n lit (sPack t x h i) (sPack t x t i) s g kn lo lf nm) 4 [(0, .ref (a 0)), (1, .int x), (2, .int (nI (sKeep t x i))), (3, .int (nI i))] [] := by
  intro fu
  induction fu with
  | zero => intro i hfu; exact absurd hfu (Nat.not_lt_zero _)
  | succ fu ih =>
    intro i hfu h2
    have hkl := sKeep_le t x i
    refine k_iload_n (q := 5) C 3 dX2_removeThinLayers_4 rfl rfl ?_
    refine k_aload_n (q := 6) C 0 dX2_removeThinLayers_5 rfl rfl ?_
    refine k_get (q := 9) (ci := 2) (v := .int (nI n)) C 0 0 in2_X2_removeThinLayers rfl (List.mem_of_getElem? (i := 1) rfl) rfl rfl (by decide) rfl dX2_removeThinLayers_6 rfl ?_
    refine k_nicmp_ge (a := i) (b := n)  (tgt := 55) (q := 12) C dX2_removeThinLayers_9 (by decide) rfl (by omega) (by omega) ?_ ?_
    · intro c_9
      obtain rfl : n = i := by omega
      refine k_aload_n (q := 56) C 0 dX2_removeThinLayers_55 rfl rfl ?_
      refine k_get (q := 59) (ci := 2) (v := .int (nI n)) C 0 0 in2_X2_removeThinLayers rfl (List.mem_of_getElem? (i := 1) rfl) rfl rfl (by decide) rfl dX2_removeThinLayers_56 rfl ?_
      refine k_iload_n (q := 60) C 2 dX2_removeThinLayers_59 rfl rfl ?_
      refine k_isub (q := 61) C dX2_removeThinLayers_60 rfl ?_
      refine k_st (st2 := (.int (nI (n - (sKeep t x n))) :: _)) (congrArg (fun z => Value.int z :: _) (show (nI n) - (nI (sKeep t x n)) = nI (n - (sKeep t x n)) from pk_sub (a := n) (b := sKeep t x n) (by omega))) ?_
      refine k_istore_n (q := 62) (fr2 := [(3, .int (nI (n - (sKeep t x n)))), (0, .ref (a 0)), (1, .int x), (2, .int (nI (sKeep t x n)))]) C dX2_removeThinLayers_61 (by decide) rfl rfl ?_
      refine k_aload_n (q := 63) C 1 dX2_removeThinLayers_62 rfl rfl ?_
      refine k_iload_n (q := 64) C 3 dX2_removeThinLayers_63 rfl rfl ?_
      refine k_put (q := 67) (ci := 2) (v := .int (nI (sKeep t x n))) (w2 := (wSky a cy (sKeep t x n) lit (sPack t x h n) (sPack t x t n) s g kn lo lf nm)) C 0 0 in2_X2_removeThinLayers rfl (List.mem_of_getElem? (i := 1) rfl) rfl tyX2 tyX2_ok nmX2 rfl (rfl) (rfl) rfl (by decide) (Nat.le_of_ble_eq_true rfl) (rfl) dX2_removeThinLayers_64 rfl ?_
      refine k_iload_n (q := 68) C 0 dX2_removeThinLayers_67 rfl rfl ?_
      exact k_fin E dX2_removeThinLayers_68 (by simp [bI, hn, h2, c_9]) (rfl)
    · intro c_9
      refine k_aload_n (q := 13) C 0 dX2_removeThinLayers_12 rfl rfl ?_
      refine k_get (q := 16) (ci := 2) (v := .ref (a 2)) C 0 2 in2_X2_removeThinLayers rfl (List.mem_of_getElem? (i := 2) rfl) rfl rfl (by decide) rfl dX2_removeThinLayers_13 rfl ?_
      refine k_iload_n (q := 17) C 3 dX2_removeThinLayers_16 rfl rfl ?_
      refine k_iald (q := 18) C 2 rfl (vp_in_nI (n := i) (by omega) (by decide)) dX2_removeThinLayers_17 rfl ?_
      refine k_st (st2 := (.int ((sPack t x t i) i) :: _)) (congrArg (fun z => Value.int z :: _) (show (sPack t x t i) (nI i).toNatClampNeg = (sPack t x t i) i from congrArg (sPack t x t i) (nI_clamp (n := i) (by omega)))) ?_
      refine k_st (st2 := (.int (t i) :: _)) (congrArg (fun z => Value.int z :: _) (show (sPack t x t i) i = t i from sPack_at t x t i i (Nat.le_refl _))) ?_
      refine k_iload_n (q := 19) C 1 dX2_removeThinLayers_18 rfl rfl ?_
      refine k_icmp_le (tgt := 49) (q := 22) C dX2_removeThinLayers_19 (by decide) rfl ?_ ?_
      · intro c_19
        refine k_iinc (q := 52) (v := nI (i + 1)) (fr2 := [(3, .int (nI (i + 1))), (0, .ref (a 0)), (1, .int x), (2, .int (nI (sKeep t x i)))]) C 3 dX2_removeThinLayers_49 rfl (nI_add i 1) (by decide) rfl rfl ?_
        refine k_goto (q := 4) C dX2_removeThinLayers_52 (by decide) ?_
        refine k_fr (fr2 := [(0, .ref (a 0)), (1, .int x), (2, .int (nI (sKeep t x i))), (3, .int (nI (i + 1)))]) ⟨[1, 2, 3, 0], rfl⟩ ?_
        have K := ih (i + 1) (by omega) (by omega)
        first | rw [sKeep_y (Int32.not_le.mp c_19), sPack_y (Int32.not_le.mp c_19), sPack_y (Int32.not_le.mp c_19)] at K | rw [sKeep_n c_19, sPack_n c_19, sPack_n c_19] at K
        exact K
      · intro c_19
        refine k_aload_n (q := 23) C 0 dX2_removeThinLayers_22 rfl rfl ?_
        refine k_get (q := 26) (ci := 2) (v := .ref (a 1)) C 0 1 in2_X2_removeThinLayers rfl (List.mem_of_getElem? (i := 3) rfl) rfl rfl (by decide) rfl dX2_removeThinLayers_23 rfl ?_
        refine k_iload_n (q := 27) C 2 dX2_removeThinLayers_26 rfl rfl ?_
        refine k_aload_n (q := 28) C 0 dX2_removeThinLayers_27 rfl rfl ?_
        refine k_get (q := 31) (ci := 2) (v := .ref (a 1)) C 0 1 in2_X2_removeThinLayers rfl (List.mem_of_getElem? (i := 3) rfl) rfl rfl (by decide) rfl dX2_removeThinLayers_28 rfl ?_
        refine k_iload_n (q := 32) C 3 dX2_removeThinLayers_31 rfl rfl ?_
        refine k_iald (q := 33) C 1 rfl (vp_in_nI (n := i) (by omega) (by decide)) dX2_removeThinLayers_32 rfl ?_
        refine k_st (st2 := (.int ((sPack t x h i) i) :: _)) (congrArg (fun z => Value.int z :: _) (show (sPack t x h i) (nI i).toNatClampNeg = (sPack t x h i) i from congrArg (sPack t x h i) (nI_clamp (n := i) (by omega)))) ?_
        refine k_st (st2 := (.int (h i) :: _)) (congrArg (fun z => Value.int z :: _) (show (sPack t x h i) i = h i from sPack_at t x h i i (Nat.le_refl _))) ?_
        refine k_iast (q := 34) (w2 := (wSky a cy n lit (upd (sPack t x h i) (sKeep t x i) (h i)) (sPack t x t i) s g kn lo lf nm)) C 1 rfl (vp_in_nI (n := sKeep t x i) (by omega) (by decide)) (by rw [nI_clamp (n := sKeep t x i) (by omega)]; rfl) dX2_removeThinLayers_33 rfl ?_
        refine k_aload_n (q := 35) C 0 dX2_removeThinLayers_34 rfl rfl ?_
        refine k_get (q := 38) (ci := 2) (v := .ref (a 2)) C 0 2 in2_X2_removeThinLayers rfl (List.mem_of_getElem? (i := 2) rfl) rfl rfl (by decide) rfl dX2_removeThinLayers_35 rfl ?_
        refine k_iload_n (q := 39) C 2 dX2_removeThinLayers_38 rfl rfl ?_
        refine k_aload_n (q := 40) C 0 dX2_removeThinLayers_39 rfl rfl ?_
        refine k_get (q := 43) (ci := 2) (v := .ref (a 2)) C 0 2 in2_X2_removeThinLayers rfl (List.mem_of_getElem? (i := 2) rfl) rfl rfl (by decide) rfl dX2_removeThinLayers_40 rfl ?_
        refine k_iload_n (q := 44) C 3 dX2_removeThinLayers_43 rfl rfl ?_
        refine k_iald (q := 45) C 2 rfl (vp_in_nI (n := i) (by omega) (by decide)) dX2_removeThinLayers_44 rfl ?_
        refine k_st (st2 := (.int ((sPack t x t i) i) :: _)) (congrArg (fun z => Value.int z :: _) (show (sPack t x t i) (nI i).toNatClampNeg = (sPack t x t i) i from congrArg (sPack t x t i) (nI_clamp (n := i) (by omega)))) ?_
        refine k_st (st2 := (.int (t i) :: _)) (congrArg (fun z => Value.int z :: _) (show (sPack t x t i) i = t i from sPack_at t x t i i (Nat.le_refl _))) ?_
        refine k_iast (q := 46) (w2 := (wSky a cy n lit (upd (sPack t x h i) (sKeep t x i) (h i)) (upd (sPack t x t i) (sKeep t x i) (t i)) s g kn lo lf nm)) C 2 rfl (vp_in_nI (n := sKeep t x i) (by omega) (by decide)) (by rw [nI_clamp (n := sKeep t x i) (by omega)]; rfl) dX2_removeThinLayers_45 rfl ?_
        refine k_iinc (q := 49) (v := nI (sKeep t x i + 1)) (fr2 := [(2, .int (nI (sKeep t x i + 1))), (0, .ref (a 0)), (1, .int x), (3, .int (nI i))]) C 2 dX2_removeThinLayers_46 rfl (nI_add (sKeep t x i) 1) (by decide) rfl rfl ?_
        refine k_iinc (q := 52) (v := nI (i + 1)) (fr2 := [(3, .int (nI (i + 1))), (2, .int (nI (sKeep t x i + 1))), (0, .ref (a 0)), (1, .int x)]) C 3 dX2_removeThinLayers_49 rfl (nI_add i 1) (by decide) rfl rfl ?_
        refine k_goto (q := 4) C dX2_removeThinLayers_52 (by decide) ?_
        refine k_fr (fr2 := [(0, .ref (a 0)), (1, .int x), (2, .int (nI (sKeep t x i + 1))), (3, .int (nI (i + 1)))]) ⟨[2, 3, 1, 0], rfl⟩ ?_
        have K := ih (i + 1) (by omega) (by omega)
        first | rw [sKeep_y (Int32.not_le.mp c_19), sPack_y (Int32.not_le.mp c_19), sPack_y (Int32.not_le.mp c_19)] at K | rw [sKeep_n c_19, sPack_n c_19, sPack_n c_19] at K
        exact K
set_option maxHeartbeats 4000000 in
set_option maxRecDepth 100000 in
theorem c_X2_removeThinLayers (cy : Nat → ClassId) (a : Nat → Nat) (n : Nat) (lit : Int32) (h : Nat → Int32) (t : Nat → Int32) (s : Nat → Int32) (g : Nat → Int32) (kn : Nat) (lo : Int32) (lf : Int32) (nm : Nat → Int32) (x : Int32)  (hn : n ≤ 6) : kI yX2_removeThinLayers wsX2_removeThinLayers rm_X2_removeThinLayers cy [.ref (a 0), .int x] (wSky a cy n lit h t s g kn lo lf nm) (nI (n - sKeep t x n)) (wSky a cy (sKeep t x n) lit (sPack t x h n) (sPack t x t n) s g kn lo lf nm) := by
  refine kI_of (cc := cX2_removeThinLayers) (maxL := 4) (rt := .int) (by decide) rfl (rfl) (Nat.le_of_ble_eq_true rfl) ?_
  intro X hR C E
  have C : kC X 4 RX2 cX2_removeThinLayers wsX2_removeThinLayers cy := C
  refine k_fr (fr2 := [(0, .ref (a 0)), (1, .int x)]) ⟨[0, 1], rfl⟩ ?_
  refine k_iconst (q := 1) (v := 0) C dX2_removeThinLayers_0 (by decide) rfl ?_
  refine k_istore_n (q := 2) (fr2 := [(2, .int 0), (0, .ref (a 0)), (1, .int x)]) C dX2_removeThinLayers_1 (by decide) rfl rfl ?_
  refine k_iconst (q := 3) (v := 0) C dX2_removeThinLayers_2 (by decide) rfl ?_
  refine k_istore_n (q := 4) (fr2 := [(3, .int 0), (2, .int 0), (0, .ref (a 0)), (1, .int x)]) C dX2_removeThinLayers_3 (by decide) rfl rfl ?_
  refine k_fr (fr2 := [(0, .ref (a 0)), (1, .int x), (2, .int 0), (3, .int 0)]) ⟨[2, 3, 1, 0], rfl⟩ ?_
  exact lp_X2_removeThinLayers_4 cy a n lit h t s g kn lo lf nm x hn X hR C E _ 0 (Nat.lt_succ_self _) (by omega)
abbrev rm_X2_giveSlope : Room := { frames := 0, cells := 0, slots := 0, locals := 0 }
theorem in2_X2_giveSlope : ∀ w ∈ wsX20, w ∈ wsX2_giveSlope := fun _ h => (List.mem_cons_of_mem _ (List.mem_append_right _ h))
set_option maxHeartbeats 4000000 in
set_option maxRecDepth 100000 in
theorem c_X2_giveSlope (cy : Nat → ClassId) (a : Nat → Nat) (n : Nat) (lit : Int32) (h : Nat → Int32) (t : Nat → Int32) (s : Nat → Int32) (g : Nat → Int32) (kn : Nat) (lo : Int32) (lf : Int32) (nm : Nat → Int32) (j : Nat) (x : Int32)  (hj : j < 2) : kI yX2_giveSlope wsX2_giveSlope rm_X2_giveSlope cy [.ref (a 0), .int (nI j), .int x] (wSky a cy n lit h t s g kn lo lf nm) (s j) (wSky a cy n lit h t (upd s j x) g kn lo lf nm) := by
  refine kI_of (cc := cX2_giveSlope) (maxL := 4) (rt := .int) (by decide) rfl (rfl) (Nat.le_of_ble_eq_true rfl) ?_
  intro X hR C E
  have C : kC X 4 RX2 cX2_giveSlope wsX2_giveSlope cy := C
  refine k_fr (fr2 := [(0, .ref (a 0)), (1, .int (nI j)), (2, .int x)]) ⟨[0, 1, 2], rfl⟩ ?_
  refine k_aload_n (q := 1) C 0 dX2_giveSlope_0 rfl rfl ?_
  refine k_get (q := 4) (ci := 2) (v := .ref (a 3)) C 0 3 in2_X2_giveSlope rfl (List.mem_of_getElem? (i := 1) rfl) rfl rfl (by decide) rfl dX2_giveSlope_1 rfl ?_
  refine k_iload_n (q := 5) C 1 dX2_giveSlope_4 rfl rfl ?_
  refine k_iald (q := 6) C 3 rfl (vp_in_nI (n := j) (by omega) (by decide)) dX2_giveSlope_5 rfl ?_
  refine k_st (st2 := (.int (s j) :: _)) (congrArg (fun z => Value.int z :: _) (show s (nI j).toNatClampNeg = s j from congrArg s (nI_clamp (n := j) (by omega)))) ?_
  refine k_istore_n (q := 7) (fr2 := [(3, .int (s j)), (0, .ref (a 0)), (1, .int (nI j)), (2, .int x)]) C dX2_giveSlope_6 (by decide) rfl rfl ?_
  refine k_aload_n (q := 8) C 1 dX2_giveSlope_7 rfl rfl ?_
  refine k_get (q := 11) (ci := 2) (v := .ref (a 3)) C 0 3 in2_X2_giveSlope rfl (List.mem_of_getElem? (i := 1) rfl) rfl rfl (by decide) rfl dX2_giveSlope_8 rfl ?_
  refine k_iload_n (q := 12) C 2 dX2_giveSlope_11 rfl rfl ?_
  refine k_iload_n (q := 13) C 3 dX2_giveSlope_12 rfl rfl ?_
  refine k_iast (q := 14) (w2 := (wSky a cy n lit h t (upd s j x) g kn lo lf nm)) C 3 rfl (vp_in_nI (n := j) (by omega) (by decide)) (by rw [nI_clamp (n := j) (by omega)]; rfl) dX2_giveSlope_13 rfl ?_
  refine k_iload_n (q := 15) C 0 dX2_giveSlope_14 rfl rfl ?_
  exact k_fin E dX2_giveSlope_15 (rfl) (rfl)
abbrev rm_X2_isLit : Room := { frames := 0, cells := 0, slots := 0, locals := 0 }
theorem in2_X2_isLit : ∀ w ∈ wsX20, w ∈ wsX2_isLit := fun _ h => (List.mem_cons_of_mem _ (List.mem_append_right _ h))
set_option maxHeartbeats 4000000 in
set_option maxRecDepth 100000 in
theorem c_X2_isLit (cy : Nat → ClassId) (a : Nat → Nat) (n : Nat) (lit : Int32) (h : Nat → Int32) (t : Nat → Int32) (s : Nat → Int32) (g : Nat → Int32) (kn : Nat) (lo : Int32) (lf : Int32) (nm : Nat → Int32) (j : Nat)   : kI yX2_isLit wsX2_isLit rm_X2_isLit cy [.ref (a 0), .int (nI j)] (wSky a cy n lit h t s g kn lo lf nm) (bI ((lit >>> (nI j &&& 31)) &&& 1 = 1)) (wSky a cy n lit h t s g kn lo lf nm) := by
  refine kI_of (cc := cX2_isLit) (maxL := 2) (rt := .boolean) (by decide) rfl (kb_nar _) (Nat.le_of_ble_eq_true rfl) ?_
  intro X hR C E
  have C : kC X 2 RX2 cX2_isLit wsX2_isLit cy := C
  refine k_fr (fr2 := [(0, .ref (a 0)), (1, .int (nI j))]) ⟨[0, 1], rfl⟩ ?_
  refine k_aload_n (q := 1) C 0 dX2_isLit_0 rfl rfl ?_
  refine k_get (q := 4) (ci := 2) (v := .int lit) C 0 5 in2_X2_isLit rfl (List.mem_of_getElem? (i := 1) rfl) rfl rfl (by decide) rfl dX2_isLit_1 rfl ?_
  refine k_iload_n (q := 5) C 1 dX2_isLit_4 rfl rfl ?_
  refine k_ishr (q := 6) C dX2_isLit_5 rfl ?_
  refine k_iconst (q := 7) (v := 1) C dX2_isLit_6 (by decide) rfl ?_
  refine k_iand (q := 8) C dX2_isLit_7 rfl ?_
  refine k_iconst (q := 9) (v := 1) C dX2_isLit_8 (by decide) rfl ?_
  refine k_icmp_ne (tgt := 16) (q := 12) C dX2_isLit_9 (by decide) rfl ?_ ?_
  · intro c_9
    refine k_iconst (q := 17) (v := 0) C dX2_isLit_16 (by decide) rfl ?_
    exact k_fin E dX2_isLit_17 (by first | exact bI_t c_9 | exact bI_f c_9) (rfl)
  · intro c_9
    refine k_iconst (q := 13) (v := 1) C dX2_isLit_12 (by decide) rfl ?_
    refine k_goto (q := 17) C dX2_isLit_13 (by decide) ?_
    exact k_fin E dX2_isLit_17 (by first | exact bI_t c_9 | exact bI_f c_9) (rfl)
abbrev rm_X2_switchLight : Room := { frames := 1, cells := 0, slots := 0, locals := 21 }
theorem in2_X2_switchLight : ∀ w ∈ wsX20, w ∈ wsX2_switchLight := fun _ h => (List.mem_cons_of_mem _ (List.mem_append_right _ h))
set_option maxHeartbeats 4000000 in
set_option maxRecDepth 100000 in
theorem c_X2_switchLight (cy : Nat → ClassId) (a : Nat → Nat) (n : Nat) (lit : Int32) (h : Nat → Int32) (t : Nat → Int32) (s : Nat → Int32) (g : Nat → Int32) (kn : Nat) (lo : Int32) (lf : Int32) (nm : Nat → Int32) (j : Nat)   : kI yX2_switchLight wsX2_switchLight rm_X2_switchLight cy [.ref (a 0), .int (nI j)] (wSky a cy n lit h t s g kn lo lf nm) (bI (((lit ^^^ (1 <<< (nI j &&& 31))) >>> (nI j &&& 31)) &&& 1 = 1)) (wSky a cy n (lit ^^^ (1 <<< (nI j &&& 31))) h t s g kn lo lf nm) := by
  refine kI_of (cc := cX2_switchLight) (maxL := 2) (rt := .int) (by decide) rfl (rfl) (Nat.le_of_ble_eq_true rfl) ?_
  intro X hR C E
  have C : kC X 2 RX2 cX2_switchLight wsX2_switchLight cy := C
  refine k_fr (fr2 := [(0, .ref (a 0)), (1, .int (nI j))]) ⟨[0, 1], rfl⟩ ?_
  refine k_aload_n (q := 1) C 0 dX2_switchLight_0 rfl rfl ?_
  refine k_dup (q := 2) C dX2_switchLight_1 rfl rfl ?_
  refine k_get (q := 5) (ci := 2) (v := .int lit) C 0 5 in2_X2_switchLight rfl (List.mem_of_getElem? (i := 1) rfl) rfl rfl (by decide) rfl dX2_switchLight_2 rfl ?_
  refine k_iconst (q := 6) (v := 1) C dX2_switchLight_5 (by decide) rfl ?_
  refine k_iload_n (q := 7) C 1 dX2_switchLight_6 rfl rfl ?_
  refine k_ishl (q := 8) C dX2_switchLight_7 rfl ?_
  refine k_ixor (q := 9) C dX2_switchLight_8 rfl ?_
  refine k_put (q := 12) (ci := 2) (v := .int (lit ^^^ (1 <<< ((nI j) &&& 31)))) (w2 := (wSky a cy n (lit ^^^ (1 <<< ((nI j) &&& 31))) h t s g kn lo lf nm)) C 0 5 in2_X2_switchLight rfl (List.mem_of_getElem? (i := 1) rfl) rfl tyX2 tyX2_ok nmX2 rfl (rfl) (rfl) rfl (by decide) (Nat.le_of_ble_eq_true rfl) (rfl) dX2_switchLight_9 rfl ?_
  refine k_aload_n (q := 13) C 0 dX2_switchLight_12 rfl rfl ?_
  refine k_iload_n (q := 14) C 1 dX2_switchLight_13 rfl rfl ?_
  refine k_callVI (n := 1) (q := 17) (pre := ([] : va_W)) (post := ([] : va_W)) (w2 := (wSky a cy n (lit ^^^ (1 <<< ((nI j) &&& 31))) h t s g kn lo lf nm)) (As := [.int (nI j)]) (rest := []) C (c_X2_isLit cy a n (lit ^^^ (1 <<< ((nI j) &&& 31))) h t s g kn lo lf nm j) gX2_switchLight_X2_isLit rfl rfl rfl (by decide +kernel) (k_room hR (by decide)) ⟨Nat.zero_le _, Nat.zero_le _⟩ (ci := 2) rfl 0 rfl rfl rfl (Nat.le_of_ble_eq_true rfl) ((List.append_nil _).symm) (List.append_nil _) dX2_switchLight_14 rfl ?_
  refine k_ifB_eq (tgt := 24) (q := 20) C dX2_switchLight_17 (by decide) rfl ?_ ?_
  · intro c_17
    refine k_iconst (q := 25) (v := 0) C dX2_switchLight_24 (by decide) rfl ?_
    exact k_fin E dX2_switchLight_25 (by first | exact bI_t c_17 | exact bI_f c_17) (rfl)
  · intro c_17
    refine k_iconst (q := 21) (v := 1) C dX2_switchLight_20 (by decide) rfl ?_
    refine k_goto (q := 25) C dX2_switchLight_21 (by decide) ?_
    exact k_fin E dX2_switchLight_25 (by first | exact bI_t c_17 | exact bI_f c_17) (rfl)
abbrev rm_X2_place : Room := { frames := 0, cells := 0, slots := 0, locals := 0 }
theorem in2_X2_place : ∀ w ∈ wsX20, w ∈ wsX2_place := fun _ h => (List.mem_cons_of_mem _ (List.mem_append_right _ h))
set_option maxHeartbeats 4000000 in
set_option maxRecDepth 100000 in
theorem c_X2_place (cy : Nat → ClassId) (a : Nat → Nat) (n : Nat) (lit : Int32) (h : Nat → Int32) (t : Nat → Int32) (s : Nat → Int32) (g : Nat → Int32) (kn : Nat) (lo : Int32) (lf : Int32) (nm : Nat → Int32) (x : Int32) (y : Int32) (z : Int32)   : kI yX2_place wsX2_place rm_X2_place cy [.ref (a 0), .int x, .int y, .int z] (wSky a cy n lit h t s g kn lo lf nm) (sPlace g x y z) (wSky a cy n lit h t s g kn lo lf nm) := by
  refine kI_of (cc := cX2_place) (maxL := 5) (rt := .int) (by decide) rfl (rfl) (Nat.le_of_ble_eq_true rfl) ?_
  intro X hR C E
  have C : kC X 5 RX2 cX2_place wsX2_place cy := C
  refine k_fr (fr2 := [(0, .ref (a 0)), (1, .int x), (2, .int y), (3, .int z)]) ⟨[0, 1, 2, 3], rfl⟩ ?_
  refine k_iload_n (q := 1) C 1 dX2_place_0 rfl rfl ?_
  refine k_if_ne (tgt := 8) (q := 4) C dX2_place_1 (by decide) rfl ?_ ?_
  · intro c_1
    refine k_aload_n (q := 9) C 0 dX2_place_8 rfl rfl ?_
    refine k_get (q := 12) (ci := 2) (v := .ref (a 4)) C 0 4 in2_X2_place rfl (List.mem_of_getElem? (i := 1) rfl) rfl rfl (by decide) rfl dX2_place_9 rfl ?_
    refine k_iconst (q := 13) (v := 0) C dX2_place_12 (by decide) rfl ?_
    refine k_iald (q := 14) C 4 rfl (vp_in_nI (n := 0) (by decide) (by decide)) dX2_place_13 rfl ?_
    refine k_st (st2 := (.int (g 0) :: _)) (congrArg (fun z => Value.int z :: _) (show g (0 : Int32).toNatClampNeg = g 0 from congrArg g (nI_clamp (n := 0) (by decide)))) ?_
    refine k_istore (q := 16) (fr2 := [(4, .int (g 0)), (0, .ref (a 0)), (1, .int x), (2, .int y), (3, .int z)]) C dX2_place_14 (by decide) rfl rfl ?_
    refine k_iload (q := 18) C 0 dX2_place_16 rfl rfl ?_
    refine k_iload_n (q := 19) C 3 dX2_place_18 rfl rfl ?_
    refine k_iload_n (q := 20) C 4 dX2_place_19 rfl rfl ?_
    refine k_imul (q := 21) C dX2_place_20 rfl ?_
    refine k_bipush (q := 23) (v := 10) C dX2_place_21 (by decide +kernel) rfl ?_
    refine k_idiv (q := 24) C dX2_place_23 (by decide) rfl ?_
    refine k_iadd (q := 25) C dX2_place_24 rfl ?_
    exact k_fin E dX2_place_25 (by simp [sPlace, bI, c_1]) (rfl)
  · intro c_1
    refine k_iconst (q := 5) (v := 0) C dX2_place_4 (by decide) rfl ?_
    refine k_goto (q := 14) C dX2_place_5 (by decide) ?_
    refine k_istore (q := 16) (fr2 := [(4, .int 0), (0, .ref (a 0)), (1, .int x), (2, .int y), (3, .int z)]) C dX2_place_14 (by decide) rfl rfl ?_
    refine k_iload (q := 18) C 0 dX2_place_16 rfl rfl ?_
    refine k_iload_n (q := 19) C 3 dX2_place_18 rfl rfl ?_
    refine k_iload_n (q := 20) C 4 dX2_place_19 rfl rfl ?_
    refine k_imul (q := 21) C dX2_place_20 rfl ?_
    refine k_bipush (q := 23) (v := 10) C dX2_place_21 (by decide +kernel) rfl ?_
    refine k_idiv (q := 24) C dX2_place_23 (by decide) rfl ?_
    refine k_iadd (q := 25) C dX2_place_24 rfl ?_
    exact k_fin E dX2_place_25 (by simp [sPlace, bI, c_1]) (rfl)
abbrev rm_X2_distanceWith : Room := { frames := 1, cells := 0, slots := 0, locals := 24 }
theorem in2_X2_distanceWith : ∀ w ∈ wsX20, w ∈ wsX2_distanceWith := fun _ h => (List.mem_cons_of_mem _ (List.mem_append_right _ h))
set_option maxHeartbeats 4000000 in
set_option maxRecDepth 100000 in
theorem c_X2_distanceWith (cy : Nat → ClassId) (a : Nat → Nat) (n : Nat) (lit : Int32) (h : Nat → Int32) (t : Nat → Int32) (s : Nat → Int32) (g : Nat → Int32) (kn : Nat) (lo : Int32) (lf : Int32) (nm : Nat → Int32) (p : Nat) (x : Int32) (y : Int32)  (hp : p < 6) : kI yX2_distanceWith wsX2_distanceWith rm_X2_distanceWith cy [.ref (a 0), .int (nI p), .int x, .int y] (wSky a cy n lit h t s g kn lo lf nm) (sDist h g p x y) (wSky a cy n lit h t s g kn lo lf nm) := by
  refine kI_of (cc := cX2_distanceWith) (maxL := 4) (rt := .int) (by decide) rfl (rfl) (Nat.le_of_ble_eq_true rfl) ?_
  intro X hR C E
  have C : kC X 4 RX2 cX2_distanceWith wsX2_distanceWith cy := C
  refine k_fr (fr2 := [(0, .ref (a 0)), (1, .int (nI p)), (2, .int x), (3, .int y)]) ⟨[0, 1, 2, 3], rfl⟩ ?_
  refine k_aload_n (q := 1) C 0 dX2_distanceWith_0 rfl rfl ?_
  refine k_iconst (q := 2) (v := 1) C dX2_distanceWith_1 (by decide) rfl ?_
  refine k_iload_n (q := 3) C 3 dX2_distanceWith_2 rfl rfl ?_
  refine k_aload_n (q := 4) C 0 dX2_distanceWith_3 rfl rfl ?_
  refine k_get (q := 7) (ci := 2) (v := .ref (a 1)) C 0 1 in2_X2_distanceWith rfl (List.mem_of_getElem? (i := 1) rfl) rfl rfl (by decide) rfl dX2_distanceWith_4 rfl ?_
  refine k_iload_n (q := 8) C 1 dX2_distanceWith_7 rfl rfl ?_
  refine k_iald (q := 9) C 1 rfl (vp_in_nI (n := p) (by omega) (by decide)) dX2_distanceWith_8 rfl ?_
  refine k_st (st2 := (.int (h p) :: _)) (congrArg (fun z => Value.int z :: _) (show h (nI p).toNatClampNeg = h p from congrArg h (nI_clamp (n := p) (by omega)))) ?_
  refine k_callVI (n := 3) (q := 12) (pre := ([] : va_W)) (post := ([] : va_W)) (w2 := (wSky a cy n lit h t s g kn lo lf nm)) (As := [.int 1, .int y, .int (h p)]) (rest := []) C (c_X2_place cy a n lit h t s g kn lo lf nm 1 y (h p)) gX2_distanceWith_X2_place rfl rfl rfl (by decide +kernel) (k_room hR (by decide)) ⟨Nat.zero_le _, Nat.zero_le _⟩ (ci := 2) rfl 0 rfl rfl rfl (Nat.le_of_ble_eq_true rfl) ((List.append_nil _).symm) (List.append_nil _) dX2_distanceWith_9 rfl ?_
  refine k_aload_n (q := 13) C 0 dX2_distanceWith_12 rfl rfl ?_
  refine k_iconst (q := 14) (v := 0) C dX2_distanceWith_13 (by decide) rfl ?_
  refine k_iload_n (q := 15) C 2 dX2_distanceWith_14 rfl rfl ?_
  refine k_aload_n (q := 16) C 0 dX2_distanceWith_15 rfl rfl ?_
  refine k_get (q := 19) (ci := 2) (v := .ref (a 1)) C 0 1 in2_X2_distanceWith rfl (List.mem_of_getElem? (i := 1) rfl) rfl rfl (by decide) rfl dX2_distanceWith_16 rfl ?_
  refine k_iload_n (q := 20) C 1 dX2_distanceWith_19 rfl rfl ?_
  refine k_iald (q := 21) C 1 rfl (vp_in_nI (n := p) (by omega) (by decide)) dX2_distanceWith_20 rfl ?_
  refine k_st (st2 := (.int (h p) :: _)) (congrArg (fun z => Value.int z :: _) (show h (nI p).toNatClampNeg = h p from congrArg h (nI_clamp (n := p) (by omega)))) ?_
  refine k_callVI (n := 3) (q := 24) (pre := ([] : va_W)) (post := ([] : va_W)) (w2 := (wSky a cy n lit h t s g kn lo lf nm)) (As := [.int 0, .int x, .int (h p)]) (rest := [.int (sPlace g 1 y (h p))]) C (c_X2_place cy a n lit h t s g kn lo lf nm 0 x (h p)) gX2_distanceWith_X2_place rfl rfl rfl (by decide +kernel) (k_room hR (by decide)) ⟨Nat.zero_le _, Nat.zero_le _⟩ (ci := 2) rfl 0 rfl rfl rfl (Nat.le_of_ble_eq_true rfl) ((List.append_nil _).symm) (List.append_nil _) dX2_distanceWith_21 rfl ?_
  refine k_isub (q := 25) C dX2_distanceWith_24 rfl ?_
  exact k_fin E dX2_distanceWith_25 (rfl) (rfl)
abbrev rm_X2_distance : Room := { frames := 2, cells := 0, slots := 0, locals := 47 }
theorem in2_X2_distance : ∀ w ∈ wsX20, w ∈ wsX2_distance := fun _ h => (List.mem_cons_of_mem _ (List.mem_append_right _ h))
set_option maxHeartbeats 4000000 in
set_option maxRecDepth 100000 in
theorem c_X2_distance (cy : Nat → ClassId) (a : Nat → Nat) (n : Nat) (lit : Int32) (h : Nat → Int32) (t : Nat → Int32) (s : Nat → Int32) (g : Nat → Int32) (kn : Nat) (lo : Int32) (lf : Int32) (nm : Nat → Int32) (p : Nat)  (hp : p < 6) : kI yX2_distance wsX2_distance rm_X2_distance cy [.ref (a 0), .int (nI p)] (wSky a cy n lit h t s g kn lo lf nm) (sDist h g p (s 0) (s 1)) (wSky a cy n lit h t s g kn lo lf nm) := by
  refine kI_of (cc := cX2_distance) (maxL := 2) (rt := .int) (by decide) rfl (rfl) (Nat.le_of_ble_eq_true rfl) ?_
  intro X hR C E
  have C : kC X 2 RX2 cX2_distance wsX2_distance cy := C
  refine k_fr (fr2 := [(0, .ref (a 0)), (1, .int (nI p))]) ⟨[0, 1], rfl⟩ ?_
  refine k_aload_n (q := 1) C 0 dX2_distance_0 rfl rfl ?_
  refine k_iload_n (q := 2) C 1 dX2_distance_1 rfl rfl ?_
  refine k_aload_n (q := 3) C 0 dX2_distance_2 rfl rfl ?_
  refine k_get (q := 6) (ci := 2) (v := .ref (a 3)) C 0 3 in2_X2_distance rfl (List.mem_of_getElem? (i := 1) rfl) rfl rfl (by decide) rfl dX2_distance_3 rfl ?_
  refine k_iconst (q := 7) (v := 0) C dX2_distance_6 (by decide) rfl ?_
  refine k_iald (q := 8) C 3 rfl (vp_in_nI (n := 0) (by decide) (by decide)) dX2_distance_7 rfl ?_
  refine k_st (st2 := (.int (s 0) :: _)) (congrArg (fun z => Value.int z :: _) (show s (0 : Int32).toNatClampNeg = s 0 from congrArg s (nI_clamp (n := 0) (by decide)))) ?_
  refine k_aload_n (q := 9) C 0 dX2_distance_8 rfl rfl ?_
  refine k_get (q := 12) (ci := 2) (v := .ref (a 3)) C 0 3 in2_X2_distance rfl (List.mem_of_getElem? (i := 1) rfl) rfl rfl (by decide) rfl dX2_distance_9 rfl ?_
  refine k_iconst (q := 13) (v := 1) C dX2_distance_12 (by decide) rfl ?_
  refine k_iald (q := 14) C 3 rfl (vp_in_nI (n := 1) (by decide) (by decide)) dX2_distance_13 rfl ?_
  refine k_st (st2 := (.int (s 1) :: _)) (congrArg (fun z => Value.int z :: _) (show s (1 : Int32).toNatClampNeg = s 1 from congrArg s (nI_clamp (n := 1) (by decide)))) ?_
  refine k_callVI (n := 3) (q := 17) (pre := ([] : va_W)) (post := ([] : va_W)) (w2 := (wSky a cy n lit h t s g kn lo lf nm)) (As := [.int (nI p), .int (s 0), .int (s 1)]) (rest := []) C (c_X2_distanceWith cy a n lit h t s g kn lo lf nm p (s 0) (s 1) (by omega)) gX2_distance_X2_distanceWith rfl rfl rfl (by decide +kernel) (k_room hR (by decide)) ⟨Nat.zero_le _, Nat.zero_le _⟩ (ci := 2) rfl 0 rfl rfl rfl (Nat.le_of_ble_eq_true rfl) ((List.append_nil _).symm) (List.append_nil _) dX2_distance_14 rfl ?_
  exact k_fin E dX2_distance_17 (rfl) (rfl)
abbrev rm_X2_meetingHeight : Room := { frames := 0, cells := 0, slots := 0, locals := 0 }
theorem in2_X2_meetingHeight : ∀ w ∈ wsX20, w ∈ wsX2_meetingHeight := fun _ h => (List.mem_cons_of_mem _ (List.mem_append_right _ h))
set_option maxHeartbeats 4000000 in
set_option maxRecDepth 100000 in
theorem c_X2_meetingHeight (cy : Nat → ClassId) (a : Nat → Nat) (n : Nat) (lit : Int32) (h : Nat → Int32) (t : Nat → Int32) (s : Nat → Int32) (g : Nat → Int32) (kn : Nat) (lo : Int32) (lf : Int32) (nm : Nat → Int32) (x : Int32) (y : Int32)   : kI yX2_meetingHeight wsX2_meetingHeight rm_X2_meetingHeight cy [.ref (a 0), .int x, .int y] (wSky a cy n lit h t s g kn lo lf nm) (sMeet g x y) (wSky a cy n lit h t s g kn lo lf nm) := by
  refine kI_of (cc := cX2_meetingHeight) (maxL := 3) (rt := .int) (by decide) rfl (rfl) (Nat.le_of_ble_eq_true rfl) ?_
  intro X hR C E
  have C : kC X 3 RX2 cX2_meetingHeight wsX2_meetingHeight cy := C
  refine k_fr (fr2 := [(0, .ref (a 0)), (1, .int x), (2, .int y)]) ⟨[0, 1, 2], rfl⟩ ?_
  refine k_iload_n (q := 1) C 1 dX2_meetingHeight_0 rfl rfl ?_
  refine k_iload_n (q := 2) C 2 dX2_meetingHeight_1 rfl rfl ?_
  refine k_icmp_le (tgt := 21) (q := 5) C dX2_meetingHeight_2 (by decide) rfl ?_ ?_
  · intro c_2
    refine k_ldc (q := 23) (v := -99999) C (List.mem_of_getElem? (i := 2) rfl) dX2_meetingHeight_21 rfl ?_
    exact k_fin E dX2_meetingHeight_23 (by first | exact (if_pos (Int32.not_le.mp c_2)).symm | exact (if_neg (not_lt_of_le32 c_2)).symm) (rfl)
  · intro c_2
    refine k_bipush (q := 7) (v := 10) C dX2_meetingHeight_5 (by decide +kernel) rfl ?_
    refine k_aload_n (q := 8) C 0 dX2_meetingHeight_7 rfl rfl ?_
    refine k_get (q := 11) (ci := 2) (v := .ref (a 4)) C 0 4 in2_X2_meetingHeight rfl (List.mem_of_getElem? (i := 1) rfl) rfl rfl (by decide) rfl dX2_meetingHeight_8 rfl ?_
    refine k_iconst (q := 12) (v := 0) C dX2_meetingHeight_11 (by decide) rfl ?_
    refine k_iald (q := 13) C 4 rfl (vp_in_nI (n := 0) (by decide) (by decide)) dX2_meetingHeight_12 rfl ?_
    refine k_st (st2 := (.int (g 0) :: _)) (congrArg (fun z => Value.int z :: _) (show g (0 : Int32).toNatClampNeg = g 0 from congrArg g (nI_clamp (n := 0) (by decide)))) ?_
    refine k_imul (q := 14) C dX2_meetingHeight_13 rfl ?_
    refine k_iload_n (q := 15) C 1 dX2_meetingHeight_14 rfl rfl ?_
    refine k_iload_n (q := 16) C 2 dX2_meetingHeight_15 rfl rfl ?_
    refine k_isub (q := 17) C dX2_meetingHeight_16 rfl ?_
    refine k_idiv (q := 18) C dX2_meetingHeight_17 (k_ne_sub (Int32.not_le.mp c_2)) rfl ?_
    refine k_goto (q := 23) C dX2_meetingHeight_18 (by decide) ?_
    exact k_fin E dX2_meetingHeight_23 (by first | exact (if_pos (Int32.not_le.mp c_2)).symm | exact (if_neg (not_lt_of_le32 c_2)).symm) (rfl)
abbrev rm_X2_throughHaze : Room := { frames := 0, cells := 0, slots := 0, locals := 0 }
set_option maxHeartbeats 4000000 in
set_option maxRecDepth 100000 in
theorem c_X2_throughHaze {cy : Nat → ClassId} (x : Int32) (y : Int32) (z : Int32)   : kI yX2_throughHaze wsX2_throughHaze rm_X2_throughHaze cy [.int x, .int y, .int z] ([] : va_W) (sHaze x y z) ([] : va_W) := by
  refine kI_of (cc := cX2_throughHaze) (maxL := 5) (rt := .int) (by decide) rfl (rfl) (Nat.le_of_ble_eq_true rfl) ?_
  intro X hR C E
  have C : kC X 5 RX2 cX2_throughHaze wsX2_throughHaze cy := C
  refine k_fr (fr2 := [(0, .int x), (1, .int y), (2, .int z)]) ⟨[0, 1, 2], rfl⟩ ?_
  refine k_iload_n (q := 1) C 0 dX2_throughHaze_0 rfl rfl ?_
  refine k_i2l (q := 2) C dX2_throughHaze_1 rfl ?_
  refine k_iload_n (q := 3) C 1 dX2_throughHaze_2 rfl rfl ?_
  refine k_i2l (q := 4) C dX2_throughHaze_3 rfl ?_
  refine k_lmul (q := 5) C dX2_throughHaze_4 rfl ?_
  refine k_iload_n (q := 6) C 2 dX2_throughHaze_5 rfl rfl ?_
  refine k_i2l (q := 7) C dX2_throughHaze_6 rfl ?_
  refine k_lmul (q := 8) C dX2_throughHaze_7 rfl ?_
  refine k_ldc2 (q := 11) (v := 10000000) C (List.mem_of_getElem? (i := 1) rfl) dX2_throughHaze_8 rfl ?_
  refine k_ldiv (q := 12) C dX2_throughHaze_11 (by decide) rfl ?_
  refine k_lstore_n (q := 13) (fr2 := [(3, .long (((x.toInt64 * y.toInt64) * z.toInt64) / 10000000)), (0, .int x), (1, .int y), (2, .int z)]) C dX2_throughHaze_12 (by decide) rfl rfl ?_
  refine k_lload_n (q := 14) C 0 dX2_throughHaze_13 rfl rfl ?_
  refine k_iload_n (q := 15) C 1 dX2_throughHaze_14 rfl rfl ?_
  refine k_i2l (q := 16) C dX2_throughHaze_15 rfl ?_
  refine k_lcmp (q := 17) C dX2_throughHaze_16 rfl ?_
  refine k_if_ge (tgt := 27) (q := 20) C dX2_throughHaze_17 (by decide) rfl ?_ ?_
  · intro c_17
    refine k_iconst (q := 28) (v := 0) C dX2_throughHaze_27 (by decide) rfl ?_
    exact k_fin E dX2_throughHaze_28 (by first | exact (if_pos (lc_lt.mp c_17)).symm | exact (if_neg (fun q => lc_lt.mpr q c_17)).symm) (rfl)
  · intro c_17
    refine k_iload_n (q := 21) C 1 dX2_throughHaze_20 rfl rfl ?_
    refine k_lload_n (q := 22) C 0 dX2_throughHaze_21 rfl rfl ?_
    refine k_l2i (q := 23) C dX2_throughHaze_22 rfl ?_
    refine k_isub (q := 24) C dX2_throughHaze_23 rfl ?_
    refine k_goto (q := 28) C dX2_throughHaze_24 (by decide) ?_
    exact k_fin E dX2_throughHaze_28 (by first | exact (if_pos (lc_lt.mp c_17)).symm | exact (if_neg (fun q => lc_lt.mpr q c_17)).symm) (rfl)
abbrev rm_X2_brightness : Room := { frames := 0, cells := 0, slots := 0, locals := 0 }
set_option maxHeartbeats 4000000 in
set_option maxRecDepth 100000 in
theorem c_X2_brightness {cy : Nat → ClassId} (x : Int32) (y : Int32)   : kI yX2_brightness wsX2_brightness rm_X2_brightness cy [.int x, .int y] ([] : va_W) (sBri x y) ([] : va_W) := by
  refine kI_of (cc := cX2_brightness) (maxL := 2) (rt := .int) (by decide) rfl (rfl) (Nat.le_of_ble_eq_true rfl) ?_
  intro X hR C E
  have C : kC X 2 RX2 cX2_brightness wsX2_brightness cy := C
  refine k_fr (fr2 := [(0, .int x), (1, .int y)]) ⟨[0, 1], rfl⟩ ?_
  refine k_iload_n (q := 1) C 0 dX2_brightness_0 rfl rfl ?_
  refine k_iload_n (q := 2) C 1 dX2_brightness_1 rfl rfl ?_
  refine k_imul (q := 3) C dX2_brightness_2 rfl ?_
  refine k_bipush (q := 5) (v := 100) C dX2_brightness_3 (by decide +kernel) rfl ?_
  refine k_idiv (q := 6) C dX2_brightness_5 (by decide) rfl ?_
  exact k_fin E dX2_brightness_6 (rfl) (rfl)
abbrev rm_X2_strengthAt : Room := { frames := 1, cells := 0, slots := 0, locals := 24 }
theorem in2_X2_strengthAt : ∀ w ∈ wsX20, w ∈ wsX2_strengthAt := fun _ h => (List.mem_cons_of_mem _ (List.mem_append_right _ h))
set_option maxHeartbeats 4000000 in
set_option maxRecDepth 100000 in
theorem lp_X2_strengthAt_9 (cy : Nat → ClassId) (a : Nat → Nat) (n : Nat) (lit : Int32) (h : Nat → Int32) (t : Nat → Int32) (s : Nat → Int32) (g : Nat → Int32) (kn : Nat) (lo : Int32) (lf : Int32) (nm : Nat → Int32) (p : Nat)  (hp : p < 6) (X : kX) (hR : xR X = rm_X2_strengthAt) (C : kC X 5 RX2 cX2_strengthAt wsX2_strengthAt cy) (E : kEnd X 5 cX2_strengthAt (sCo h t (g 1) p) (wSky a cy n lit h t s g kn lo lf nm)) : ∀ (fu : Nat) (i : Nat), p - i < fu → (i ≤ p) → kG X 5 0 0 (wSky a cy n lit h t s g kn lo lf nm) 9 [(0, .ref (a 0)), (1, .int (nI p)), (2, .int (sGo h t (g 1) i)), (3, .int (sLow h i)), (4, .int (nI i))] [] := by
  intro fu
  induction fu with
  | zero => intro i hfu; exact absurd hfu (Nat.not_lt_zero _)
  | succ fu ih =>
    intro i hfu h2
    refine k_iload (q := 11) C 4 dX2_strengthAt_9 rfl rfl ?_
    refine k_iload_n (q := 12) C 1 dX2_strengthAt_11 rfl rfl ?_
    refine k_nicmp_ge (a := i) (b := p)  (tgt := 63) (q := 15) C dX2_strengthAt_12 (by decide) rfl (by omega) (by omega) ?_ ?_
    · intro c_12
      obtain rfl : p = i := by omega
      refine k_iload_n (q := 64) C 2 dX2_strengthAt_63 rfl rfl ?_
      refine k_aload_n (q := 65) C 0 dX2_strengthAt_64 rfl rfl ?_
      refine k_get (q := 68) (ci := 2) (v := .ref (a 4)) C 0 4 in2_X2_strengthAt rfl (List.mem_of_getElem? (i := 1) rfl) rfl rfl (by decide) rfl dX2_strengthAt_65 rfl ?_
      refine k_iconst (q := 69) (v := 1) C dX2_strengthAt_68 (by decide) rfl ?_
      refine k_iald (q := 70) C 4 rfl (vp_in_nI (n := 1) (by decide) (by decide)) dX2_strengthAt_69 rfl ?_
      refine k_st (st2 := (.int (g 1) :: _)) (congrArg (fun z => Value.int z :: _) (show g (1 : Int32).toNatClampNeg = g 1 from congrArg g (nI_clamp (n := 1) (by decide)))) ?_
      refine k_aload_n (q := 71) C 0 dX2_strengthAt_70 rfl rfl ?_
      refine k_get (q := 74) (ci := 2) (v := .ref (a 1)) C 0 1 in2_X2_strengthAt rfl (List.mem_of_getElem? (i := 2) rfl) rfl rfl (by decide) rfl dX2_strengthAt_71 rfl ?_
      refine k_iload_n (q := 75) C 1 dX2_strengthAt_74 rfl rfl ?_
      refine k_iald (q := 76) C 1 rfl (vp_in_nI (n := p) (by omega) (by decide)) dX2_strengthAt_75 rfl ?_
      refine k_st (st2 := (.int (h p) :: _)) (congrArg (fun z => Value.int z :: _) (show h (nI p).toNatClampNeg = h p from congrArg h (nI_clamp (n := p) (by omega)))) ?_
      refine k_iload_n (q := 77) C 3 dX2_strengthAt_76 rfl rfl ?_
      refine k_isub (q := 78) C dX2_strengthAt_77 rfl ?_
      refine k_callSI (n := 3) (q := 81) (pre := ([] : va_W)) (post := (wSky a cy n lit h t s g kn lo lf nm)) (w2 := (wSky a cy n lit h t s g kn lo lf nm)) (As := [.int (sGo h t (g 1) p), .int (g 1), .int ((h p) - (sLow h p))]) (rest := []) C (c_X2_throughHaze (sGo h t (g 1) p) (g 1) ((h p) - (sLow h p))) gX2_strengthAt_X2_throughHaze rfl rfl rfl (by decide +kernel) (k_room hR (by decide)) ⟨Nat.zero_le _, Nat.zero_le _⟩  rfl rfl (Nat.le_of_ble_eq_true rfl) (rfl) (rfl) dX2_strengthAt_78 rfl ?_
      exact k_fin E dX2_strengthAt_81 (rfl) (rfl)
    · intro c_12
      refine k_iload_n (q := 16) C 2 dX2_strengthAt_15 rfl rfl ?_
      refine k_aload_n (q := 17) C 0 dX2_strengthAt_16 rfl rfl ?_
      refine k_get (q := 20) (ci := 2) (v := .ref (a 4)) C 0 4 in2_X2_strengthAt rfl (List.mem_of_getElem? (i := 1) rfl) rfl rfl (by decide) rfl dX2_strengthAt_17 rfl ?_
      refine k_iconst (q := 21) (v := 1) C dX2_strengthAt_20 (by decide) rfl ?_
      refine k_iald (q := 22) C 4 rfl (vp_in_nI (n := 1) (by decide) (by decide)) dX2_strengthAt_21 rfl ?_
      refine k_st (st2 := (.int (g 1) :: _)) (congrArg (fun z => Value.int z :: _) (show g (1 : Int32).toNatClampNeg = g 1 from congrArg g (nI_clamp (n := 1) (by decide)))) ?_
      refine k_aload_n (q := 23) C 0 dX2_strengthAt_22 rfl rfl ?_
      refine k_get (q := 26) (ci := 2) (v := .ref (a 1)) C 0 1 in2_X2_strengthAt rfl (List.mem_of_getElem? (i := 2) rfl) rfl rfl (by decide) rfl dX2_strengthAt_23 rfl ?_
      refine k_iload (q := 28) C 4 dX2_strengthAt_26 rfl rfl ?_
      refine k_iald (q := 29) C 1 rfl (vp_in_nI (n := i) (by omega) (by decide)) dX2_strengthAt_28 rfl ?_
      refine k_st (st2 := (.int (h i) :: _)) (congrArg (fun z => Value.int z :: _) (show h (nI i).toNatClampNeg = h i from congrArg h (nI_clamp (n := i) (by omega)))) ?_
      refine k_iload_n (q := 30) C 3 dX2_strengthAt_29 rfl rfl ?_
      refine k_isub (q := 31) C dX2_strengthAt_30 rfl ?_
      refine k_callSI (n := 3) (q := 34) (pre := ([] : va_W)) (post := (wSky a cy n lit h t s g kn lo lf nm)) (w2 := (wSky a cy n lit h t s g kn lo lf nm)) (As := [.int (sGo h t (g 1) i), .int (g 1), .int ((h i) - (sLow h i))]) (rest := []) C (c_X2_throughHaze (sGo h t (g 1) i) (g 1) ((h i) - (sLow h i))) gX2_strengthAt_X2_throughHaze rfl rfl rfl (by decide +kernel) (k_room hR (by decide)) ⟨Nat.zero_le _, Nat.zero_le _⟩  rfl rfl (Nat.le_of_ble_eq_true rfl) (rfl) (rfl) dX2_strengthAt_31 rfl ?_
      refine k_istore_n (q := 35) (fr2 := [(2, .int (sHaze (sGo h t (g 1) i) (g 1) ((h i) - (sLow h i)))), (0, .ref (a 0)), (1, .int (nI p)), (3, .int (sLow h i)), (4, .int (nI i))]) C dX2_strengthAt_34 (by decide) rfl rfl ?_
      refine k_iload_n (q := 36) C 0 dX2_strengthAt_35 rfl rfl ?_
      refine k_iload_n (q := 37) C 0 dX2_strengthAt_36 rfl rfl ?_
      refine k_aload_n (q := 38) C 1 dX2_strengthAt_37 rfl rfl ?_
      refine k_get (q := 41) (ci := 2) (v := .ref (a 2)) C 0 2 in2_X2_strengthAt rfl (List.mem_of_getElem? (i := 3) rfl) rfl rfl (by decide) rfl dX2_strengthAt_38 rfl ?_
      refine k_iload (q := 43) C 4 dX2_strengthAt_41 rfl rfl ?_
      refine k_iald (q := 44) C 2 rfl (vp_in_nI (n := i) (by omega) (by decide)) dX2_strengthAt_43 rfl ?_
      refine k_st (st2 := (.int (t i) :: _)) (congrArg (fun z => Value.int z :: _) (show t (nI i).toNatClampNeg = t i from congrArg t (nI_clamp (n := i) (by omega)))) ?_
      refine k_callSI (n := 2) (q := 47) (pre := ([] : va_W)) (post := (wSky a cy n lit h t s g kn lo lf nm)) (w2 := (wSky a cy n lit h t s g kn lo lf nm)) (As := [.int (sHaze (sGo h t (g 1) i) (g 1) ((h i) - (sLow h i))), .int (t i)]) (rest := [.int (sHaze (sGo h t (g 1) i) (g 1) ((h i) - (sLow h i)))]) C (c_X2_brightness (sHaze (sGo h t (g 1) i) (g 1) ((h i) - (sLow h i))) (t i)) gX2_strengthAt_X2_brightness rfl rfl rfl (by decide +kernel) (k_room hR (by decide)) ⟨Nat.zero_le _, Nat.zero_le _⟩  rfl rfl (Nat.le_of_ble_eq_true rfl) (rfl) (rfl) dX2_strengthAt_44 rfl ?_
      refine k_isub (q := 48) C dX2_strengthAt_47 rfl ?_
      refine k_istore_n (q := 49) (fr2 := [(2, .int ((sHaze (sGo h t (g 1) i) (g 1) ((h i) - (sLow h i))) - (sBri (sHaze (sGo h t (g 1) i) (g 1) ((h i) - (sLow h i))) (t i)))), (0, .ref (a 0)), (1, .int (nI p)), (3, .int (sLow h i)), (4, .int (nI i))]) C dX2_strengthAt_48 (by decide) rfl rfl ?_
      refine k_aload_n (q := 50) C 1 dX2_strengthAt_49 rfl rfl ?_
      refine k_get (q := 53) (ci := 2) (v := .ref (a 1)) C 0 1 in2_X2_strengthAt rfl (List.mem_of_getElem? (i := 2) rfl) rfl rfl (by decide) rfl dX2_strengthAt_50 rfl ?_
      refine k_iload (q := 55) C 4 dX2_strengthAt_53 rfl rfl ?_
      refine k_iald (q := 56) C 1 rfl (vp_in_nI (n := i) (by omega) (by decide)) dX2_strengthAt_55 rfl ?_
      refine k_st (st2 := (.int (h i) :: _)) (congrArg (fun z => Value.int z :: _) (show h (nI i).toNatClampNeg = h i from congrArg h (nI_clamp (n := i) (by omega)))) ?_
      refine k_istore_n (q := 57) (fr2 := [(3, .int (h i)), (2, .int ((sHaze (sGo h t (g 1) i) (g 1) ((h i) - (sLow h i))) - (sBri (sHaze (sGo h t (g 1) i) (g 1) ((h i) - (sLow h i))) (t i)))), (0, .ref (a 0)), (1, .int (nI p)), (4, .int (nI i))]) C dX2_strengthAt_56 (by decide) rfl rfl ?_
      refine k_iinc (q := 60) (v := nI (i + 1)) (fr2 := [(4, .int (nI (i + 1))), (3, .int (h i)), (2, .int ((sHaze (sGo h t (g 1) i) (g 1) ((h i) - (sLow h i))) - (sBri (sHaze (sGo h t (g 1) i) (g 1) ((h i) - (sLow h i))) (t i)))), (0, .ref (a 0)), (1, .int (nI p))]) C 4 dX2_strengthAt_57 rfl (nI_add i 1) (by decide) rfl rfl ?_
      refine k_goto (q := 9) C dX2_strengthAt_60 (by decide) ?_
      refine k_fr (fr2 := [(0, .ref (a 0)), (1, .int (nI p)), (2, .int ((sHaze (sGo h t (g 1) i) (g 1) ((h i) - (sLow h i))) - (sBri (sHaze (sGo h t (g 1) i) (g 1) ((h i) - (sLow h i))) (t i)))), (3, .int (h i)), (4, .int (nI (i + 1)))]) ⟨[3, 4, 2, 1, 0], rfl⟩ ?_
      exact ih (i + 1) (by omega) (by omega)
set_option maxHeartbeats 4000000 in
set_option maxRecDepth 100000 in
theorem c_X2_strengthAt (cy : Nat → ClassId) (a : Nat → Nat) (n : Nat) (lit : Int32) (h : Nat → Int32) (t : Nat → Int32) (s : Nat → Int32) (g : Nat → Int32) (kn : Nat) (lo : Int32) (lf : Int32) (nm : Nat → Int32) (p : Nat)  (hp : p < 6) : kI yX2_strengthAt wsX2_strengthAt rm_X2_strengthAt cy [.ref (a 0), .int (nI p)] (wSky a cy n lit h t s g kn lo lf nm) (sCo h t (g 1) p) (wSky a cy n lit h t s g kn lo lf nm) := by
  refine kI_of (cc := cX2_strengthAt) (maxL := 5) (rt := .int) (by decide) rfl (rfl) (Nat.le_of_ble_eq_true rfl) ?_
  intro X hR C E
  have C : kC X 5 RX2 cX2_strengthAt wsX2_strengthAt cy := C
  refine k_fr (fr2 := [(0, .ref (a 0)), (1, .int (nI p))]) ⟨[0, 1], rfl⟩ ?_
  refine k_sipush (q := 3) (v := 1000) C dX2_strengthAt_0 (by decide +kernel) rfl ?_
  refine k_istore_n (q := 4) (fr2 := [(2, .int 1000), (0, .ref (a 0)), (1, .int (nI p))]) C dX2_strengthAt_3 (by decide) rfl rfl ?_
  refine k_iconst (q := 5) (v := 0) C dX2_strengthAt_4 (by decide) rfl ?_
  refine k_istore_n (q := 6) (fr2 := [(3, .int 0), (2, .int 1000), (0, .ref (a 0)), (1, .int (nI p))]) C dX2_strengthAt_5 (by decide) rfl rfl ?_
  refine k_iconst (q := 7) (v := 0) C dX2_strengthAt_6 (by decide) rfl ?_
  refine k_istore (q := 9) (fr2 := [(4, .int 0), (3, .int 0), (2, .int 1000), (0, .ref (a 0)), (1, .int (nI p))]) C dX2_strengthAt_7 (by decide) rfl rfl ?_
  refine k_fr (fr2 := [(0, .ref (a 0)), (1, .int (nI p)), (2, .int 1000), (3, .int 0), (4, .int 0)]) ⟨[3, 4, 2, 1, 0], rfl⟩ ?_
  exact lp_X2_strengthAt_9 cy a n lit h t s g kn lo lf nm p hp X hR C E _ 0 (Nat.lt_succ_self _) (by omega)
abbrev rm_X2_seenLayers : Room := { frames := 1, cells := 0, slots := 0, locals := 24 }
theorem in2_X2_seenLayers : ∀ w ∈ wsX20, w ∈ wsX2_seenLayers := fun _ h => (List.mem_cons_of_mem _ (List.mem_append_right _ h))
set_option maxHeartbeats 4000000 in
set_option maxRecDepth 100000 in
theorem lp_X2_seenLayers_12 (cy : Nat → ClassId) (a : Nat → Nat) (n : Nat) (lit : Int32) (h : Nat → Int32) (t : Nat → Int32) (s : Nat → Int32) (g : Nat → Int32) (kn : Nat) (lo : Int32) (lf : Int32) (nm : Nat → Int32) (x : Int32)  (hn : n ≤ 6) (X : kX) (hR : xR X = rm_X2_seenLayers) (C : kC X 7 RX2 cX2_seenLayers wsX2_seenLayers cy) (E : kEnd X 7 cX2_seenLayers (nI (sMask h t g x n)) (wSky a cy n lit h t s g kn lo lf nm)) : ∀ (fu : Nat) (i : Nat), n - i < fu → (i ≤ n) → kG X 7 0 0 (wSky a cy n lit h t s g kn lo lf nm) 12 [(0, .ref (a 0)), (1, .int x), (2, .int (sGo h t x i)), (3, .int (sLow h i)), (4, .int (nI (sMask h t g x i))), (5, .int (nI i))] [] := by
  intro fu
  induction fu with
  | zero => intro i hfu; exact absurd hfu (Nat.not_lt_zero _)
  | succ fu ih =>
    intro i hfu h2
    refine k_iload (q := 14) C 5 dX2_seenLayers_12 rfl rfl ?_
    refine k_aload_n (q := 15) C 0 dX2_seenLayers_14 rfl rfl ?_
    refine k_get (q := 18) (ci := 2) (v := .int (nI n)) C 0 0 in2_X2_seenLayers rfl (List.mem_of_getElem? (i := 1) rfl) rfl rfl (by decide) rfl dX2_seenLayers_15 rfl ?_
    refine k_nicmp_ge (a := i) (b := n)  (tgt := 88) (q := 21) C dX2_seenLayers_18 (by decide) rfl (by omega) (by omega) ?_ ?_
    · intro c_18
      obtain rfl : n = i := by omega
      refine k_iload (q := 90) C 4 dX2_seenLayers_88 rfl rfl ?_
      exact k_fin E dX2_seenLayers_90 (rfl) (rfl)
    · intro c_18
      refine k_iload_n (q := 22) C 2 dX2_seenLayers_21 rfl rfl ?_
      refine k_iload_n (q := 23) C 1 dX2_seenLayers_22 rfl rfl ?_
      refine k_aload_n (q := 24) C 0 dX2_seenLayers_23 rfl rfl ?_
      refine k_get (q := 27) (ci := 2) (v := .ref (a 1)) C 0 1 in2_X2_seenLayers rfl (List.mem_of_getElem? (i := 2) rfl) rfl rfl (by decide) rfl dX2_seenLayers_24 rfl ?_
      refine k_iload (q := 29) C 5 dX2_seenLayers_27 rfl rfl ?_
      refine k_iald (q := 30) C 1 rfl (vp_in_nI (n := i) (by omega) (by decide)) dX2_seenLayers_29 rfl ?_
      refine k_st (st2 := (.int (h i) :: _)) (congrArg (fun z => Value.int z :: _) (show h (nI i).toNatClampNeg = h i from congrArg h (nI_clamp (n := i) (by omega)))) ?_
      refine k_iload_n (q := 31) C 3 dX2_seenLayers_30 rfl rfl ?_
      refine k_isub (q := 32) C dX2_seenLayers_31 rfl ?_
      refine k_callSI (n := 3) (q := 35) (pre := ([] : va_W)) (post := (wSky a cy n lit h t s g kn lo lf nm)) (w2 := (wSky a cy n lit h t s g kn lo lf nm)) (As := [.int (sGo h t x i), .int x, .int ((h i) - (sLow h i))]) (rest := []) C (c_X2_throughHaze (sGo h t x i) x ((h i) - (sLow h i))) gX2_seenLayers_X2_throughHaze rfl rfl rfl (by decide +kernel) (k_room hR (by decide)) ⟨Nat.zero_le _, Nat.zero_le _⟩  rfl rfl (Nat.le_of_ble_eq_true rfl) (rfl) (rfl) dX2_seenLayers_32 rfl ?_
      refine k_istore_n (q := 36) (fr2 := [(2, .int (sHaze (sGo h t x i) x ((h i) - (sLow h i)))), (0, .ref (a 0)), (1, .int x), (3, .int (sLow h i)), (4, .int (nI (sMask h t g x i))), (5, .int (nI i))]) C dX2_seenLayers_35 (by decide) rfl rfl ?_
      refine k_iload_n (q := 37) C 0 dX2_seenLayers_36 rfl rfl ?_
      refine k_aload_n (q := 38) C 1 dX2_seenLayers_37 rfl rfl ?_
      refine k_get (q := 41) (ci := 2) (v := .ref (a 2)) C 0 2 in2_X2_seenLayers rfl (List.mem_of_getElem? (i := 3) rfl) rfl rfl (by decide) rfl dX2_seenLayers_38 rfl ?_
      refine k_iload (q := 43) C 5 dX2_seenLayers_41 rfl rfl ?_
      refine k_iald (q := 44) C 2 rfl (vp_in_nI (n := i) (by omega) (by decide)) dX2_seenLayers_43 rfl ?_
      refine k_st (st2 := (.int (t i) :: _)) (congrArg (fun z => Value.int z :: _) (show t (nI i).toNatClampNeg = t i from congrArg t (nI_clamp (n := i) (by omega)))) ?_
      refine k_callSI (n := 2) (q := 47) (pre := ([] : va_W)) (post := (wSky a cy n lit h t s g kn lo lf nm)) (w2 := (wSky a cy n lit h t s g kn lo lf nm)) (As := [.int (sHaze (sGo h t x i) x ((h i) - (sLow h i))), .int (t i)]) (rest := []) C (c_X2_brightness (sHaze (sGo h t x i) x ((h i) - (sLow h i))) (t i)) gX2_seenLayers_X2_brightness rfl rfl rfl (by decide +kernel) (k_room hR (by decide)) ⟨Nat.zero_le _, Nat.zero_le _⟩  rfl rfl (Nat.le_of_ble_eq_true rfl) (rfl) (rfl) dX2_seenLayers_44 rfl ?_
      refine k_istore (q := 49) (fr2 := [(6, .int (sBri (sHaze (sGo h t x i) x ((h i) - (sLow h i))) (t i))), (2, .int (sHaze (sGo h t x i) x ((h i) - (sLow h i)))), (0, .ref (a 0)), (1, .int x), (3, .int (sLow h i)), (4, .int (nI (sMask h t g x i))), (5, .int (nI i))]) C dX2_seenLayers_47 (by decide) rfl rfl ?_
      refine k_iload (q := 51) C 0 dX2_seenLayers_49 rfl rfl ?_
      refine k_aload_n (q := 52) C 2 dX2_seenLayers_51 rfl rfl ?_
      refine k_get (q := 55) (ci := 2) (v := .ref (a 4)) C 0 4 in2_X2_seenLayers rfl (List.mem_of_getElem? (i := 4) rfl) rfl rfl (by decide) rfl dX2_seenLayers_52 rfl ?_
      refine k_iconst (q := 56) (v := 2) C dX2_seenLayers_55 (by decide) rfl ?_
      refine k_iald (q := 57) C 4 rfl (vp_in_nI (n := 2) (by decide) (by decide)) dX2_seenLayers_56 rfl ?_
      refine k_st (st2 := (.int (g 2) :: _)) (congrArg (fun z => Value.int z :: _) (show g (2 : Int32).toNatClampNeg = g 2 from congrArg g (nI_clamp (n := 2) (by decide)))) ?_
      refine k_icmp_lt (tgt := 69) (q := 60) C dX2_seenLayers_57 (by decide) rfl ?_ ?_
      · intro c_57
        refine k_iload_n (q := 70) C 1 dX2_seenLayers_69 rfl rfl ?_
        refine k_iload (q := 72) C 0 dX2_seenLayers_70 rfl rfl ?_
        refine k_isub (q := 73) C dX2_seenLayers_72 rfl ?_
        refine k_istore_n (q := 74) (fr2 := [(2, .int ((sHaze (sGo h t x i) x ((h i) - (sLow h i))) - (sBri (sHaze (sGo h t x i) x ((h i) - (sLow h i))) (t i)))), (6, .int (sBri (sHaze (sGo h t x i) x ((h i) - (sLow h i))) (t i))), (0, .ref (a 0)), (1, .int x), (3, .int (sLow h i)), (4, .int (nI (sMask h t g x i))), (5, .int (nI i))]) C dX2_seenLayers_73 (by decide) rfl rfl ?_
        refine k_aload_n (q := 75) C 2 dX2_seenLayers_74 rfl rfl ?_
        refine k_get (q := 78) (ci := 2) (v := .ref (a 1)) C 0 1 in2_X2_seenLayers rfl (List.mem_of_getElem? (i := 2) rfl) rfl rfl (by decide) rfl dX2_seenLayers_75 rfl ?_
        refine k_iload (q := 80) C 6 dX2_seenLayers_78 rfl rfl ?_
        refine k_iald (q := 81) C 1 rfl (vp_in_nI (n := i) (by omega) (by decide)) dX2_seenLayers_80 rfl ?_
        refine k_st (st2 := (.int (h i) :: _)) (congrArg (fun z => Value.int z :: _) (show h (nI i).toNatClampNeg = h i from congrArg h (nI_clamp (n := i) (by omega)))) ?_
        refine k_istore_n (q := 82) (fr2 := [(3, .int (h i)), (2, .int ((sHaze (sGo h t x i) x ((h i) - (sLow h i))) - (sBri (sHaze (sGo h t x i) x ((h i) - (sLow h i))) (t i)))), (6, .int (sBri (sHaze (sGo h t x i) x ((h i) - (sLow h i))) (t i))), (0, .ref (a 0)), (1, .int x), (4, .int (nI (sMask h t g x i))), (5, .int (nI i))]) C dX2_seenLayers_81 (by decide) rfl rfl ?_
        refine k_iinc (q := 85) (v := nI (i + 1)) (fr2 := [(5, .int (nI (i + 1))), (3, .int (h i)), (2, .int ((sHaze (sGo h t x i) x ((h i) - (sLow h i))) - (sBri (sHaze (sGo h t x i) x ((h i) - (sLow h i))) (t i)))), (6, .int (sBri (sHaze (sGo h t x i) x ((h i) - (sLow h i))) (t i))), (0, .ref (a 0)), (1, .int x), (4, .int (nI (sMask h t g x i)))]) C 6 dX2_seenLayers_82 rfl (nI_add i 1) (by decide) rfl rfl ?_
        refine k_goto (q := 12) C dX2_seenLayers_85 (by decide) ?_
        refine k_fr (fr2 := [(0, .ref (a 0)), (1, .int x), (2, .int ((sHaze (sGo h t x i) x ((h i) - (sLow h i))) - (sBri (sHaze (sGo h t x i) x ((h i) - (sLow h i))) (t i)))), (3, .int (h i)), (4, .int (nI (sMask h t g x i))), (5, .int (nI (i + 1)))]) ⟨[4, 5, 2, 1, 6, 0], rfl⟩ ?_
        have K := ih (i + 1) (by omega) (by omega)
        first | rw [sMask_n (h := h) (t := t) (g := g) (hz := x) c_57] at K | rw [sMask_y (h := h) (t := t) (g := g) (hz := x) (Int32.not_lt.mp c_57)] at K
        exact K
      · intro c_57
        refine k_iload (q := 62) C 5 dX2_seenLayers_60 rfl rfl ?_
        refine k_iconst (q := 63) (v := 1) C dX2_seenLayers_62 (by decide) rfl ?_
        refine k_iload (q := 65) C 6 dX2_seenLayers_63 rfl rfl ?_
        refine k_ishl (q := 66) C dX2_seenLayers_65 rfl ?_
        refine k_ior (q := 67) C dX2_seenLayers_66 rfl ?_
        refine k_st (st2 := (.int (nI (sMask h t g x i + 2 ^ i)) :: _)) (congrArg (fun z => Value.int z :: _) (show (nI (sMask h t g x i)) ||| (1 <<< ((nI i) &&& 31)) = nI (sMask h t g x i + 2 ^ i) from sMask_or h t g x (by omega))) ?_
        refine k_istore (q := 69) (fr2 := [(4, .int (nI (sMask h t g x i + 2 ^ i))), (6, .int (sBri (sHaze (sGo h t x i) x ((h i) - (sLow h i))) (t i))), (2, .int (sHaze (sGo h t x i) x ((h i) - (sLow h i)))), (0, .ref (a 0)), (1, .int x), (3, .int (sLow h i)), (5, .int (nI i))]) C dX2_seenLayers_67 (by decide) rfl rfl ?_
        refine k_iload_n (q := 70) C 2 dX2_seenLayers_69 rfl rfl ?_
        refine k_iload (q := 72) C 1 dX2_seenLayers_70 rfl rfl ?_
        refine k_isub (q := 73) C dX2_seenLayers_72 rfl ?_
        refine k_istore_n (q := 74) (fr2 := [(2, .int ((sHaze (sGo h t x i) x ((h i) - (sLow h i))) - (sBri (sHaze (sGo h t x i) x ((h i) - (sLow h i))) (t i)))), (4, .int (nI (sMask h t g x i + 2 ^ i))), (6, .int (sBri (sHaze (sGo h t x i) x ((h i) - (sLow h i))) (t i))), (0, .ref (a 0)), (1, .int x), (3, .int (sLow h i)), (5, .int (nI i))]) C dX2_seenLayers_73 (by decide) rfl rfl ?_
        refine k_aload_n (q := 75) C 3 dX2_seenLayers_74 rfl rfl ?_
        refine k_get (q := 78) (ci := 2) (v := .ref (a 1)) C 0 1 in2_X2_seenLayers rfl (List.mem_of_getElem? (i := 2) rfl) rfl rfl (by decide) rfl dX2_seenLayers_75 rfl ?_
        refine k_iload (q := 80) C 6 dX2_seenLayers_78 rfl rfl ?_
        refine k_iald (q := 81) C 1 rfl (vp_in_nI (n := i) (by omega) (by decide)) dX2_seenLayers_80 rfl ?_
        refine k_st (st2 := (.int (h i) :: _)) (congrArg (fun z => Value.int z :: _) (show h (nI i).toNatClampNeg = h i from congrArg h (nI_clamp (n := i) (by omega)))) ?_
        refine k_istore_n (q := 82) (fr2 := [(3, .int (h i)), (2, .int ((sHaze (sGo h t x i) x ((h i) - (sLow h i))) - (sBri (sHaze (sGo h t x i) x ((h i) - (sLow h i))) (t i)))), (4, .int (nI (sMask h t g x i + 2 ^ i))), (6, .int (sBri (sHaze (sGo h t x i) x ((h i) - (sLow h i))) (t i))), (0, .ref (a 0)), (1, .int x), (5, .int (nI i))]) C dX2_seenLayers_81 (by decide) rfl rfl ?_
        refine k_iinc (q := 85) (v := nI (i + 1)) (fr2 := [(5, .int (nI (i + 1))), (3, .int (h i)), (2, .int ((sHaze (sGo h t x i) x ((h i) - (sLow h i))) - (sBri (sHaze (sGo h t x i) x ((h i) - (sLow h i))) (t i)))), (4, .int (nI (sMask h t g x i + 2 ^ i))), (6, .int (sBri (sHaze (sGo h t x i) x ((h i) - (sLow h i))) (t i))), (0, .ref (a 0)), (1, .int x)]) C 6 dX2_seenLayers_82 rfl (nI_add i 1) (by decide) rfl rfl ?_
        refine k_goto (q := 12) C dX2_seenLayers_85 (by decide) ?_
        refine k_fr (fr2 := [(0, .ref (a 0)), (1, .int x), (2, .int ((sHaze (sGo h t x i) x ((h i) - (sLow h i))) - (sBri (sHaze (sGo h t x i) x ((h i) - (sLow h i))) (t i)))), (3, .int (h i)), (4, .int (nI (sMask h t g x i + 2 ^ i))), (5, .int (nI (i + 1)))]) ⟨[5, 6, 2, 1, 3, 0], rfl⟩ ?_
        have K := ih (i + 1) (by omega) (by omega)
        first | rw [sMask_n (h := h) (t := t) (g := g) (hz := x) c_57] at K | rw [sMask_y (h := h) (t := t) (g := g) (hz := x) (Int32.not_lt.mp c_57)] at K
        exact K
set_option maxHeartbeats 4000000 in
set_option maxRecDepth 100000 in
theorem c_X2_seenLayers (cy : Nat → ClassId) (a : Nat → Nat) (n : Nat) (lit : Int32) (h : Nat → Int32) (t : Nat → Int32) (s : Nat → Int32) (g : Nat → Int32) (kn : Nat) (lo : Int32) (lf : Int32) (nm : Nat → Int32) (x : Int32)  (hn : n ≤ 6) : kI yX2_seenLayers wsX2_seenLayers rm_X2_seenLayers cy [.ref (a 0), .int x] (wSky a cy n lit h t s g kn lo lf nm) (nI (sMask h t g x n)) (wSky a cy n lit h t s g kn lo lf nm) := by
  refine kI_of (cc := cX2_seenLayers) (maxL := 7) (rt := .int) (by decide) rfl (rfl) (Nat.le_of_ble_eq_true rfl) ?_
  intro X hR C E
  have C : kC X 7 RX2 cX2_seenLayers wsX2_seenLayers cy := C
  refine k_fr (fr2 := [(0, .ref (a 0)), (1, .int x)]) ⟨[0, 1], rfl⟩ ?_
  refine k_sipush (q := 3) (v := 1000) C dX2_seenLayers_0 (by decide +kernel) rfl ?_
  refine k_istore_n (q := 4) (fr2 := [(2, .int 1000), (0, .ref (a 0)), (1, .int x)]) C dX2_seenLayers_3 (by decide) rfl rfl ?_
  refine k_iconst (q := 5) (v := 0) C dX2_seenLayers_4 (by decide) rfl ?_
  refine k_istore_n (q := 6) (fr2 := [(3, .int 0), (2, .int 1000), (0, .ref (a 0)), (1, .int x)]) C dX2_seenLayers_5 (by decide) rfl rfl ?_
  refine k_iconst (q := 7) (v := 0) C dX2_seenLayers_6 (by decide) rfl ?_
  refine k_istore (q := 9) (fr2 := [(4, .int 0), (3, .int 0), (2, .int 1000), (0, .ref (a 0)), (1, .int x)]) C dX2_seenLayers_7 (by decide) rfl rfl ?_
  refine k_iconst (q := 10) (v := 0) C dX2_seenLayers_9 (by decide) rfl ?_
  refine k_istore (q := 12) (fr2 := [(5, .int 0), (4, .int 0), (3, .int 0), (2, .int 1000), (0, .ref (a 0)), (1, .int x)]) C dX2_seenLayers_10 (by decide) rfl rfl ?_
  refine k_fr (fr2 := [(0, .ref (a 0)), (1, .int x), (2, .int 1000), (3, .int 0), (4, .int 0), (5, .int 0)]) ⟨[4, 5, 3, 2, 1, 0], rfl⟩ ?_
  exact lp_X2_seenLayers_12 cy a n lit h t s g kn lo lf nm x hn X hR C E _ 0 (Nat.lt_succ_self _) (by omega)
abbrev rm_X2_seenSpots : Room := { frames := 2, cells := 0, slots := 0, locals := 50 }
theorem in2_X2_seenSpots : ∀ w ∈ wsX20, w ∈ wsX2_seenSpots := fun _ h => (List.mem_cons_of_mem _ (List.mem_append_right _ h))
set_option maxHeartbeats 4000000 in
set_option maxRecDepth 100000 in
theorem c_X2_seenSpots (cy : Nat → ClassId) (a : Nat → Nat) (n : Nat) (lit : Int32) (h : Nat → Int32) (t : Nat → Int32) (s : Nat → Int32) (g : Nat → Int32) (kn : Nat) (lo : Int32) (lf : Int32) (nm : Nat → Int32) (x : Int32)  (hn : n ≤ 6) : kI yX2_seenSpots wsX2_seenSpots rm_X2_seenSpots cy [.ref (a 0), .int x] (wSky a cy n lit h t s g kn lo lf nm) (sBits (nI (sMask h t g x n)) * sBits lit) (wSky a cy n lit h t s g kn lo lf nm) := by
  refine kI_of (cc := cX2_seenSpots) (maxL := 2) (rt := .int) (by decide) rfl (rfl) (Nat.le_of_ble_eq_true rfl) ?_
  intro X hR C E
  have C : kC X 2 RX2 cX2_seenSpots wsX2_seenSpots cy := C
  refine k_fr (fr2 := [(0, .ref (a 0)), (1, .int x)]) ⟨[0, 1], rfl⟩ ?_
  refine k_aload_n (q := 1) C 0 dX2_seenSpots_0 rfl rfl ?_
  refine k_iload_n (q := 2) C 1 dX2_seenSpots_1 rfl rfl ?_
  refine k_callVI (n := 1) (q := 5) (pre := ([] : va_W)) (post := ([] : va_W)) (w2 := (wSky a cy n lit h t s g kn lo lf nm)) (As := [.int x]) (rest := []) C (c_X2_seenLayers cy a n lit h t s g kn lo lf nm x (by omega)) gX2_seenSpots_X2_seenLayers rfl rfl rfl (by decide +kernel) (k_room hR (by decide)) ⟨Nat.zero_le _, Nat.zero_le _⟩ (ci := 2) rfl 0 rfl rfl rfl (Nat.le_of_ble_eq_true rfl) ((List.append_nil _).symm) (List.append_nil _) dX2_seenSpots_2 rfl ?_
  refine k_callSI (n := 1) (q := 8) (pre := ([] : va_W)) (post := (wSky a cy n lit h t s g kn lo lf nm)) (w2 := (wSky a cy n lit h t s g kn lo lf nm)) (As := [.int (nI (sMask h t g x n))]) (rest := []) C (c_J6_bitCount_0f7a4 (nI (sMask h t g x n))) gX2_seenSpots_J6_bitCount_0f7a4 rfl rfl rfl (by decide +kernel) (k_room hR (by decide)) ⟨Nat.zero_le _, Nat.zero_le _⟩  rfl rfl (Nat.le_of_ble_eq_true rfl) (rfl) (rfl) dX2_seenSpots_5 rfl ?_
  refine k_aload_n (q := 9) C 0 dX2_seenSpots_8 rfl rfl ?_
  refine k_get (q := 12) (ci := 2) (v := .int lit) C 0 5 in2_X2_seenSpots rfl (List.mem_of_getElem? (i := 1) rfl) rfl rfl (by decide) rfl dX2_seenSpots_9 rfl ?_
  refine k_callSI (n := 1) (q := 15) (pre := ([] : va_W)) (post := (wSky a cy n lit h t s g kn lo lf nm)) (w2 := (wSky a cy n lit h t s g kn lo lf nm)) (As := [.int lit]) (rest := [.int (sBits (nI (sMask h t g x n)))]) C (c_J6_bitCount_0f7a4 lit) gX2_seenSpots_J6_bitCount_0f7a4 rfl rfl rfl (by decide +kernel) (k_room hR (by decide)) ⟨Nat.zero_le _, Nat.zero_le _⟩  rfl rfl (Nat.le_of_ble_eq_true rfl) (rfl) (rfl) dX2_seenSpots_12 rfl ?_
  refine k_imul (q := 16) C dX2_seenSpots_15 rfl ?_
  exact k_fin E dX2_seenSpots_16 (rfl) (rfl)
