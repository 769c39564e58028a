abbrev rm_X2_becomeLike : Room := { frames := 2, cells := 0, slots := 0, locals := 53 }
theorem in0_X2_becomeLike : ∀ w ∈ wsX00, w ∈ wsX2_becomeLike := fun _ h => (List.mem_cons_of_mem _ (List.mem_append_right _ h))
theorem in2_X2_becomeLike : ∀ w ∈ wsX20, w ∈ wsX2_becomeLike := fun _ h => (List.mem_cons_of_mem _ (List.mem_append_left _ (List.mem_append_right _ h)))
set_option maxHeartbeats 4000000 in
set_option maxRecDepth 100000 in
theorem c_X2_becomeLike (cy : Nat → ClassId) (a : Nat → Nat) (b : Nat → Nat) (n : Nat) (lit : Int32) (h : Nat → Int32) (t : Nat → Int32) (s : Nat → Int32) (g : Nat → Int32) (kn : Nat) (lo : Int32) (lf : Int32) (nm : Nat → Int32) (n2 : Nat) (lit2 : Int32) (h2 : Nat → Int32) (t2 : Nat → Int32) (s2 : Nat → Int32) (g2 : Nat → Int32) (kn2 : Nat) (lo2 : Int32) (lf2 : Int32) (nm2 : Nat → Int32)   : kV yX2_becomeLike wsX2_becomeLike rm_X2_becomeLike cy [.ref (b 0), .ref (a 0)] ((wSky5 a cy n lit h t s g ++ wSky5 b cy n2 lit2 h2 t2 s2 g2) ++ (wLog a cy kn lo lf nm ++ wLog b cy kn2 lo2 lf2 nm2)) ((wSky5 a cy n lit h t s g ++ wSky5 b cy n lit (va_cpy h h2 0 0 6) (va_cpy t t2 0 0 6) (va_cpy s s2 0 0 2) (va_cpy g g2 0 0 4)) ++ (wLog a cy kn lo lf nm ++ wLog b cy kn lo lf (va_cpy nm nm2 0 0 32))) := by
  refine kV_of (cc := cX2_becomeLike) (maxL := 2) (by decide) rfl (Nat.le_of_ble_eq_true rfl) ?_
  intro X hR C E
  have C : kC X 2 RX2 cX2_becomeLike wsX2_becomeLike cy := C
  refine k_fr (fr2 := [(0, .ref (b 0)), (1, .ref (a 0))]) ⟨[0, 1], rfl⟩ ?_
  refine k_aload_n (q := 1) C 0 dX2_becomeLike_0 rfl rfl ?_
  refine k_aload_n (q := 2) C 1 dX2_becomeLike_1 rfl rfl ?_
  refine k_get (q := 5) (ci := 2) (v := .int (nI n)) C 0 0 in2_X2_becomeLike rfl (List.mem_of_getElem? (i := 1) rfl) rfl rfl (by decide) rfl dX2_becomeLike_2 rfl ?_
  refine k_put (q := 8) (ci := 2) (v := .int (nI n)) (w2 := ((wSky5 a cy n lit h t s g ++ wSky5 b cy n lit2 h2 t2 s2 g2) ++ (wLog a cy kn lo lf nm ++ wLog b cy kn2 lo2 lf2 nm2))) C 5 0 in2_X2_becomeLike rfl (List.mem_of_getElem? (i := 1) rfl) rfl tyX2 tyX2_ok nmX2 rfl (rfl) (rfl) rfl (by decide) (Nat.le_of_ble_eq_true rfl) (rfl) dX2_becomeLike_5 rfl ?_
  refine k_aload_n (q := 9) C 1 dX2_becomeLike_8 rfl rfl ?_
  refine k_get (q := 12) (ci := 2) (v := .ref (a 1)) C 0 1 in2_X2_becomeLike rfl (List.mem_of_getElem? (i := 2) rfl) rfl rfl (by decide) rfl dX2_becomeLike_9 rfl ?_
  refine k_iconst (q := 13) (v := 0) C dX2_becomeLike_12 (by decide) rfl ?_
  refine k_aload_n (q := 14) C 0 dX2_becomeLike_13 rfl rfl ?_
  refine k_get (q := 17) (ci := 2) (v := .ref (b 1)) C 5 1 in2_X2_becomeLike rfl (List.mem_of_getElem? (i := 2) rfl) rfl rfl (by decide) rfl dX2_becomeLike_14 rfl ?_
  refine k_iconst (q := 18) (v := 0) C dX2_becomeLike_17 (by decide) rfl ?_
  refine k_bipush (q := 20) (v := 6) C dX2_becomeLike_18 (by decide +kernel) rfl ?_
  refine k_copy (q := 23) (w2 := ((wSky5 a cy n lit h t s g ++ wSky5 b cy n lit2 (va_cpy h h2 0 0 6) t2 s2 g2) ++ (wLog a cy kn lo lf nm ++ wLog b cy kn2 lo2 lf2 nm2))) C 1 6 (List.mem_of_getElem? (i := 3) rfl) (List.mem_of_getElem? (i := 4) rfl) (List.mem_of_getElem? (i := 5) rfl) (List.mem_of_getElem? (i := 6) rfl) rfl rfl (by decide) (by decide) (by decide) (by decide +kernel) (by decide +kernel) (k_roomC hR (by decide)) rfl rfl dX2_becomeLike_20 rfl ?_
  refine k_aload_n (q := 24) C 1 dX2_becomeLike_23 rfl rfl ?_
  refine k_get (q := 27) (ci := 2) (v := .ref (a 2)) C 0 2 in2_X2_becomeLike rfl (List.mem_of_getElem? (i := 7) rfl) rfl rfl (by decide) rfl dX2_becomeLike_24 rfl ?_
  refine k_iconst (q := 28) (v := 0) C dX2_becomeLike_27 (by decide) rfl ?_
  refine k_aload_n (q := 29) C 0 dX2_becomeLike_28 rfl rfl ?_
  refine k_get (q := 32) (ci := 2) (v := .ref (b 2)) C 5 2 in2_X2_becomeLike rfl (List.mem_of_getElem? (i := 7) rfl) rfl rfl (by decide) rfl dX2_becomeLike_29 rfl ?_
  refine k_iconst (q := 33) (v := 0) C dX2_becomeLike_32 (by decide) rfl ?_
  refine k_bipush (q := 35) (v := 6) C dX2_becomeLike_33 (by decide +kernel) rfl ?_
  refine k_copy (q := 38) (w2 := ((wSky5 a cy n lit h t s g ++ wSky5 b cy n lit2 (va_cpy h h2 0 0 6) (va_cpy t t2 0 0 6) s2 g2) ++ (wLog a cy kn lo lf nm ++ wLog b cy kn2 lo2 lf2 nm2))) C 2 7 (List.mem_of_getElem? (i := 3) rfl) (List.mem_of_getElem? (i := 4) rfl) (List.mem_of_getElem? (i := 5) rfl) (List.mem_of_getElem? (i := 6) rfl) rfl rfl (by decide) (by decide) (by decide) (by decide +kernel) (by decide +kernel) (k_roomC hR (by decide)) rfl rfl dX2_becomeLike_35 rfl ?_
  refine k_aload_n (q := 39) C 1 dX2_becomeLike_38 rfl rfl ?_
  refine k_get (q := 42) (ci := 2) (v := .ref (a 3)) C 0 3 in2_X2_becomeLike rfl (List.mem_of_getElem? (i := 8) rfl) rfl rfl (by decide) rfl dX2_becomeLike_39 rfl ?_
  refine k_iconst (q := 43) (v := 0) C dX2_becomeLike_42 (by decide) rfl ?_
  refine k_aload_n (q := 44) C 0 dX2_becomeLike_43 rfl rfl ?_
  refine k_get (q := 47) (ci := 2) (v := .ref (b 3)) C 5 3 in2_X2_becomeLike rfl (List.mem_of_getElem? (i := 8) rfl) rfl rfl (by decide) rfl dX2_becomeLike_44 rfl ?_
  refine k_iconst (q := 48) (v := 0) C dX2_becomeLike_47 (by decide) rfl ?_
  refine k_iconst (q := 49) (v := 2) C dX2_becomeLike_48 (by decide) rfl ?_
  refine k_copy (q := 52) (w2 := ((wSky5 a cy n lit h t s g ++ wSky5 b cy n lit2 (va_cpy h h2 0 0 6) (va_cpy t t2 0 0 6) (va_cpy s s2 0 0 2) g2) ++ (wLog a cy kn lo lf nm ++ wLog b cy kn2 lo2 lf2 nm2))) C 3 8 (List.mem_of_getElem? (i := 3) rfl) (List.mem_of_getElem? (i := 4) rfl) (List.mem_of_getElem? (i := 5) rfl) (List.mem_of_getElem? (i := 6) rfl) rfl rfl (by decide) (by decide) (by decide) (by decide +kernel) (by decide +kernel) (k_roomC hR (by decide)) rfl rfl dX2_becomeLike_49 rfl ?_
  refine k_aload_n (q := 53) C 1 dX2_becomeLike_52 rfl rfl ?_
  refine k_get (q := 56) (ci := 2) (v := .ref (a 4)) C 0 4 in2_X2_becomeLike rfl (List.mem_of_getElem? (i := 9) rfl) rfl rfl (by decide) rfl dX2_becomeLike_53 rfl ?_
  refine k_iconst (q := 57) (v := 0) C dX2_becomeLike_56 (by decide) rfl ?_
  refine k_aload_n (q := 58) C 0 dX2_becomeLike_57 rfl rfl ?_
  refine k_get (q := 61) (ci := 2) (v := .ref (b 4)) C 5 4 in2_X2_becomeLike rfl (List.mem_of_getElem? (i := 9) rfl) rfl rfl (by decide) rfl dX2_becomeLike_58 rfl ?_
  refine k_iconst (q := 62) (v := 0) C dX2_becomeLike_61 (by decide) rfl ?_
  refine k_iconst (q := 63) (v := 4) C dX2_becomeLike_62 (by decide) rfl ?_
  refine k_copy (q := 66) (w2 := ((wSky5 a cy n lit h t s g ++ wSky5 b cy n lit2 (va_cpy h h2 0 0 6) (va_cpy t t2 0 0 6) (va_cpy s s2 0 0 2) (va_cpy g g2 0 0 4)) ++ (wLog a cy kn lo lf nm ++ wLog b cy kn2 lo2 lf2 nm2))) C 4 9 (List.mem_of_getElem? (i := 3) rfl) (List.mem_of_getElem? (i := 4) rfl) (List.mem_of_getElem? (i := 5) rfl) (List.mem_of_getElem? (i := 6) rfl) rfl rfl (by decide) (by decide) (by decide) (by decide +kernel) (by decide +kernel) (k_roomC hR (by decide)) rfl rfl dX2_becomeLike_63 rfl ?_
  refine k_aload_n (q := 67) C 0 dX2_becomeLike_66 rfl rfl ?_
  refine k_aload_n (q := 68) C 1 dX2_becomeLike_67 rfl rfl ?_
  refine k_get (q := 71) (ci := 2) (v := .int lit) C 0 5 in2_X2_becomeLike rfl (List.mem_of_getElem? (i := 10) rfl) rfl rfl (by decide) rfl dX2_becomeLike_68 rfl ?_
  refine k_put (q := 74) (ci := 2) (v := .int lit) (w2 := ((wSky5 a cy n lit h t s g ++ wSky5 b cy n lit (va_cpy h h2 0 0 6) (va_cpy t t2 0 0 6) (va_cpy s s2 0 0 2) (va_cpy g g2 0 0 4)) ++ (wLog a cy kn lo lf nm ++ wLog b cy kn2 lo2 lf2 nm2))) C 5 5 in2_X2_becomeLike rfl (List.mem_of_getElem? (i := 10) rfl) rfl tyX2 tyX2_ok nmX2 rfl (rfl) (rfl) rfl (by decide) (Nat.le_of_ble_eq_true rfl) (rfl) dX2_becomeLike_71 rfl ?_
  refine k_aload_n (q := 75) C 0 dX2_becomeLike_74 rfl rfl ?_
  refine k_get (q := 78) (ci := 2) (v := .ref (b 5)) C 5 6 in2_X2_becomeLike rfl (List.mem_of_getElem? (i := 11) rfl) rfl rfl (by decide) rfl dX2_becomeLike_75 rfl ?_
  refine k_aload_n (q := 79) C 1 dX2_becomeLike_78 rfl rfl ?_
  refine k_get (q := 82) (ci := 2) (v := .ref (a 5)) C 0 6 in2_X2_becomeLike rfl (List.mem_of_getElem? (i := 11) rfl) rfl rfl (by decide) rfl dX2_becomeLike_79 rfl ?_
  refine k_callVV (n := 1) (q := 85) (pre := (wSky5 a cy n lit h t s g ++ wSky5 b cy n lit (va_cpy h h2 0 0 6) (va_cpy t t2 0 0 6) (va_cpy s s2 0 0 2) (va_cpy g g2 0 0 4))) (post := ([] : va_W)) (w2 := ((wSky5 a cy n lit h t s g ++ wSky5 b cy n lit (va_cpy h h2 0 0 6) (va_cpy t t2 0 0 6) (va_cpy s s2 0 0 2) (va_cpy g g2 0 0 4)) ++ (wLog a cy kn lo lf nm ++ wLog b cy kn lo lf (va_cpy nm nm2 0 0 32)))) (As := [.ref (a 5)]) (rest := []) C (c_X0_becomeLike cy a b kn lo lf nm kn2 lo2 lf2 nm2) gX2_becomeLike_X0_becomeLike rfl rfl rfl (by decide +kernel) (k_room hR (by decide)) ⟨Nat.zero_le _, Nat.zero_le _⟩ (ci := 0) rfl 2 rfl rfl rfl (Nat.le_of_ble_eq_true rfl) (rfl) (rfl) dX2_becomeLike_82 rfl ?_
  exact k_finV E dX2_becomeLike_85 (rfl)
abbrev rm_X3_copySky : Room := { frames := 3, cells := 0, slots := 0, locals := 74 }
theorem in0_X3_copySky : ∀ w ∈ wsX00, w ∈ wsX3_copySky := fun _ h => (List.mem_cons_of_mem _ (List.mem_append_right _ h))
theorem in2_X3_copySky : ∀ w ∈ wsX20, w ∈ wsX3_copySky := fun _ h => (List.mem_cons_of_mem _ (List.mem_append_left _ (List.mem_append_right _ h)))
set_option maxHeartbeats 4000000 in
set_option maxRecDepth 100000 in
theorem c_X3_copySky (cy : Nat → ClassId) (a : Nat → Nat) (b : Nat → Nat) (n : Nat) (lit : Int32) (h : Nat → Int32) (t : Nat → Int32) (s : Nat → Int32) (g : Nat → Int32) (kn : Nat) (lo : Int32) (lf : Int32) (nm : Nat → Int32) (n2 : Nat) (lit2 : Int32) (h2 : Nat → Int32) (t2 : Nat → Int32) (s2 : Nat → Int32) (g2 : Nat → Int32) (kn2 : Nat) (lo2 : Int32) (lf2 : Int32) (nm2 : Nat → Int32)   : kV yX3_copySky wsX3_copySky rm_X3_copySky cy [.ref (a 0), .ref (b 0)] ((wSky5 a cy n lit h t s g ++ wSky5 b cy n2 lit2 h2 t2 s2 g2) ++ (wLog a cy kn lo lf nm ++ wLog b cy kn2 lo2 lf2 nm2)) ((wSky5 a cy n lit h t s g ++ wSky5 b cy n lit (va_cpy h h2 0 0 6) (va_cpy t t2 0 0 6) (va_cpy s s2 0 0 2) (va_cpy g g2 0 0 4)) ++ (wLog a cy kn lo lf nm ++ wLog b cy kn lo lf (va_cpy nm nm2 0 0 32))) := by
  refine kV_of (cc := cX3_copySky) (maxL := 2) (by decide) rfl (Nat.le_of_ble_eq_true rfl) ?_
  intro X hR C E
  have C : kC X 2 RX3 cX3_copySky wsX3_copySky cy := C
  refine k_fr (fr2 := [(0, .ref (a 0)), (1, .ref (b 0))]) ⟨[0, 1], rfl⟩ ?_
  refine k_aload_n (q := 1) C 0 dX3_copySky_0 rfl rfl ?_
  refine k_ifnull (q := 4) C dX3_copySky_1 rfl ?_
  refine k_aload_n (q := 5) C 1 dX3_copySky_4 rfl rfl ?_
  refine k_ifnull (q := 8) C dX3_copySky_5 rfl ?_
  refine k_aload_n (q := 9) C 1 dX3_copySky_8 rfl rfl ?_
  refine k_aload_n (q := 10) C 0 dX3_copySky_9 rfl rfl ?_
  refine k_callVV (n := 1) (q := 13) (pre := ([] : va_W)) (post := ([] : va_W)) (w2 := ((wSky5 a cy n lit h t s g ++ wSky5 b cy n lit (va_cpy h h2 0 0 6) (va_cpy t t2 0 0 6) (va_cpy s s2 0 0 2) (va_cpy g g2 0 0 4)) ++ (wLog a cy kn lo lf nm ++ wLog b cy kn lo lf (va_cpy nm nm2 0 0 32)))) (As := [.ref (a 0)]) (rest := []) C (c_X2_becomeLike cy a b n lit h t s g kn lo lf nm n2 lit2 h2 t2 s2 g2 kn2 lo2 lf2 nm2) gX3_copySky_X2_becomeLike rfl rfl rfl (by decide +kernel) (k_room hR (by decide)) ⟨Nat.zero_le _, Nat.zero_le _⟩ (ci := 2) rfl 5 rfl rfl rfl (Nat.le_of_ble_eq_true rfl) ((List.append_nil _).symm) (List.append_nil _) dX3_copySky_10 rfl ?_
  exact k_finV E dX3_copySky_13 (rfl)
abbrev rm_X3_isLight : Room := { frames := 0, cells := 0, slots := 0, locals := 0 }
set_option maxHeartbeats 4000000 in
set_option maxRecDepth 100000 in
theorem c_X3_isLight {cy : Nat → ClassId} (x : Int32)   : kI yX3_isLight wsX3_isLight rm_X3_isLight cy [.int x] ([] : va_W) (bI (0 ≤ x ∧ x ≤ 1)) ([] : va_W) := by
  refine kI_of (cc := cX3_isLight) (maxL := 1) (rt := .boolean) (by decide) rfl (kb_nar _) (Nat.le_of_ble_eq_true rfl) ?_
  intro X hR C E
  have C : kC X 1 RX3 cX3_isLight wsX3_isLight cy := C
  refine k_fr (fr2 := [(0, .int x)]) ⟨[0], rfl⟩ ?_
  refine k_iload_n (q := 1) C 0 dX3_isLight_0 rfl rfl ?_
  refine k_if_lt (tgt := 13) (q := 4) C dX3_isLight_1 (by decide) rfl ?_ ?_
  · intro c_1
    refine k_iconst (q := 14) (v := 0) C dX3_isLight_13 (by decide) rfl ?_
    exact k_fin E dX3_isLight_14 (by first | exact bI_t ⟨Int32.not_lt.mp c_1, i_lt2 c_6⟩ | exact bI_f (fun q => i_2le c_6 q.2) | exact bI_f (fun q => absurd c_1 (Int32.not_lt.mpr q.1))) (rfl)
  · intro c_1
    refine k_iload_n (q := 5) C 0 dX3_isLight_4 rfl rfl ?_
    refine k_iconst (q := 6) (v := 2) C dX3_isLight_5 (by decide) rfl ?_
    refine k_icmp_ge (tgt := 13) (q := 9) C dX3_isLight_6 (by decide) rfl ?_ ?_
    · intro c_6
      refine k_iconst (q := 14) (v := 0) C dX3_isLight_13 (by decide) rfl ?_
      exact k_fin E dX3_isLight_14 (by first | exact bI_t ⟨Int32.not_lt.mp c_1, i_lt2 c_6⟩ | exact bI_f (fun q => i_2le c_6 q.2) | exact bI_f (fun q => absurd c_1 (Int32.not_lt.mpr q.1))) (rfl)
    · intro c_6
      refine k_iconst (q := 10) (v := 1) C dX3_isLight_9 (by decide) rfl ?_
      refine k_goto (q := 14) C dX3_isLight_10 (by decide) ?_
      exact k_fin E dX3_isLight_14 (by first | exact bI_t ⟨Int32.not_lt.mp c_1, i_lt2 c_6⟩ | exact bI_f (fun q => i_2le c_6 q.2) | exact bI_f (fun q => absurd c_1 (Int32.not_lt.mpr q.1))) (rfl)
abbrev rm_X3_isThickness : Room := { frames := 0, cells := 0, slots := 0, locals := 0 }
set_option maxHeartbeats 4000000 in
set_option maxRecDepth 100000 in
theorem c_X3_isThickness {cy : Nat → ClassId} (x : Int32)   : kI yX3_isThickness wsX3_isThickness rm_X3_isThickness cy [.int x] ([] : va_W) (bI (1 ≤ x ∧ x ≤ 100)) ([] : va_W) := by
  refine kI_of (cc := cX3_isThickness) (maxL := 1) (rt := .boolean) (by decide) rfl (kb_nar _) (Nat.le_of_ble_eq_true rfl) ?_
  intro X hR C E
  have C : kC X 1 RX3 cX3_isThickness wsX3_isThickness cy := C
  refine k_fr (fr2 := [(0, .int x)]) ⟨[0], rfl⟩ ?_
  refine k_iload_n (q := 1) C 0 dX3_isThickness_0 rfl rfl ?_
  refine k_iconst (q := 2) (v := 1) C dX3_isThickness_1 (by decide) rfl ?_
  refine k_icmp_lt (tgt := 15) (q := 5) C dX3_isThickness_2 (by decide) rfl ?_ ?_
  · intro c_2
    refine k_iconst (q := 16) (v := 0) C dX3_isThickness_15 (by decide) rfl ?_
    exact k_fin E dX3_isThickness_16 (by first | exact bI_t ⟨Int32.not_lt.mp (by assumption), Int32.not_lt.mp (by assumption)⟩ | exact bI_f (fun q => absurd c_2 (Int32.not_lt.mpr q.1)) | exact bI_f (fun q => absurd c_8 (Int32.not_lt.mpr q.2))) (rfl)
  · intro c_2
    refine k_iload_n (q := 6) C 0 dX3_isThickness_5 rfl rfl ?_
    refine k_bipush (q := 8) (v := 100) C dX3_isThickness_6 (by decide +kernel) rfl ?_
    refine k_icmp_gt (tgt := 15) (q := 11) C dX3_isThickness_8 (by decide) rfl ?_ ?_
    · intro c_8
      refine k_iconst (q := 16) (v := 0) C dX3_isThickness_15 (by decide) rfl ?_
      exact k_fin E dX3_isThickness_16 (by first | exact bI_t ⟨Int32.not_lt.mp (by assumption), Int32.not_lt.mp (by assumption)⟩ | exact bI_f (fun q => absurd c_2 (Int32.not_lt.mpr q.1)) | exact bI_f (fun q => absurd c_8 (Int32.not_lt.mpr q.2))) (rfl)
    · intro c_8
      refine k_iconst (q := 12) (v := 1) C dX3_isThickness_11 (by decide) rfl ?_
      refine k_goto (q := 16) C dX3_isThickness_12 (by decide) ?_
      exact k_fin E dX3_isThickness_16 (by first | exact bI_t ⟨Int32.not_lt.mp (by assumption), Int32.not_lt.mp (by assumption)⟩ | exact bI_f (fun q => absurd c_2 (Int32.not_lt.mpr q.1)) | exact bI_f (fun q => absurd c_8 (Int32.not_lt.mpr q.2))) (rfl)
