abbrev rm_L_apart : Room := { frames := 1, cells := 0, slots := 0, locals := 23 }
set_option maxHeartbeats 4000000 in
set_option maxRecDepth 100000 in
theorem c_L_apart (cy : Nat → ClassId) (e : Nat → Nat) (nM : Nat) (oM : Nat → Int32) (sM : Nat → Int32) (gM : Nat → Int32) (knM : Nat) (loM : Int32) (lfM : Int32) (hM : Nat → Int32) (tM : Nat → Int32) (lM : Nat → Int32) (bM : Nat → Int32) (rM : Nat → Int32) (p : Nat)  (hp : p < 6) : kI yL_apart wsL_apart rm_L_apart cy [.int (nI p), .ref (e 0), .ref (e 1)] (wLa e cy (qSt nM oM sM gM knM loM lfM) hM tM lM bM rM) (sDist hM gM p (sM 0) (sM 1)) (wLa e cy (qSt nM oM sM gM knM loM lfM) hM tM lM bM rM) := by
  refine kI_of (cc := cL_apart) (maxL := 3) (rt := .int) (by decide) rfl (rfl) (Nat.le_of_ble_eq_true rfl) ?_
  intro X hR C E
  have C : kC X 3 RL cL_apart wsL_apart cy := C
  refine k_fr (fr2 := [(0, .int (nI p)), (1, .ref (e 0)), (2, .ref (e 1))]) ⟨[0, 1, 2], rfl⟩ ?_
  refine k_iconst (q := 1) (v := 1) C dL_apart_0 (by decide) rfl ?_
  refine k_iload_n (q := 2) C 0 dL_apart_1 rfl rfl ?_
  refine k_aload_n (q := 3) C 1 dL_apart_2 rfl rfl ?_
  refine k_aload_n (q := 4) C 2 dL_apart_3 rfl rfl ?_
  refine k_callSI (n := 4) (q := 7) (pre := ([] : va_W)) (post := ([] : va_W)) (w2 := (wLa e cy (qSt nM oM sM gM knM loM lfM) hM tM lM bM rM)) (As := [.int 1, .int (nI p), .ref (e 0), .ref (e 1)]) (rest := []) C (c_L_place cy e nM oM sM gM knM loM lfM hM tM lM bM rM 1 p (by omega) (by omega)) gL_apart_L_place rfl rfl rfl (by decide +kernel) (k_room hR (by decide)) ⟨Nat.zero_le _, Nat.zero_le _⟩  rfl rfl (Nat.le_of_ble_eq_true rfl) ((List.append_nil _).symm) (List.append_nil _) dL_apart_4 rfl ?_
  refine k_iconst (q := 8) (v := 0) C dL_apart_7 (by decide) rfl ?_
  refine k_iload_n (q := 9) C 0 dL_apart_8 rfl rfl ?_
  refine k_aload_n (q := 10) C 1 dL_apart_9 rfl rfl ?_
  refine k_aload_n (q := 11) C 2 dL_apart_10 rfl rfl ?_
  refine k_callSI (n := 4) (q := 14) (pre := ([] : va_W)) (post := ([] : va_W)) (w2 := (wLa e cy (qSt nM oM sM gM knM loM lfM) hM tM lM bM rM)) (As := [.int 0, .int (nI p), .ref (e 0), .ref (e 1)]) (rest := [.int (sPlace gM (nI 1) (sM 1) (hM p))]) C (c_L_place cy e nM oM sM gM knM loM lfM hM tM lM bM rM 0 p (by omega) (by omega)) gL_apart_L_place rfl rfl rfl (by decide +kernel) (k_room hR (by decide)) ⟨Nat.zero_le _, Nat.zero_le _⟩  rfl rfl (Nat.le_of_ble_eq_true rfl) ((List.append_nil _).symm) (List.append_nil _) dL_apart_11 rfl ?_
  refine k_isub (q := 15) C dL_apart_14 rfl ?_
  exact k_fin E dL_apart_15 (rfl) (rfl)
