abbrev rm_L_drops : Room := { frames := 0, cells := 0, slots := 0, locals := 0 }
set_option maxHeartbeats 4000000 in
set_option maxRecDepth 100000 in
theorem lp_L_drops_16 (cy : Nat → ClassId) (e : Nat → Nat) (nM : Nat) (oM : Nat → Int32) (sM : Nat → Int32) (gM : Nat → Int32) (knM : Nat) (loM : Int32) (lfM : Int32) (hM : Nat → Int32) (tM : Nat → Int32) (lM : Nat → Int32) (bM : Nat → Int32) (rM : Nat → Int32) (p : Nat)  (hn : nM ≤ 6) (hp : p < nM) (X : kX) (hR : xR X = rm_L_drops) (C : kC X 6 RL cL_drops wsL_drops cy) (E : kEnd X 6 cL_drops (hM p) (wLa e cy (qSt (nM - 1) oM sM gM knM loM lfM) (sDn hM p nM) (sDn tM p nM) lM bM rM)) : ∀ (fu : Nat) (k : Nat), nM - k < fu → (p ≤ k) → (k + 1 ≤ nM) → kG X 6 0 0 (wLa e cy (qSt (nM - 1) oM sM gM knM loM lfM) (sDn hM p (k + 1)) (sDn tM p (k + 1)) lM bM rM) 16 [(0, .int (nI p)), (1, .ref (e 0)), (2, .ref (e 1)), (3, .ref (e 2)), (4, .int (hM p)), (5, .int (nI k))] [] := by
  intro fu
  induction fu with
  | zero => intro k hfu; exact absurd hfu (Nat.not_lt_zero _)
  | succ fu ih =>
    intro k hfu h1 h2
    refine k_iload (q := 18) C 5 dL_drops_16 rfl rfl ?_
    refine k_aload_n (q := 19) C 1 dL_drops_18 rfl rfl ?_
    refine k_bipush (q := 21) (v := 8) C dL_drops_19 (by decide +kernel) rfl ?_
    refine k_iald (q := 22) C 0 rfl (vp_in_nI (n := 8) (by decide) (by decide)) dL_drops_21 rfl ?_
    refine k_sti (show (qSt (nM - 1) oM sM gM knM loM lfM) (8 : Int32).toNatClampNeg = (qSt (nM - 1) oM sM gM knM loM lfM) 8 from congrArg (qSt (nM - 1) oM sM gM knM loM lfM) (nI_clamp (n := 8) (by decide))) ?_
    refine k_sti (show (qSt (nM - 1) oM sM gM knM loM lfM) 8 = nI (nM - 1) from rfl) ?_
    refine k_nicmp_ge (a := k) (b := nM - 1)  (tgt := 51) (q := 25) C dL_drops_22 (by decide) rfl (by omega) (by omega) ?_ ?_
    · intro c_22
      have hke : k + 1 = nM := by omega
      refine k_iload (q := 53) C 4 dL_drops_51 rfl rfl ?_
      exact k_fin E dL_drops_53 (rfl) (by rw [hke])
    · intro c_22
      refine k_aload_n (q := 26) C 2 dL_drops_25 rfl rfl ?_
      refine k_iload (q := 28) C 5 dL_drops_26 rfl rfl ?_
      refine k_aload_n (q := 29) C 2 dL_drops_28 rfl rfl ?_
      refine k_iload (q := 31) C 5 dL_drops_29 rfl rfl ?_
      refine k_iconst (q := 32) (v := 1) C dL_drops_31 (by decide) rfl ?_
      refine k_iadd (q := 33) C dL_drops_32 rfl ?_
      refine k_sti (show (nI k) + 1 = nI (k + 1) from nI_add k 1) ?_
      refine k_iald (q := 34) C 1 rfl (vp_in_nI (n := k + 1) (by omega) (by decide)) dL_drops_33 rfl ?_
      refine k_sti (show (sDn hM p (k + 1)) (nI (k + 1)).toNatClampNeg = (sDn hM p (k + 1)) (k + 1) from congrArg (sDn hM p (k + 1)) (nI_clamp (n := k + 1) (by omega))) ?_
      refine k_sti (show (sDn hM p (k + 1)) (k + 1) = hM (k + 1) from sDn_at) ?_
      refine k_iast (q := 35) (w2 := (wLa e cy (qSt (nM - 1) oM sM gM knM loM lfM) (upd (sDn hM p (k + 1)) k (hM (k + 1))) (sDn tM p (k + 1)) lM bM rM)) C 1 rfl (vp_in_nI (n := k) (by omega) (by decide)) (by rw [nI_clamp (n := k) (by omega)]; rfl) dL_drops_34 rfl ?_
      refine k_w (w2 := (wLa e cy (qSt (nM - 1) oM sM gM knM loM lfM) (sDn hM p (k + 1 + 1)) (sDn tM p (k + 1)) lM bM rM)) (by rw [sDn_k h1]) ?_
      refine k_aload_n (q := 36) C 3 dL_drops_35 rfl rfl ?_
      refine k_iload (q := 38) C 5 dL_drops_36 rfl rfl ?_
      refine k_aload_n (q := 39) C 3 dL_drops_38 rfl rfl ?_
      refine k_iload (q := 41) C 5 dL_drops_39 rfl rfl ?_
      refine k_iconst (q := 42) (v := 1) C dL_drops_41 (by decide) rfl ?_
      refine k_iadd (q := 43) C dL_drops_42 rfl ?_
      refine k_sti (show (nI k) + 1 = nI (k + 1) from nI_add k 1) ?_
      refine k_iald (q := 44) C 2 rfl (vp_in_nI (n := k + 1) (by omega) (by decide)) dL_drops_43 rfl ?_
      refine k_sti (show (sDn tM p (k + 1)) (nI (k + 1)).toNatClampNeg = (sDn tM p (k + 1)) (k + 1) from congrArg (sDn tM p (k + 1)) (nI_clamp (n := k + 1) (by omega))) ?_
      refine k_sti (show (sDn tM p (k + 1)) (k + 1) = tM (k + 1) from sDn_at) ?_
      refine k_iast (q := 45) (w2 := (wLa e cy (qSt (nM - 1) oM sM gM knM loM lfM) (sDn hM p (k + 1 + 1)) (upd (sDn tM p (k + 1)) k (tM (k + 1))) lM bM rM)) C 2 rfl (vp_in_nI (n := k) (by omega) (by decide)) (by rw [nI_clamp (n := k) (by omega)]; rfl) dL_drops_44 rfl ?_
      refine k_w (w2 := (wLa e cy (qSt (nM - 1) oM sM gM knM loM lfM) (sDn hM p (k + 1 + 1)) (sDn tM p (k + 1 + 1)) lM bM rM)) (by rw [sDn_k h1]) ?_
      refine k_iinc (q := 48) (v := nI (k + 1)) (fr2 := [(5, .int (nI (k + 1))), (0, .int (nI p)), (1, .ref (e 0)), (2, .ref (e 1)), (3, .ref (e 2)), (4, .int (hM p))]) C 5 dL_drops_45 rfl (nI_add k 1) (by decide) rfl rfl ?_
      refine k_goto (q := 16) C dL_drops_48 (by decide) ?_
      refine k_fr (fr2 := [(0, .int (nI p)), (1, .ref (e 0)), (2, .ref (e 1)), (3, .ref (e 2)), (4, .int (hM p)), (5, .int (nI (k + 1)))]) ⟨[1, 2, 3, 4, 5, 0], rfl⟩ ?_
      exact ih (k + 1) (by omega) (by omega) (by omega)
set_option maxHeartbeats 4000000 in
set_option maxRecDepth 100000 in
theorem c_L_drops (cy : Nat → ClassId) (e : Nat → Nat) (nM : Nat) (oM : Nat → Int32) (sM : Nat → Int32) (gM : Nat → Int32) (knM : Nat) (loM : Int32) (lfM : Int32) (hM : Nat → Int32) (tM : Nat → Int32) (lM : Nat → Int32) (bM : Nat → Int32) (rM : Nat → Int32) (p : Nat)  (hn : nM ≤ 6) (hp : p < nM) : kI yL_drops wsL_drops rm_L_drops cy [.int (nI p), .ref (e 0), .ref (e 1), .ref (e 2)] (wLa e cy (qSt nM oM sM gM knM loM lfM) hM tM lM bM rM) (hM p) (wLa e cy (qSt (nM - 1) oM sM gM knM loM lfM) (sDn hM p nM) (sDn tM p nM) lM bM rM) := by
  refine kI_of (cc := cL_drops) (maxL := 6) (rt := .int) (by decide) rfl (rfl) (Nat.le_of_ble_eq_true rfl) ?_
  intro X hR C E
  have C : kC X 6 RL cL_drops wsL_drops cy := C
  refine k_fr (fr2 := [(0, .int (nI p)), (1, .ref (e 0)), (2, .ref (e 1)), (3, .ref (e 2))]) ⟨[0, 1, 2, 3], rfl⟩ ?_
  refine k_aload_n (q := 1) C 2 dL_drops_0 rfl rfl ?_
  refine k_iload_n (q := 2) C 0 dL_drops_1 rfl rfl ?_
  refine k_iald (q := 3) C 1 rfl (vp_in_nI (n := p) (by omega) (by decide)) dL_drops_2 rfl ?_
  refine k_sti (show hM (nI p).toNatClampNeg = hM p from congrArg hM (nI_clamp (n := p) (by omega))) ?_
  refine k_istore (q := 5) (fr2 := [(4, .int (hM p)), (0, .int (nI p)), (1, .ref (e 0)), (2, .ref (e 1)), (3, .ref (e 2))]) C dL_drops_3 (by decide) rfl rfl ?_
  refine k_aload_n (q := 6) C 2 dL_drops_5 rfl rfl ?_
  refine k_bipush (q := 8) (v := 8) C dL_drops_6 (by decide +kernel) rfl ?_
  refine k_dup2 (q := 9) C dL_drops_8 rfl rfl rfl ?_
  refine k_iald (q := 10) C 0 rfl (vp_in_nI (n := 8) (by decide) (by decide)) dL_drops_9 rfl ?_
  refine k_sti (show (qSt nM oM sM gM knM loM lfM) (8 : Int32).toNatClampNeg = (qSt nM oM sM gM knM loM lfM) 8 from congrArg (qSt nM oM sM gM knM loM lfM) (nI_clamp (n := 8) (by decide))) ?_
  refine k_sti (show (qSt nM oM sM gM knM loM lfM) 8 = nI nM from rfl) ?_
  refine k_iconst (q := 11) (v := 1) C dL_drops_10 (by decide) rfl ?_
  refine k_isub (q := 12) C dL_drops_11 rfl ?_
  refine k_sti (show (nI nM) - 1 = nI (nM - 1) from pk_sub (a := nM) (b := 1) (by omega)) ?_
  refine k_iast (q := 13) (w2 := (wLa e cy (qSt (nM - 1) oM sM gM knM loM lfM) hM tM lM bM rM)) C 0 rfl (vp_in_nI (n := 8) (by decide) (by decide)) (by exact wLa_q (mSt_w8 (nM - 1))) dL_drops_12 rfl ?_
  refine k_iload_n (q := 14) C 1 dL_drops_13 rfl rfl ?_
  refine k_istore (q := 16) (fr2 := [(5, .int (nI p)), (4, .int (hM p)), (0, .int (nI p)), (1, .ref (e 0)), (2, .ref (e 1)), (3, .ref (e 2))]) C dL_drops_14 (by decide) rfl rfl ?_
  refine k_fr (fr2 := [(0, .int (nI p)), (1, .ref (e 0)), (2, .ref (e 1)), (3, .ref (e 2)), (4, .int (hM p)), (5, .int (nI p))]) ⟨[2, 3, 4, 5, 1, 0], rfl⟩ ?_
  have K := lp_L_drops_16 cy e nM oM sM gM knM loM lfM hM tM lM bM rM p hn hp X hR C E _ p (Nat.lt_succ_self _) (Nat.le_refl _) (by omega)
  rw [sDn_0, sDn_0] at K
  exact K
