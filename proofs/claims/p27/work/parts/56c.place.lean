abbrev rm_L_place : Room := { frames := 0, cells := 0, slots := 0, locals := 0 }
set_option maxHeartbeats 4000000 in
set_option maxRecDepth 100000 in
theorem c_L_place (cy : Nat → ClassId) (e : Nat → Nat) (nM : Nat) (oM : Nat → Int32) (sM : Nat → Int32) (gM : Nat → Int32) (knM : Nat) (loM : Int32) (lfM : Int32) (hM : Nat → Int32) (tM : Nat → Int32) (lM : Nat → Int32) (bM : Nat → Int32) (rM : Nat → Int32) (j : Nat) (p : Nat)  (hj : j < 2) (hp : p < 6) : kI yL_place wsL_place rm_L_place cy [.int (nI j), .int (nI p), .ref (e 0), .ref (e 1)] (wLa e cy (qSt nM oM sM gM knM loM lfM) hM tM lM bM rM) (sPlace gM (nI j) (sM j) (hM p)) (wLa e cy (qSt nM oM sM gM knM loM lfM) hM tM lM bM rM) := by
  refine kI_of (cc := cL_place) (maxL := 4) (rt := .int) (by decide) rfl (rfl) (Nat.le_of_ble_eq_true rfl) ?_
  intro X hR C E
  have C : kC X 4 RL cL_place wsL_place cy := C
  refine k_fr (fr2 := [(0, .int (nI j)), (1, .int (nI p)), (2, .ref (e 0)), (3, .ref (e 1))]) ⟨[0, 1, 2, 3], rfl⟩ ?_
  refine k_iload_n (q := 1) C 0 dL_place_0 rfl rfl ?_
  refine k_aload_n (q := 2) C 2 dL_place_1 rfl rfl ?_
  refine k_iconst (q := 3) (v := 0) C dL_place_2 (by decide) rfl ?_
  refine k_iald (q := 4) C 0 rfl (vp_in_nI (n := 0) (by decide) (by decide)) dL_place_3 rfl ?_
  refine k_sti (show (qSt nM oM sM gM knM loM lfM) (0 : Int32).toNatClampNeg = (qSt nM oM sM gM knM loM lfM) 0 from congrArg (qSt nM oM sM gM knM loM lfM) (nI_clamp (n := 0) (by decide))) ?_
  refine k_sti (show (qSt nM oM sM gM knM loM lfM) 0 = gM 0 from mSt_g (k := 0) (by decide)) ?_
  refine k_imul (q := 5) C dL_place_4 rfl ?_
  refine k_aload_n (q := 6) C 2 dL_place_5 rfl rfl ?_
  refine k_iconst (q := 7) (v := 4) C dL_place_6 (by decide) rfl ?_
  refine k_iload_n (q := 8) C 0 dL_place_7 rfl rfl ?_
  refine k_iadd (q := 9) C dL_place_8 rfl ?_
  refine k_sti (show 4 + (nI j) = nI (4 + j) from nI_add 4 j) ?_
  refine k_iald (q := 10) C 0 rfl (vp_in_nI (n := 4 + j) (by omega) (by decide)) dL_place_9 rfl ?_
  refine k_sti (show (qSt nM oM sM gM knM loM lfM) (nI (4 + j)).toNatClampNeg = (qSt nM oM sM gM knM loM lfM) (4 + j) from congrArg (qSt nM oM sM gM knM loM lfM) (nI_clamp (n := 4 + j) (by omega))) ?_
  refine k_sti (show (qSt nM oM sM gM knM loM lfM) (4 + j) = sM j from mSt_s (k := j) (by omega)) ?_
  refine k_aload_n (q := 11) C 3 dL_place_10 rfl rfl ?_
  refine k_iload_n (q := 12) C 1 dL_place_11 rfl rfl ?_
  refine k_iald (q := 13) C 1 rfl (vp_in_nI (n := p) (by omega) (by decide)) dL_place_12 rfl ?_
  refine k_sti (show hM (nI p).toNatClampNeg = hM p from congrArg hM (nI_clamp (n := p) (by omega))) ?_
  refine k_imul (q := 14) C dL_place_13 rfl ?_
  refine k_bipush (q := 16) (v := 10) C dL_place_14 (by decide +kernel) rfl ?_
  refine k_idiv (q := 17) C dL_place_16 (by decide) rfl ?_
  refine k_iadd (q := 18) C dL_place_17 rfl ?_
  exact k_fin E dL_place_18 (lPl (g := gM) (s := sM) (h := hM) (j := j) (p := p) hj) (rfl)
