abbrev rm_L_due : Room := { frames := 5, cells := 0, slots := 0, locals := 121 }
set_option maxHeartbeats 4000000 in
set_option maxRecDepth 100000 in
theorem lp_L_due_layer_95 (cy : Nat → ClassId) (e : Nat → Nat) (nM : Nat) (oM : Nat → Int32) (sM : Nat → Int32) (gM : Nat → Int32) (knM : Nat) (loM : Int32) (lfM : Int32) (hM : Nat → Int32) (tM : Nat → Int32) (lM : Nat → Int32) (bM : Nat → Int32) (rM : Nat → Int32) (x : Int32) (y : Int32)  (hn : nM ≤ 6) (hw : nM < 6 ∧ sAny hM x nM = false) (hP : lCnt hM x nM = sPos hM x nM) (X : kX) (hR : xR X = rm_L_due) (C : kC X 12 RL cL_due wsL_due cy) (E : kEnd X 12 cL_due (nI (sPos hM x nM)) (wLa e cy (qSt (nM + 1) oM sM gM knM loM lfM) (sIns hM nM (sPos hM x nM) x) (sIns tM nM (sPos hM x nM) y) lM bM rM)) : ∀ (fu : Nat) (k : Nat), k < fu → (k ≤ nM) → (sPos hM x nM ≤ k) → kG X 12 0 0 (wLa e cy (qSt nM oM sM gM knM loM lfM) (sUp hM nM k) (sUp tM nM k) lM bM rM) 95 [(0, .int 0), (1, .int x), (2, .int y), (3, .ref (e 0)), (4, .ref (e 1)), (5, .ref (e 2)), (10, .int (nI (sPos hM x nM))), (11, .int (nI k))] [] := by
  intro fu
  induction fu with
  | zero => intro k hfu; exact absurd hfu (Nat.not_lt_zero _)
  | succ fu ih =>
    intro k hfu hk h1
    refine k_iload (q := 97) C 7 dL_due_95 rfl rfl ?_
    refine k_iload (q := 99) C 6 dL_due_97 rfl rfl ?_
    refine k_nicmp_le (a := k) (b := sPos hM x nM)  (tgt := 132) (q := 102) C dL_due_99 (by decide) rfl (by omega) (by omega) ?_ ?_
    · intro c_99
      have hkp : k = sPos hM x nM := by omega
      have hp6 : sPos hM x nM ≤ nM := sPos_le hM x nM
      refine k_w (w2 := (wLa e cy (qSt nM oM sM gM knM loM lfM) (sUp hM nM (sPos hM x nM)) (sUp tM nM (sPos hM x nM)) lM bM rM)) (by rw [hkp]) ?_
      refine k_aload (q := 134) C 4 dL_due_132 rfl rfl ?_
      refine k_iload (q := 136) C 6 dL_due_134 rfl rfl ?_
      refine k_iload_n (q := 137) C 1 dL_due_136 rfl rfl ?_
      refine k_iast (q := 138) (w2 := (wLa e cy (qSt nM oM sM gM knM loM lfM) (upd (sUp hM nM (sPos hM x nM)) (sPos hM x nM) x) (sUp tM nM (sPos hM x nM)) lM bM rM)) C 1 rfl (vp_in_nI (n := sPos hM x nM) (by omega) (by decide)) (by rw [nI_clamp (n := sPos hM x nM) (by omega)]; rfl) dL_due_137 rfl ?_
      refine k_aload (q := 140) C 5 dL_due_138 rfl rfl ?_
      refine k_iload (q := 142) C 6 dL_due_140 rfl rfl ?_
      refine k_iload_n (q := 143) C 2 dL_due_142 rfl rfl ?_
      refine k_iast (q := 144) (w2 := (wLa e cy (qSt nM oM sM gM knM loM lfM) (upd (sUp hM nM (sPos hM x nM)) (sPos hM x nM) x) (upd (sUp tM nM (sPos hM x nM)) (sPos hM x nM) y) lM bM rM)) C 2 rfl (vp_in_nI (n := sPos hM x nM) (by omega) (by decide)) (by rw [nI_clamp (n := sPos hM x nM) (by omega)]; rfl) dL_due_143 rfl ?_
      refine k_aload_n (q := 145) C 3 dL_due_144 rfl rfl ?_
      refine k_bipush (q := 147) (v := 8) C dL_due_145 (by decide +kernel) rfl ?_
      refine k_dup2 (q := 148) C dL_due_147 rfl rfl rfl ?_
      refine k_iald (q := 149) C 0 rfl (vp_in_nI (n := 8) (by decide) (by decide)) dL_due_148 rfl ?_
      refine k_sti (show (qSt nM oM sM gM knM loM lfM) (8 : Int32).toNatClampNeg = (qSt nM oM sM gM knM loM lfM) 8 from congrArg (qSt nM oM sM gM knM loM lfM) (nI_clamp (n := 8) (by decide))) ?_
      refine k_sti (show (qSt nM oM sM gM knM loM lfM) 8 = nI nM from rfl) ?_
      refine k_iconst (q := 150) (v := 1) C dL_due_149 (by decide) rfl ?_
      refine k_iadd (q := 151) C dL_due_150 rfl ?_
      refine k_sti (show (nI nM) + 1 = nI (nM + 1) from nI_add nM 1) ?_
      refine k_iast (q := 152) (w2 := (wLa e cy (qSt (nM + 1) oM sM gM knM loM lfM) (upd (sUp hM nM (sPos hM x nM)) (sPos hM x nM) x) (upd (sUp tM nM (sPos hM x nM)) (sPos hM x nM) y) lM bM rM)) C 0 rfl (vp_in_nI (n := 8) (by decide) (by decide)) (by exact wLa_q (mSt_w8 (nM + 1))) dL_due_151 rfl ?_
      refine k_iload (q := 154) C 6 dL_due_152 rfl rfl ?_
      exact k_fin E dL_due_154 (rfl) (rfl)
    · intro c_99
      refine k_aload (q := 104) C 4 dL_due_102 rfl rfl ?_
      refine k_iload (q := 106) C 7 dL_due_104 rfl rfl ?_
      refine k_aload (q := 108) C 4 dL_due_106 rfl rfl ?_
      refine k_iload (q := 110) C 7 dL_due_108 rfl rfl ?_
      refine k_iconst (q := 111) (v := 1) C dL_due_110 (by decide) rfl ?_
      refine k_isub (q := 112) C dL_due_111 rfl ?_
      refine k_sti (show (nI k) - 1 = nI (k - 1) from pk_sub (a := k) (b := 1) (by omega)) ?_
      refine k_iald (q := 113) C 1 rfl (vp_in_nI (n := k - 1) (by omega) (by decide)) dL_due_112 rfl ?_
      refine k_sti (show (sUp hM nM k) (nI (k - 1)).toNatClampNeg = (sUp hM nM k) (k - 1) from congrArg (sUp hM nM k) (nI_clamp (n := k - 1) (by omega))) ?_
      refine k_sti (show (sUp hM nM k) (k - 1) = hM (k - 1) from sUp_p (by omega)) ?_
      refine k_iast (q := 114) (w2 := (wLa e cy (qSt nM oM sM gM knM loM lfM) (upd (sUp hM nM k) k (hM (k - 1))) (sUp tM nM k) lM bM rM)) C 1 rfl (vp_in_nI (n := k) (by omega) (by decide)) (by rw [nI_clamp (n := k) (by omega)]; rfl) dL_due_113 rfl ?_
      refine k_w (w2 := (wLa e cy (qSt nM oM sM gM knM loM lfM) (sUp hM nM (k - 1)) (sUp tM nM k) lM bM rM)) (by rw [sUp_d (by omega) hk]) ?_
      refine k_aload (q := 116) C 5 dL_due_114 rfl rfl ?_
      refine k_iload (q := 118) C 7 dL_due_116 rfl rfl ?_
      refine k_aload (q := 120) C 5 dL_due_118 rfl rfl ?_
      refine k_iload (q := 122) C 7 dL_due_120 rfl rfl ?_
      refine k_iconst (q := 123) (v := 1) C dL_due_122 (by decide) rfl ?_
      refine k_isub (q := 124) C dL_due_123 rfl ?_
      refine k_sti (show (nI k) - 1 = nI (k - 1) from pk_sub (a := k) (b := 1) (by omega)) ?_
      refine k_iald (q := 125) C 2 rfl (vp_in_nI (n := k - 1) (by omega) (by decide)) dL_due_124 rfl ?_
      refine k_sti (show (sUp tM nM k) (nI (k - 1)).toNatClampNeg = (sUp tM nM k) (k - 1) from congrArg (sUp tM nM k) (nI_clamp (n := k - 1) (by omega))) ?_
      refine k_sti (show (sUp tM nM k) (k - 1) = tM (k - 1) from sUp_p (by omega)) ?_
      refine k_iast (q := 126) (w2 := (wLa e cy (qSt nM oM sM gM knM loM lfM) (sUp hM nM (k - 1)) (upd (sUp tM nM k) k (tM (k - 1))) lM bM rM)) C 2 rfl (vp_in_nI (n := k) (by omega) (by decide)) (by rw [nI_clamp (n := k) (by omega)]; rfl) dL_due_125 rfl ?_
      refine k_w (w2 := (wLa e cy (qSt nM oM sM gM knM loM lfM) (sUp hM nM (k - 1)) (sUp tM nM (k - 1)) lM bM rM)) (by rw [sUp_d (by omega) hk]) ?_
      refine k_iinc (q := 129) (v := nI (k - 1)) (fr2 := [(11, .int (nI (k - 1))), (0, .int 0), (1, .int x), (2, .int y), (3, .ref (e 0)), (4, .ref (e 1)), (5, .ref (e 2)), (10, .int (nI (sPos hM x nM)))]) C 7 dL_due_126 rfl ((by rw [show (Int32.ofInt (-1)) = -1 from by decide +kernel, ← Int32.sub_eq_add_neg]; exact pk_sub (a := k) (b := 1) (by omega))) (by decide) rfl rfl ?_
      refine k_goto (q := 95) C dL_due_129 (by decide) ?_
      refine k_fr (fr2 := [(0, .int 0), (1, .int x), (2, .int y), (3, .ref (e 0)), (4, .ref (e 1)), (5, .ref (e 2)), (10, .int (nI (sPos hM x nM))), (11, .int (nI (k - 1)))]) ⟨[1, 2, 3, 4, 5, 6, 7, 0], rfl⟩ ?_
      exact ih (k - 1) (by omega) (by omega) (by omega)
set_option maxHeartbeats 4000000 in
set_option maxRecDepth 100000 in
theorem lp_L_due_layer_26 (cy : Nat → ClassId) (e : Nat → Nat) (nM : Nat) (oM : Nat → Int32) (sM : Nat → Int32) (gM : Nat → Int32) (knM : Nat) (loM : Int32) (lfM : Int32) (hM : Nat → Int32) (tM : Nat → Int32) (lM : Nat → Int32) (bM : Nat → Int32) (rM : Nat → Int32) (x : Int32) (y : Int32)  (hn : nM ≤ 6) (hw : nM < 6 ∧ sAny hM x nM = false) (hP : lCnt hM x nM = sPos hM x nM) (X : kX) (hR : xR X = rm_L_due) (C : kC X 12 RL cL_due wsL_due cy) (E : kEnd X 12 cL_due (nI (sPos hM x nM)) (wLa e cy (qSt (nM + 1) oM sM gM knM loM lfM) (sIns hM nM (sPos hM x nM) x) (sIns tM nM (sPos hM x nM) y) lM bM rM)) : ∀ (fu : Nat) (k : Nat), nM - k < fu → (k ≤ nM) → kG X 12 0 0 (wLa e cy (qSt nM oM sM gM knM loM lfM) hM tM lM bM rM) 26 [(0, .int 0), (1, .int x), (2, .int y), (3, .ref (e 0)), (4, .ref (e 1)), (5, .ref (e 2)), (9, .int (bI (nM < 6 ∧ sAny hM x k = false))), (10, .int (nI (lCnt hM x k))), (11, .int (nI k))] [] := by
  intro fu
  induction fu with
  | zero => intro k hfu; exact absurd hfu (Nat.not_lt_zero _)
  | succ fu ih =>
    intro k hfu hk
    have hcl := lCnt_le hM x k
    refine k_iload (q := 28) C 8 dL_due_26 rfl rfl ?_
    refine k_aload_n (q := 29) C 3 dL_due_28 rfl rfl ?_
    refine k_bipush (q := 31) (v := 8) C dL_due_29 (by decide +kernel) rfl ?_
    refine k_iald (q := 32) C 0 rfl (vp_in_nI (n := 8) (by decide) (by decide)) dL_due_31 rfl ?_
    refine k_sti (show (qSt nM oM sM gM knM loM lfM) (8 : Int32).toNatClampNeg = (qSt nM oM sM gM knM loM lfM) 8 from congrArg (qSt nM oM sM gM knM loM lfM) (nI_clamp (n := 8) (by decide))) ?_
    refine k_sti (show (qSt nM oM sM gM knM loM lfM) 8 = nI nM from rfl) ?_
    refine k_nicmp_ge (a := k) (b := nM)  (tgt := 81) (q := 35) C dL_due_32 (by decide) rfl (by omega) (by omega) ?_ ?_
    · intro c_32
      have hke : k = nM := by omega
      obtain rfl : nM = k := hke.symm
      refine k_iload (q := 83) C 6 dL_due_81 rfl rfl ?_
      refine k_ifB_ne (tgt := 89) (q := 86) C dL_due_83 (by decide) rfl ?_ ?_
      · intro c_83
        have e_89_10 : nI (lCnt hM x nM) = nI (sPos hM x nM) := by rw [hP]
        rw [e_89_10]
        refine k_aload_n (q := 90) C 3 dL_due_89 rfl rfl ?_
        refine k_bipush (q := 92) (v := 8) C dL_due_90 (by decide +kernel) rfl ?_
        refine k_iald (q := 93) C 0 rfl (vp_in_nI (n := 8) (by decide) (by decide)) dL_due_92 rfl ?_
        refine k_sti (show (qSt nM oM sM gM knM loM lfM) (8 : Int32).toNatClampNeg = (qSt nM oM sM gM knM loM lfM) 8 from congrArg (qSt nM oM sM gM knM loM lfM) (nI_clamp (n := 8) (by decide))) ?_
        refine k_sti (show (qSt nM oM sM gM knM loM lfM) 8 = nI nM from rfl) ?_
        refine k_istore (q := 95) (fr2 := [(11, .int (nI nM)), (0, .int 0), (1, .int x), (2, .int y), (3, .ref (e 0)), (4, .ref (e 1)), (5, .ref (e 2)), (9, .int (bI (nM < 6 ∧ sAny hM x nM = false))), (10, .int (nI (sPos hM x nM)))]) C dL_due_93 (by decide) rfl rfl ?_
        refine k_fr (fr2 := [(0, .int 0), (1, .int x), (2, .int y), (3, .ref (e 0)), (4, .ref (e 1)), (5, .ref (e 2)), (10, .int (nI (sPos hM x nM))), (11, .int (nI nM))]) ⟨[1, 2, 3, 4, 5, 6, 8, 0], rfl⟩ ?_
        have K := lp_L_due_layer_95 cy e nM oM sM gM knM loM lfM hM tM lM bM rM x y hn hw hP X hR C E _ nM (Nat.lt_succ_self _) (Nat.le_refl _) (sPos_le hM x nM)
        rw [sUp_0, sUp_0] at K
        exact K
      · exact fun c_83 => absurd hw c_83
    · intro c_32
      have J_35 : kG X 12 0 0 (wLa e cy (qSt nM oM sM gM knM loM lfM) hM tM lM bM rM) 54 [(0, .int 0), (1, .int x), (2, .int y), (3, .ref (e 0)), (4, .ref (e 1)), (5, .ref (e 2)), (9, .int (bI (nM < 6 ∧ sAny hM x k = false))), (10, .int (nI (lCnt hM x k))), (11, .int (nI k))] [.int (bI (nM < 6 ∧ sAny hM x (k + 1) = false))] := by
        refine k_istore (q := 56) (fr2 := [(9, .int (bI (nM < 6 ∧ sAny hM x (k + 1) = false))), (0, .int 0), (1, .int x), (2, .int y), (3, .ref (e 0)), (4, .ref (e 1)), (5, .ref (e 2)), (10, .int (nI (lCnt hM x k))), (11, .int (nI k))]) C dL_due_54 (by decide) rfl rfl ?_
        refine k_iload (q := 58) C 7 dL_due_56 rfl rfl ?_
        have J_58 : kG X 12 0 0 (wLa e cy (qSt nM oM sM gM knM loM lfM) hM tM lM bM rM) 72 [(9, .int (bI (nM < 6 ∧ sAny hM x (k + 1) = false))), (0, .int 0), (1, .int x), (2, .int y), (3, .ref (e 0)), (4, .ref (e 1)), (5, .ref (e 2)), (10, .int (nI (lCnt hM x k))), (11, .int (nI k))] [.int (nI (lOne hM x k)), .int (nI (lCnt hM x k))] := by
          refine k_iadd (q := 73) C dL_due_72 rfl ?_
          refine k_sti (show (nI (lCnt hM x k)) + (nI (lOne hM x k)) = nI (lCnt hM x k + (lOne hM x k)) from nI_add (lCnt hM x k) (lOne hM x k)) ?_
          refine k_istore (q := 75) (fr2 := [(10, .int (nI (lCnt hM x k + (lOne hM x k)))), (9, .int (bI (nM < 6 ∧ sAny hM x (k + 1) = false))), (0, .int 0), (1, .int x), (2, .int y), (3, .ref (e 0)), (4, .ref (e 1)), (5, .ref (e 2)), (11, .int (nI k))]) C dL_due_73 (by decide) rfl rfl ?_
          refine k_iinc (q := 78) (v := nI (k + 1)) (fr2 := [(11, .int (nI (k + 1))), (10, .int (nI (lCnt hM x k + (lOne hM x k)))), (9, .int (bI (nM < 6 ∧ sAny hM x (k + 1) = false))), (0, .int 0), (1, .int x), (2, .int y), (3, .ref (e 0)), (4, .ref (e 1)), (5, .ref (e 2))]) C 8 dL_due_75 rfl (nI_add k 1) (by decide) rfl rfl ?_
          refine k_goto (q := 26) C dL_due_78 (by decide) ?_
          refine k_fr (fr2 := [(0, .int 0), (1, .int x), (2, .int y), (3, .ref (e 0)), (4, .ref (e 1)), (5, .ref (e 2)), (9, .int (bI (nM < 6 ∧ sAny hM x (k + 1) = false))), (10, .int (nI (lCnt hM x k + (lOne hM x k)))), (11, .int (nI (k + 1)))]) ⟨[3, 4, 5, 6, 7, 8, 2, 1, 0], rfl⟩ ?_
          exact ih (k + 1) (by omega) (by omega)
        refine k_aload (q := 60) C 5 dL_due_58 rfl rfl ?_
        refine k_iload (q := 62) C 8 dL_due_60 rfl rfl ?_
        refine k_iald (q := 63) C 1 rfl (vp_in_nI (n := k) (by omega) (by decide)) dL_due_62 rfl ?_
        refine k_sti (show hM (nI k).toNatClampNeg = hM k from congrArg hM (nI_clamp (n := k) (by omega))) ?_
        refine k_iload_n (q := 64) C 2 dL_due_63 rfl rfl ?_
        refine k_icmp_ge (tgt := 71) (q := 67) C dL_due_64 (by decide) rfl ?_ ?_
        · intro c_64
          refine k_iconst (q := 72) (v := 0) C dL_due_71 (by decide) rfl ?_
          exact k_sti (show 0 = nI (lOne hM x k) from lOne_n c_64) J_58
        · intro c_64
          have c_64 := Int32.not_le.mp c_64
          refine k_iconst (q := 68) (v := 1) C dL_due_67 (by decide) rfl ?_
          refine k_goto (q := 72) C dL_due_68 (by decide) ?_
          exact k_sti (show 1 = nI (lOne hM x k) from lOne_y c_64) J_58
      refine k_iload (q := 37) C 6 dL_due_35 rfl rfl ?_
      refine k_ifB_eq (tgt := 53) (q := 40) C dL_due_37 (by decide) rfl ?_ ?_
      · intro c_37
        refine k_iconst (q := 54) (v := 0) C dL_due_53 (by decide) rfl ?_
        exact k_sti (show 0 = bI (nM < 6 ∧ sAny hM x (k + 1) = false) from bI_f (fun q => c_37 ⟨q.1, sAny_b q.2⟩)) J_35
      · intro c_37
        refine k_aload (q := 42) C 4 dL_due_40 rfl rfl ?_
        refine k_iload (q := 44) C 8 dL_due_42 rfl rfl ?_
        refine k_iald (q := 45) C 1 rfl (vp_in_nI (n := k) (by omega) (by decide)) dL_due_44 rfl ?_
        refine k_sti (show hM (nI k).toNatClampNeg = hM k from congrArg hM (nI_clamp (n := k) (by omega))) ?_
        refine k_iload_n (q := 46) C 1 dL_due_45 rfl rfl ?_
        refine k_icmp_eq (tgt := 53) (q := 49) C dL_due_46 (by decide) rfl ?_ ?_
        · intro c_46
          refine k_iconst (q := 54) (v := 0) C dL_due_53 (by decide) rfl ?_
          exact k_sti (show 0 = bI (nM < 6 ∧ sAny hM x (k + 1) = false) from bI_f (fun q => absurd (sAny_of (Nat.lt_succ_self k) c_46) (by rw [q.2]; decide))) J_35
        · intro c_46
          refine k_iconst (q := 50) (v := 1) C dL_due_49 (by decide) rfl ?_
          refine k_goto (q := 54) C dL_due_50 (by decide) ?_
          exact k_sti (show 1 = bI (nM < 6 ∧ sAny hM x (k + 1) = false) from bI_t ⟨c_37.1, sAny_s c_37.2 c_46⟩) J_35
set_option maxHeartbeats 4000000 in
set_option maxRecDepth 100000 in
theorem c_L_due_layer (cy : Nat → ClassId) (e : Nat → Nat) (nM : Nat) (oM : Nat → Int32) (sM : Nat → Int32) (gM : Nat → Int32) (knM : Nat) (loM : Int32) (lfM : Int32) (hM : Nat → Int32) (tM : Nat → Int32) (lM : Nat → Int32) (bM : Nat → Int32) (rM : Nat → Int32) (x : Int32) (y : Int32)  (hn : nM ≤ 6) (hw : nM < 6 ∧ sAny hM x nM = false) (hP : lCnt hM x nM = sPos hM x nM) : kI yL_due wsL_due rm_L_due cy [.int 0, .int x, .int y, .ref (e 0), .ref (e 1), .ref (e 2), .ref (e 3), .ref (e 4), .ref (e 5)] (wLa e cy (qSt nM oM sM gM knM loM lfM) hM tM lM bM rM) (nI (sPos hM x nM)) (wLa e cy (qSt (nM + 1) oM sM gM knM loM lfM) (sIns hM nM (sPos hM x nM) x) (sIns tM nM (sPos hM x nM) y) lM bM rM) := by
  refine kI_of (cc := cL_due) (maxL := 12) (rt := .int) (by decide) rfl (rfl) (Nat.le_of_ble_eq_true rfl) ?_
  intro X hR C E
  have C : kC X 12 RL cL_due wsL_due cy := C
  refine k_fr (fr2 := [(0, .int 0), (1, .int x), (2, .int y), (3, .ref (e 0)), (4, .ref (e 1)), (5, .ref (e 2)), (6, .ref (e 3)), (7, .ref (e 4)), (8, .ref (e 5))]) ⟨[0, 1, 2, 3, 4, 5, 6, 7, 8], rfl⟩ ?_
  refine k_iload_n (q := 1) C 0 dL_due_0 rfl rfl ?_
  refine k_if_ne (tgt := 155) (q := 4) C dL_due_1 (by decide) rfl ?_ ?_
  · exact fun c_1 => absurd c_1 (by decide)
  · intro c_1
    have J_4 : kG X 12 0 0 (wLa e cy (qSt nM oM sM gM knM loM lfM) hM tM lM bM rM) 18 [(0, .int 0), (1, .int x), (2, .int y), (3, .ref (e 0)), (4, .ref (e 1)), (5, .ref (e 2)), (6, .ref (e 3)), (7, .ref (e 4)), (8, .ref (e 5))] [.int (bI (nM < 6 ∧ sAny hM x 0 = false))] := by
      refine k_istore (q := 20) (fr2 := [(9, .int (bI (nM < 6 ∧ sAny hM x 0 = false))), (0, .int 0), (1, .int x), (2, .int y), (3, .ref (e 0)), (4, .ref (e 1)), (5, .ref (e 2)), (6, .ref (e 3)), (7, .ref (e 4)), (8, .ref (e 5))]) C dL_due_18 (by decide) rfl rfl ?_
      refine k_iconst (q := 21) (v := 0) C dL_due_20 (by decide) rfl ?_
      refine k_istore (q := 23) (fr2 := [(10, .int 0), (9, .int (bI (nM < 6 ∧ sAny hM x 0 = false))), (0, .int 0), (1, .int x), (2, .int y), (3, .ref (e 0)), (4, .ref (e 1)), (5, .ref (e 2)), (6, .ref (e 3)), (7, .ref (e 4)), (8, .ref (e 5))]) C dL_due_21 (by decide) rfl rfl ?_
      refine k_iconst (q := 24) (v := 0) C dL_due_23 (by decide) rfl ?_
      refine k_istore (q := 26) (fr2 := [(11, .int 0), (10, .int 0), (9, .int (bI (nM < 6 ∧ sAny hM x 0 = false))), (0, .int 0), (1, .int x), (2, .int y), (3, .ref (e 0)), (4, .ref (e 1)), (5, .ref (e 2)), (6, .ref (e 3)), (7, .ref (e 4)), (8, .ref (e 5))]) C dL_due_24 (by decide) rfl rfl ?_
      refine k_fr (fr2 := [(0, .int 0), (1, .int x), (2, .int y), (3, .ref (e 0)), (4, .ref (e 1)), (5, .ref (e 2)), (9, .int (bI (nM < 6 ∧ sAny hM x 0 = false))), (10, .int 0), (11, .int 0)]) ⟨[3, 4, 5, 6, 7, 8, 2, 1, 0], rfl⟩ ?_
      exact lp_L_due_layer_26 cy e nM oM sM gM knM loM lfM hM tM lM bM rM x y hn hw hP X hR C E _ 0 (Nat.lt_succ_self _) (by omega)
    refine k_aload_n (q := 5) C 3 dL_due_4 rfl rfl ?_
    refine k_bipush (q := 7) (v := 8) C dL_due_5 (by decide +kernel) rfl ?_
    refine k_iald (q := 8) C 0 rfl (vp_in_nI (n := 8) (by decide) (by decide)) dL_due_7 rfl ?_
    refine k_sti (show (qSt nM oM sM gM knM loM lfM) (8 : Int32).toNatClampNeg = (qSt nM oM sM gM knM loM lfM) 8 from congrArg (qSt nM oM sM gM knM loM lfM) (nI_clamp (n := 8) (by decide))) ?_
    refine k_sti (show (qSt nM oM sM gM knM loM lfM) 8 = nI nM from rfl) ?_
    refine k_bipush (q := 10) (v := 6) C dL_due_8 (by decide +kernel) rfl ?_
    refine k_nicmp_ge (a := nM) (b := 6)  (tgt := 17) (q := 13) C dL_due_10 (by decide) rfl (by omega) (by decide) ?_ ?_
    · intro c_10
      refine k_iconst (q := 18) (v := 0) C dL_due_17 (by decide) rfl ?_
      exact k_sti (show 0 = bI (nM < 6 ∧ sAny hM x 0 = false) from bI_f (fun q => by omega)) J_4
    · intro c_10
      refine k_iconst (q := 14) (v := 1) C dL_due_13 (by decide) rfl ?_
      refine k_goto (q := 18) C dL_due_14 (by decide) ?_
      exact k_sti (show 1 = bI (nM < 6 ∧ sAny hM x 0 = false) from bI_t ⟨c_10, rfl⟩) J_4
set_option maxHeartbeats 4000000 in
set_option maxRecDepth 100000 in
theorem lp_L_due_layer_e_26 (cy : Nat → ClassId) (e : Nat → Nat) (nM : Nat) (oM : Nat → Int32) (sM : Nat → Int32) (gM : Nat → Int32) (knM : Nat) (loM : Int32) (lfM : Int32) (hM : Nat → Int32) (tM : Nat → Int32) (lM : Nat → Int32) (bM : Nat → Int32) (rM : Nat → Int32) (x : Int32) (y : Int32)  (hn : nM ≤ 6) (hw : ¬ (nM < 6 ∧ sAny hM x nM = false)) (X : kX) (hR : xR X = rm_L_due) (C : kC X 12 RL cL_due wsL_due cy) (E : kEnd X 12 cL_due (-200003) (wLa e cy (qSt nM oM sM gM knM loM lfM) hM tM lM bM rM)) : ∀ (fu : Nat) (k : Nat), nM - k < fu → (k ≤ nM) → kG X 12 0 0 (wLa e cy (qSt nM oM sM gM knM loM lfM) hM tM lM bM rM) 26 [(0, .int 0), (1, .int x), (2, .int y), (3, .ref (e 0)), (4, .ref (e 1)), (5, .ref (e 2)), (9, .int (bI (nM < 6 ∧ sAny hM x k = false))), (10, .int (nI (lCnt hM x k))), (11, .int (nI k))] [] := by
  intro fu
  induction fu with
  | zero => intro k hfu; exact absurd hfu (Nat.not_lt_zero _)
  | succ fu ih =>
    intro k hfu hk
    have hcl := lCnt_le hM x k
    refine k_iload (q := 28) C 8 dL_due_26 rfl rfl ?_
    refine k_aload_n (q := 29) C 3 dL_due_28 rfl rfl ?_
    refine k_bipush (q := 31) (v := 8) C dL_due_29 (by decide +kernel) rfl ?_
    refine k_iald (q := 32) C 0 rfl (vp_in_nI (n := 8) (by decide) (by decide)) dL_due_31 rfl ?_
    refine k_sti (show (qSt nM oM sM gM knM loM lfM) (8 : Int32).toNatClampNeg = (qSt nM oM sM gM knM loM lfM) 8 from congrArg (qSt nM oM sM gM knM loM lfM) (nI_clamp (n := 8) (by decide))) ?_
    refine k_sti (show (qSt nM oM sM gM knM loM lfM) 8 = nI nM from rfl) ?_
    refine k_nicmp_ge (a := k) (b := nM)  (tgt := 81) (q := 35) C dL_due_32 (by decide) rfl (by omega) (by omega) ?_ ?_
    · intro c_32
      have hke : k = nM := by omega
      obtain rfl : nM = k := hke.symm
      refine k_iload (q := 83) C 6 dL_due_81 rfl rfl ?_
      refine k_ifB_ne (tgt := 89) (q := 86) C dL_due_83 (by decide) rfl ?_ ?_
      · exact fun c_83 => absurd c_83 hw
      · intro c_83
        refine k_ldc (q := 88) (v := -200003) C (List.mem_of_getElem? (i := 1) rfl) dL_due_86 rfl ?_
        exact k_fin E dL_due_88 (rfl) (rfl)
    · intro c_32
      have J_35 : kG X 12 0 0 (wLa e cy (qSt nM oM sM gM knM loM lfM) hM tM lM bM rM) 54 [(0, .int 0), (1, .int x), (2, .int y), (3, .ref (e 0)), (4, .ref (e 1)), (5, .ref (e 2)), (9, .int (bI (nM < 6 ∧ sAny hM x k = false))), (10, .int (nI (lCnt hM x k))), (11, .int (nI k))] [.int (bI (nM < 6 ∧ sAny hM x (k + 1) = false))] := by
        refine k_istore (q := 56) (fr2 := [(9, .int (bI (nM < 6 ∧ sAny hM x (k + 1) = false))), (0, .int 0), (1, .int x), (2, .int y), (3, .ref (e 0)), (4, .ref (e 1)), (5, .ref (e 2)), (10, .int (nI (lCnt hM x k))), (11, .int (nI k))]) C dL_due_54 (by decide) rfl rfl ?_
        refine k_iload (q := 58) C 7 dL_due_56 rfl rfl ?_
        have J_58 : kG X 12 0 0 (wLa e cy (qSt nM oM sM gM knM loM lfM) hM tM lM bM rM) 72 [(9, .int (bI (nM < 6 ∧ sAny hM x (k + 1) = false))), (0, .int 0), (1, .int x), (2, .int y), (3, .ref (e 0)), (4, .ref (e 1)), (5, .ref (e 2)), (10, .int (nI (lCnt hM x k))), (11, .int (nI k))] [.int (nI (lOne hM x k)), .int (nI (lCnt hM x k))] := by
          refine k_iadd (q := 73) C dL_due_72 rfl ?_
          refine k_sti (show (nI (lCnt hM x k)) + (nI (lOne hM x k)) = nI (lCnt hM x k + (lOne hM x k)) from nI_add (lCnt hM x k) (lOne hM x k)) ?_
          refine k_istore (q := 75) (fr2 := [(10, .int (nI (lCnt hM x k + (lOne hM x k)))), (9, .int (bI (nM < 6 ∧ sAny hM x (k + 1) = false))), (0, .int 0), (1, .int x), (2, .int y), (3, .ref (e 0)), (4, .ref (e 1)), (5, .ref (e 2)), (11, .int (nI k))]) C dL_due_73 (by decide) rfl rfl ?_
          refine k_iinc (q := 78) (v := nI (k + 1)) (fr2 := [(11, .int (nI (k + 1))), (10, .int (nI (lCnt hM x k + (lOne hM x k)))), (9, .int (bI (nM < 6 ∧ sAny hM x (k + 1) = false))), (0, .int 0), (1, .int x), (2, .int y), (3, .ref (e 0)), (4, .ref (e 1)), (5, .ref (e 2))]) C 8 dL_due_75 rfl (nI_add k 1) (by decide) rfl rfl ?_
          refine k_goto (q := 26) C dL_due_78 (by decide) ?_
          refine k_fr (fr2 := [(0, .int 0), (1, .int x), (2, .int y), (3, .ref (e 0)), (4, .ref (e 1)), (5, .ref (e 2)), (9, .int (bI (nM < 6 ∧ sAny hM x (k + 1) = false))), (10, .int (nI (lCnt hM x k + (lOne hM x k)))), (11, .int (nI (k + 1)))]) ⟨[3, 4, 5, 6, 7, 8, 2, 1, 0], rfl⟩ ?_
          exact ih (k + 1) (by omega) (by omega)
        refine k_aload (q := 60) C 5 dL_due_58 rfl rfl ?_
        refine k_iload (q := 62) C 8 dL_due_60 rfl rfl ?_
        refine k_iald (q := 63) C 1 rfl (vp_in_nI (n := k) (by omega) (by decide)) dL_due_62 rfl ?_
        refine k_sti (show hM (nI k).toNatClampNeg = hM k from congrArg hM (nI_clamp (n := k) (by omega))) ?_
        refine k_iload_n (q := 64) C 2 dL_due_63 rfl rfl ?_
        refine k_icmp_ge (tgt := 71) (q := 67) C dL_due_64 (by decide) rfl ?_ ?_
        · intro c_64
          refine k_iconst (q := 72) (v := 0) C dL_due_71 (by decide) rfl ?_
          exact k_sti (show 0 = nI (lOne hM x k) from lOne_n c_64) J_58
        · intro c_64
          have c_64 := Int32.not_le.mp c_64
          refine k_iconst (q := 68) (v := 1) C dL_due_67 (by decide) rfl ?_
          refine k_goto (q := 72) C dL_due_68 (by decide) ?_
          exact k_sti (show 1 = nI (lOne hM x k) from lOne_y c_64) J_58
      refine k_iload (q := 37) C 6 dL_due_35 rfl rfl ?_
      refine k_ifB_eq (tgt := 53) (q := 40) C dL_due_37 (by decide) rfl ?_ ?_
      · intro c_37
        refine k_iconst (q := 54) (v := 0) C dL_due_53 (by decide) rfl ?_
        exact k_sti (show 0 = bI (nM < 6 ∧ sAny hM x (k + 1) = false) from bI_f (fun q => c_37 ⟨q.1, sAny_b q.2⟩)) J_35
      · intro c_37
        refine k_aload (q := 42) C 4 dL_due_40 rfl rfl ?_
        refine k_iload (q := 44) C 8 dL_due_42 rfl rfl ?_
        refine k_iald (q := 45) C 1 rfl (vp_in_nI (n := k) (by omega) (by decide)) dL_due_44 rfl ?_
        refine k_sti (show hM (nI k).toNatClampNeg = hM k from congrArg hM (nI_clamp (n := k) (by omega))) ?_
        refine k_iload_n (q := 46) C 1 dL_due_45 rfl rfl ?_
        refine k_icmp_eq (tgt := 53) (q := 49) C dL_due_46 (by decide) rfl ?_ ?_
        · intro c_46
          refine k_iconst (q := 54) (v := 0) C dL_due_53 (by decide) rfl ?_
          exact k_sti (show 0 = bI (nM < 6 ∧ sAny hM x (k + 1) = false) from bI_f (fun q => absurd (sAny_of (Nat.lt_succ_self k) c_46) (by rw [q.2]; decide))) J_35
        · intro c_46
          refine k_iconst (q := 50) (v := 1) C dL_due_49 (by decide) rfl ?_
          refine k_goto (q := 54) C dL_due_50 (by decide) ?_
          exact k_sti (show 1 = bI (nM < 6 ∧ sAny hM x (k + 1) = false) from bI_t ⟨c_37.1, sAny_s c_37.2 c_46⟩) J_35
set_option maxHeartbeats 4000000 in
set_option maxRecDepth 100000 in
theorem c_L_due_layer_e (cy : Nat → ClassId) (e : Nat → Nat) (nM : Nat) (oM : Nat → Int32) (sM : Nat → Int32) (gM : Nat → Int32) (knM : Nat) (loM : Int32) (lfM : Int32) (hM : Nat → Int32) (tM : Nat → Int32) (lM : Nat → Int32) (bM : Nat → Int32) (rM : Nat → Int32) (x : Int32) (y : Int32)  (hn : nM ≤ 6) (hw : ¬ (nM < 6 ∧ sAny hM x nM = false)) : kI yL_due wsL_due rm_L_due cy [.int 0, .int x, .int y, .ref (e 0), .ref (e 1), .ref (e 2), .ref (e 3), .ref (e 4), .ref (e 5)] (wLa e cy (qSt nM oM sM gM knM loM lfM) hM tM lM bM rM) (-200003) (wLa e cy (qSt nM oM sM gM knM loM lfM) hM tM lM bM rM) := by
  refine kI_of (cc := cL_due) (maxL := 12) (rt := .int) (by decide) rfl (rfl) (Nat.le_of_ble_eq_true rfl) ?_
  intro X hR C E
  have C : kC X 12 RL cL_due wsL_due cy := C
  refine k_fr (fr2 := [(0, .int 0), (1, .int x), (2, .int y), (3, .ref (e 0)), (4, .ref (e 1)), (5, .ref (e 2)), (6, .ref (e 3)), (7, .ref (e 4)), (8, .ref (e 5))]) ⟨[0, 1, 2, 3, 4, 5, 6, 7, 8], rfl⟩ ?_
  refine k_iload_n (q := 1) C 0 dL_due_0 rfl rfl ?_
  refine k_if_ne (tgt := 155) (q := 4) C dL_due_1 (by decide) rfl ?_ ?_
  · exact fun c_1 => absurd c_1 (by decide)
  · intro c_1
    have J_4 : kG X 12 0 0 (wLa e cy (qSt nM oM sM gM knM loM lfM) hM tM lM bM rM) 18 [(0, .int 0), (1, .int x), (2, .int y), (3, .ref (e 0)), (4, .ref (e 1)), (5, .ref (e 2)), (6, .ref (e 3)), (7, .ref (e 4)), (8, .ref (e 5))] [.int (bI (nM < 6 ∧ sAny hM x 0 = false))] := by
      refine k_istore (q := 20) (fr2 := [(9, .int (bI (nM < 6 ∧ sAny hM x 0 = false))), (0, .int 0), (1, .int x), (2, .int y), (3, .ref (e 0)), (4, .ref (e 1)), (5, .ref (e 2)), (6, .ref (e 3)), (7, .ref (e 4)), (8, .ref (e 5))]) C dL_due_18 (by decide) rfl rfl ?_
      refine k_iconst (q := 21) (v := 0) C dL_due_20 (by decide) rfl ?_
      refine k_istore (q := 23) (fr2 := [(10, .int 0), (9, .int (bI (nM < 6 ∧ sAny hM x 0 = false))), (0, .int 0), (1, .int x), (2, .int y), (3, .ref (e 0)), (4, .ref (e 1)), (5, .ref (e 2)), (6, .ref (e 3)), (7, .ref (e 4)), (8, .ref (e 5))]) C dL_due_21 (by decide) rfl rfl ?_
      refine k_iconst (q := 24) (v := 0) C dL_due_23 (by decide) rfl ?_
      refine k_istore (q := 26) (fr2 := [(11, .int 0), (10, .int 0), (9, .int (bI (nM < 6 ∧ sAny hM x 0 = false))), (0, .int 0), (1, .int x), (2, .int y), (3, .ref (e 0)), (4, .ref (e 1)), (5, .ref (e 2)), (6, .ref (e 3)), (7, .ref (e 4)), (8, .ref (e 5))]) C dL_due_24 (by decide) rfl rfl ?_
      refine k_fr (fr2 := [(0, .int 0), (1, .int x), (2, .int y), (3, .ref (e 0)), (4, .ref (e 1)), (5, .ref (e 2)), (9, .int (bI (nM < 6 ∧ sAny hM x 0 = false))), (10, .int 0), (11, .int 0)]) ⟨[3, 4, 5, 6, 7, 8, 2, 1, 0], rfl⟩ ?_
      exact lp_L_due_layer_e_26 cy e nM oM sM gM knM loM lfM hM tM lM bM rM x y hn hw X hR C E _ 0 (Nat.lt_succ_self _) (by omega)
    refine k_aload_n (q := 5) C 3 dL_due_4 rfl rfl ?_
    refine k_bipush (q := 7) (v := 8) C dL_due_5 (by decide +kernel) rfl ?_
    refine k_iald (q := 8) C 0 rfl (vp_in_nI (n := 8) (by decide) (by decide)) dL_due_7 rfl ?_
    refine k_sti (show (qSt nM oM sM gM knM loM lfM) (8 : Int32).toNatClampNeg = (qSt nM oM sM gM knM loM lfM) 8 from congrArg (qSt nM oM sM gM knM loM lfM) (nI_clamp (n := 8) (by decide))) ?_
    refine k_sti (show (qSt nM oM sM gM knM loM lfM) 8 = nI nM from rfl) ?_
    refine k_bipush (q := 10) (v := 6) C dL_due_8 (by decide +kernel) rfl ?_
    refine k_nicmp_ge (a := nM) (b := 6)  (tgt := 17) (q := 13) C dL_due_10 (by decide) rfl (by omega) (by decide) ?_ ?_
    · intro c_10
      refine k_iconst (q := 18) (v := 0) C dL_due_17 (by decide) rfl ?_
      exact k_sti (show 0 = bI (nM < 6 ∧ sAny hM x 0 = false) from bI_f (fun q => by omega)) J_4
    · intro c_10
      refine k_iconst (q := 14) (v := 1) C dL_due_13 (by decide) rfl ?_
      refine k_goto (q := 18) C dL_due_14 (by decide) ?_
      exact k_sti (show 1 = bI (nM < 6 ∧ sAny hM x 0 = false) from bI_t ⟨c_10, rfl⟩) J_4
set_option maxHeartbeats 4000000 in
set_option maxRecDepth 100000 in
theorem c_L_due_aim (cy : Nat → ClassId) (e : Nat → Nat) (nM : Nat) (oM : Nat → Int32) (sM : Nat → Int32) (gM : Nat → Int32) (knM : Nat) (loM : Int32) (lfM : Int32) (hM : Nat → Int32) (tM : Nat → Int32) (lM : Nat → Int32) (bM : Nat → Int32) (rM : Nat → Int32) (j : Nat) (y : Int32)  (hj : j < 2) : kI yL_due wsL_due rm_L_due cy [.int 1, .int (nI j), .int y, .ref (e 0), .ref (e 1), .ref (e 2), .ref (e 3), .ref (e 4), .ref (e 5)] (wLa e cy (qSt nM oM sM gM knM loM lfM) hM tM lM bM rM) (sM j) (wLa e cy (qSt nM oM (upd sM j y) gM knM loM lfM) hM tM lM bM rM) := by
  refine kI_of (cc := cL_due) (maxL := 12) (rt := .int) (by decide) rfl (rfl) (Nat.le_of_ble_eq_true rfl) ?_
  intro X hR C E
  have C : kC X 12 RL cL_due wsL_due cy := C
  refine k_fr (fr2 := [(0, .int 1), (1, .int (nI j)), (2, .int y), (3, .ref (e 0)), (4, .ref (e 1)), (5, .ref (e 2)), (6, .ref (e 3)), (7, .ref (e 4)), (8, .ref (e 5))]) ⟨[0, 1, 2, 3, 4, 5, 6, 7, 8], rfl⟩ ?_
  refine k_iload_n (q := 1) C 0 dL_due_0 rfl rfl ?_
  refine k_if_ne (tgt := 155) (q := 4) C dL_due_1 (by decide) rfl ?_ ?_
  · intro c_1
    refine k_iload_n (q := 156) C 0 dL_due_155 rfl rfl ?_
    refine k_iconst (q := 157) (v := 1) C dL_due_156 (by decide) rfl ?_
    refine k_icmp_eq (tgt := 165) (q := 160) C dL_due_157 (by decide) rfl ?_ ?_
    · intro c_157
      refine k_iload_n (q := 166) C 0 dL_due_165 rfl rfl ?_
      refine k_iconst (q := 167) (v := 1) C dL_due_166 (by decide) rfl ?_
      refine k_icmp_ne (tgt := 176) (q := 170) C dL_due_167 (by decide) rfl ?_ ?_
      · exact fun c_167 => absurd c_167 (by decide)
      · intro c_167
        refine k_iconst (q := 171) (v := 4) C dL_due_170 (by decide) rfl ?_
        refine k_iload_n (q := 172) C 1 dL_due_171 rfl rfl ?_
        refine k_iadd (q := 173) C dL_due_172 rfl ?_
        refine k_sti (show 4 + (nI j) = nI (4 + j) from nI_add 4 j) ?_
        refine k_goto (q := 177) C dL_due_173 (by decide) ?_
        refine k_istore (q := 179) (fr2 := [(9, .int (nI (4 + j))), (0, .int 1), (1, .int (nI j)), (2, .int y), (3, .ref (e 0)), (4, .ref (e 1)), (5, .ref (e 2)), (6, .ref (e 3)), (7, .ref (e 4)), (8, .ref (e 5))]) C dL_due_177 (by decide) rfl rfl ?_
        refine k_aload_n (q := 180) C 4 dL_due_179 rfl rfl ?_
        refine k_iload (q := 182) C 0 dL_due_180 rfl rfl ?_
        refine k_iald (q := 183) C 0 rfl (vp_in_nI (n := 4 + j) (by omega) (by decide)) dL_due_182 rfl ?_
        refine k_sti (show (qSt nM oM sM gM knM loM lfM) (nI (4 + j)).toNatClampNeg = (qSt nM oM sM gM knM loM lfM) (4 + j) from congrArg (qSt nM oM sM gM knM loM lfM) (nI_clamp (n := 4 + j) (by omega))) ?_
        refine k_sti (show (qSt nM oM sM gM knM loM lfM) (4 + j) = sM j from mSt_s (k := j) (by omega)) ?_
        refine k_istore (q := 185) (fr2 := [(10, .int (sM j)), (9, .int (nI (4 + j))), (0, .int 1), (1, .int (nI j)), (2, .int y), (3, .ref (e 0)), (4, .ref (e 1)), (5, .ref (e 2)), (6, .ref (e 3)), (7, .ref (e 4)), (8, .ref (e 5))]) C dL_due_183 (by decide) rfl rfl ?_
        refine k_aload_n (q := 186) C 5 dL_due_185 rfl rfl ?_
        refine k_iload (q := 188) C 1 dL_due_186 rfl rfl ?_
        refine k_iload_n (q := 189) C 4 dL_due_188 rfl rfl ?_
        refine k_iast (q := 190) (w2 := (wLa e cy (qSt nM oM (upd sM j y) gM knM loM lfM) hM tM lM bM rM)) C 0 rfl (vp_in_nI (n := 4 + j) (by omega) (by decide)) (by rw [nI_clamp (n := 4 + j) (by omega)]; exact wLa_q (mSt_ws (k := j) (by omega))) dL_due_189 rfl ?_
        refine k_iload (q := 192) C 0 dL_due_190 rfl rfl ?_
        exact k_fin E dL_due_192 (rfl) (rfl)
    · exact fun c_157 => absurd c_157 (by decide)
  · exact fun c_1 => absurd c_1 (by decide)
set_option maxHeartbeats 4000000 in
set_option maxRecDepth 100000 in
theorem c_L_due_set (cy : Nat → ClassId) (e : Nat → Nat) (nM : Nat) (oM : Nat → Int32) (sM : Nat → Int32) (gM : Nat → Int32) (knM : Nat) (loM : Int32) (lfM : Int32) (hM : Nat → Int32) (tM : Nat → Int32) (lM : Nat → Int32) (bM : Nat → Int32) (rM : Nat → Int32) (j : Nat) (y : Int32)  (hj : j < 4) : kI yL_due wsL_due rm_L_due cy [.int 5, .int (nI j), .int y, .ref (e 0), .ref (e 1), .ref (e 2), .ref (e 3), .ref (e 4), .ref (e 5)] (wLa e cy (qSt nM oM sM gM knM loM lfM) hM tM lM bM rM) (gM j) (wLa e cy (qSt nM oM sM (upd gM j y) knM loM lfM) hM tM lM bM rM) := by
  refine kI_of (cc := cL_due) (maxL := 12) (rt := .int) (by decide) rfl (rfl) (Nat.le_of_ble_eq_true rfl) ?_
  intro X hR C E
  have C : kC X 12 RL cL_due wsL_due cy := C
  refine k_fr (fr2 := [(0, .int 5), (1, .int (nI j)), (2, .int y), (3, .ref (e 0)), (4, .ref (e 1)), (5, .ref (e 2)), (6, .ref (e 3)), (7, .ref (e 4)), (8, .ref (e 5))]) ⟨[0, 1, 2, 3, 4, 5, 6, 7, 8], rfl⟩ ?_
  refine k_iload_n (q := 1) C 0 dL_due_0 rfl rfl ?_
  refine k_if_ne (tgt := 155) (q := 4) C dL_due_1 (by decide) rfl ?_ ?_
  · intro c_1
    refine k_iload_n (q := 156) C 0 dL_due_155 rfl rfl ?_
    refine k_iconst (q := 157) (v := 1) C dL_due_156 (by decide) rfl ?_
    refine k_icmp_eq (tgt := 165) (q := 160) C dL_due_157 (by decide) rfl ?_ ?_
    · exact fun c_157 => absurd c_157 (by decide)
    · intro c_157
      refine k_iload_n (q := 161) C 0 dL_due_160 rfl rfl ?_
      refine k_iconst (q := 162) (v := 5) C dL_due_161 (by decide) rfl ?_
      refine k_icmp_ne (tgt := 193) (q := 165) C dL_due_162 (by decide) rfl ?_ ?_
      · exact fun c_162 => absurd c_162 (by decide)
      · intro c_162
        refine k_iload_n (q := 166) C 0 dL_due_165 rfl rfl ?_
        refine k_iconst (q := 167) (v := 1) C dL_due_166 (by decide) rfl ?_
        refine k_icmp_ne (tgt := 176) (q := 170) C dL_due_167 (by decide) rfl ?_ ?_
        · intro c_167
          refine k_iload_n (q := 177) C 1 dL_due_176 rfl rfl ?_
          refine k_istore (q := 179) (fr2 := [(9, .int (nI j)), (0, .int 5), (1, .int (nI j)), (2, .int y), (3, .ref (e 0)), (4, .ref (e 1)), (5, .ref (e 2)), (6, .ref (e 3)), (7, .ref (e 4)), (8, .ref (e 5))]) C dL_due_177 (by decide) rfl rfl ?_
          refine k_aload_n (q := 180) C 4 dL_due_179 rfl rfl ?_
          refine k_iload (q := 182) C 0 dL_due_180 rfl rfl ?_
          refine k_iald (q := 183) C 0 rfl (vp_in_nI (n := j) (by omega) (by decide)) dL_due_182 rfl ?_
          refine k_sti (show (qSt nM oM sM gM knM loM lfM) (nI j).toNatClampNeg = (qSt nM oM sM gM knM loM lfM) j from congrArg (qSt nM oM sM gM knM loM lfM) (nI_clamp (n := j) (by omega))) ?_
          refine k_sti (show (qSt nM oM sM gM knM loM lfM) j = gM j from mSt_g (k := j) (by omega)) ?_
          refine k_istore (q := 185) (fr2 := [(10, .int (gM j)), (9, .int (nI j)), (0, .int 5), (1, .int (nI j)), (2, .int y), (3, .ref (e 0)), (4, .ref (e 1)), (5, .ref (e 2)), (6, .ref (e 3)), (7, .ref (e 4)), (8, .ref (e 5))]) C dL_due_183 (by decide) rfl rfl ?_
          refine k_aload_n (q := 186) C 5 dL_due_185 rfl rfl ?_
          refine k_iload (q := 188) C 1 dL_due_186 rfl rfl ?_
          refine k_iload_n (q := 189) C 4 dL_due_188 rfl rfl ?_
          refine k_iast (q := 190) (w2 := (wLa e cy (qSt nM oM sM (upd gM j y) knM loM lfM) hM tM lM bM rM)) C 0 rfl (vp_in_nI (n := j) (by omega) (by decide)) (by rw [nI_clamp (n := j) (by omega)]; exact wLa_q (mSt_wg (k := j) (by omega))) dL_due_189 rfl ?_
          refine k_iload (q := 192) C 0 dL_due_190 rfl rfl ?_
          exact k_fin E dL_due_192 (rfl) (rfl)
        · exact fun c_167 => absurd c_167 (by decide)
  · exact fun c_1 => absurd c_1 (by decide)
set_option maxHeartbeats 4000000 in
set_option maxRecDepth 100000 in
theorem c_L_due_scan (cy : Nat → ClassId) (e : Nat → Nat) (nM : Nat) (oM : Nat → Int32) (sM : Nat → Int32) (gM : Nat → Int32) (knM : Nat) (loM : Int32) (lfM : Int32) (hM : Nat → Int32) (tM : Nat → Int32) (lM : Nat → Int32) (bM : Nat → Int32) (rM : Nat → Int32) (j : Nat) (p : Nat)  (hj : j < 2) (hn : nM ≤ 6) (hp : p < nM) (hh : 50 ≤ (hM p).toInt ∧ (hM p).toInt ≤ 3000) (hg0 : 50 ≤ (gM 0).toInt ∧ (gM 0).toInt ≤ 1000) (hs : sOk (sM (1 - j))) : kI yL_due wsL_due rm_L_due cy [.int 2, .int (nI j), .int (nI p), .ref (e 0), .ref (e 1), .ref (e 2), .ref (e 3), .ref (e 4), .ref (e 5)] (wLa e cy (qSt nM oM sM gM knM loM lfM) hM tM lM bM rM) (mAbs (sDist hM gM p ((upd sM j (iI (sTry gM hM sM j p))) 0) ((upd sM j (iI (sTry gM hM sM j p))) 1))) (wLa e cy (qSt nM oM (upd sM j (iI (sTry gM hM sM j p))) gM knM loM lfM) hM tM lM bM rM) := by
  refine kI_of (cc := cL_due) (maxL := 12) (rt := .int) (by decide) rfl (rfl) (Nat.le_of_ble_eq_true rfl) ?_
  intro X hR C E
  have C : kC X 12 RL cL_due wsL_due cy := C
  refine k_fr (fr2 := [(0, .int 2), (1, .int (nI j)), (2, .int (nI p)), (3, .ref (e 0)), (4, .ref (e 1)), (5, .ref (e 2)), (6, .ref (e 3)), (7, .ref (e 4)), (8, .ref (e 5))]) ⟨[0, 1, 2, 3, 4, 5, 6, 7, 8], rfl⟩ ?_
  refine k_iload_n (q := 1) C 0 dL_due_0 rfl rfl ?_
  refine k_if_ne (tgt := 155) (q := 4) C dL_due_1 (by decide) rfl ?_ ?_
  · intro c_1
    refine k_iload_n (q := 156) C 0 dL_due_155 rfl rfl ?_
    refine k_iconst (q := 157) (v := 1) C dL_due_156 (by decide) rfl ?_
    refine k_icmp_eq (tgt := 165) (q := 160) C dL_due_157 (by decide) rfl ?_ ?_
    · exact fun c_157 => absurd c_157 (by decide)
    · intro c_157
      refine k_iload_n (q := 161) C 0 dL_due_160 rfl rfl ?_
      refine k_iconst (q := 162) (v := 5) C dL_due_161 (by decide) rfl ?_
      refine k_icmp_ne (tgt := 193) (q := 165) C dL_due_162 (by decide) rfl ?_ ?_
      · intro c_162
        refine k_iload_n (q := 194) C 0 dL_due_193 rfl rfl ?_
        refine k_iconst (q := 195) (v := 2) C dL_due_194 (by decide) rfl ?_
        refine k_icmp_eq (tgt := 204) (q := 198) C dL_due_195 (by decide) rfl ?_ ?_
        · intro c_195
          refine k_iload_n (q := 205) C 0 dL_due_204 rfl rfl ?_
          refine k_iconst (q := 206) (v := 2) C dL_due_205 (by decide) rfl ?_
          refine k_icmp_ne (tgt := 213) (q := 209) C dL_due_206 (by decide) rfl ?_ ?_
          · exact fun c_206 => absurd c_206 (by decide)
          · intro c_206
            refine k_iload_n (q := 210) C 2 dL_due_209 rfl rfl ?_
            refine k_goto (q := 214) C dL_due_210 (by decide) ?_
            refine k_aload_n (q := 215) C 3 dL_due_214 rfl rfl ?_
            refine k_bipush (q := 217) (v := 8) C dL_due_215 (by decide +kernel) rfl ?_
            refine k_iald (q := 218) C 0 rfl (vp_in_nI (n := 8) (by decide) (by decide)) dL_due_217 rfl ?_
            refine k_sti (show (qSt nM oM sM gM knM loM lfM) (8 : Int32).toNatClampNeg = (qSt nM oM sM gM knM loM lfM) 8 from congrArg (qSt nM oM sM gM knM loM lfM) (nI_clamp (n := 8) (by decide))) ?_
            refine k_sti (show (qSt nM oM sM gM knM loM lfM) 8 = nI nM from rfl) ?_
            refine k_nicmp_lt (a := p) (b := nM)  (tgt := 224) (q := 221) C dL_due_218 (by decide) rfl (by omega) (by omega) ?_ ?_
            · intro c_218
              refine k_iload_n (q := 225) C 0 dL_due_224 rfl rfl ?_
              refine k_bipush (q := 227) (v := 6) C dL_due_225 (by decide +kernel) rfl ?_
              refine k_icmp_ne (tgt := 240) (q := 230) C dL_due_227 (by decide) rfl ?_ ?_
              · intro c_227
                refine k_aload_n (q := 241) C 3 dL_due_240 rfl rfl ?_
                refine k_iconst (q := 242) (v := 4) C dL_due_241 (by decide) rfl ?_
                refine k_iload_n (q := 243) C 1 dL_due_242 rfl rfl ?_
                refine k_iadd (q := 244) C dL_due_243 rfl ?_
                refine k_sti (show 4 + (nI j) = nI (4 + j) from nI_add 4 j) ?_
                refine k_iload_n (q := 245) C 1 dL_due_244 rfl rfl ?_
                refine k_iload_n (q := 246) C 2 dL_due_245 rfl rfl ?_
                refine k_aload_n (q := 247) C 3 dL_due_246 rfl rfl ?_
                refine k_aload (q := 249) C 4 dL_due_247 rfl rfl ?_
                refine k_callSI (n := 4) (q := 252) (pre := ([] : va_W)) (post := ([] : va_W)) (w2 := (wLa e cy (qSt nM oM sM gM knM loM lfM) hM tM lM bM rM)) (As := [.int (nI j), .int (nI p), .ref (e 0), .ref (e 1)]) (rest := [.int (nI (4 + j)), .ref (e 0)]) C (c_L_best cy e nM oM sM gM knM loM lfM hM tM lM bM rM j p hj (by omega) hh hg0 hs) gL_due_L_best rfl rfl rfl (by decide +kernel) (k_room hR (by decide)) ⟨Nat.zero_le _, Nat.zero_le _⟩  rfl rfl (Nat.le_of_ble_eq_true rfl) ((List.append_nil _).symm) (List.append_nil _) dL_due_249 rfl ?_
                refine k_iast (q := 253) (w2 := (wLa e cy (qSt nM oM (upd sM j (iI (sTry gM hM sM j p))) gM knM loM lfM) hM tM lM bM rM)) C 0 rfl (vp_in_nI (n := 4 + j) (by omega) (by decide)) (by rw [nI_clamp (n := 4 + j) (by omega)]; exact wLa_q (mSt_ws (k := j) (by omega))) dL_due_252 rfl ?_
                refine k_iload_n (q := 254) C 2 dL_due_253 rfl rfl ?_
                refine k_aload_n (q := 255) C 3 dL_due_254 rfl rfl ?_
                refine k_aload (q := 257) C 4 dL_due_255 rfl rfl ?_
                refine k_callSI (n := 3) (q := 260) (pre := ([] : va_W)) (post := ([] : va_W)) (w2 := (wLa e cy (qSt nM oM (upd sM j (iI (sTry gM hM sM j p))) gM knM loM lfM) hM tM lM bM rM)) (As := [.int (nI p), .ref (e 0), .ref (e 1)]) (rest := []) C (c_L_apart cy e nM oM (upd sM j (iI (sTry gM hM sM j p))) gM knM loM lfM hM tM lM bM rM p (by omega)) gL_due_L_apart rfl rfl rfl (by decide +kernel) (k_room hR (by decide)) ⟨Nat.zero_le _, Nat.zero_le _⟩  rfl rfl (Nat.le_of_ble_eq_true rfl) ((List.append_nil _).symm) (List.append_nil _) dL_due_257 rfl ?_
                refine k_callSI (n := 1) (q := 263) (pre := ([] : va_W)) (post := (wLa e cy (qSt nM oM (upd sM j (iI (sTry gM hM sM j p))) gM knM loM lfM) hM tM lM bM rM)) (w2 := (wLa e cy (qSt nM oM (upd sM j (iI (sTry gM hM sM j p))) gM knM loM lfM) hM tM lM bM rM)) (As := [.int (sDist hM gM p ((upd sM j (iI (sTry gM hM sM j p))) 0) ((upd sM j (iI (sTry gM hM sM j p))) 1))]) (rest := []) C (c_L_size (sDist hM gM p ((upd sM j (iI (sTry gM hM sM j p))) 0) ((upd sM j (iI (sTry gM hM sM j p))) 1))) gL_due_L_size rfl rfl rfl (by decide +kernel) (k_room hR (by decide)) ⟨Nat.zero_le _, Nat.zero_le _⟩  rfl rfl (Nat.le_of_ble_eq_true rfl) (rfl) (rfl) dL_due_260 rfl ?_
                exact k_fin E dL_due_263 (rfl) (rfl)
              · exact fun c_227 => absurd c_227 (by decide)
            · exact fun c_218 => absurd hp (by omega)
        · exact fun c_195 => absurd c_195 (by decide)
      · exact fun c_162 => absurd c_162 (by decide)
  · exact fun c_1 => absurd c_1 (by decide)
set_option maxHeartbeats 4000000 in
set_option maxRecDepth 100000 in
theorem c_L_due_scan_e (cy : Nat → ClassId) (e : Nat → Nat) (nM : Nat) (oM : Nat → Int32) (sM : Nat → Int32) (gM : Nat → Int32) (knM : Nat) (loM : Int32) (lfM : Int32) (hM : Nat → Int32) (tM : Nat → Int32) (lM : Nat → Int32) (bM : Nat → Int32) (rM : Nat → Int32) (j : Nat) (p : Nat)  (hn : nM ≤ 6) (hp : nM ≤ p) (hp6 : p < 100) : kI yL_due wsL_due rm_L_due cy [.int 2, .int (nI j), .int (nI p), .ref (e 0), .ref (e 1), .ref (e 2), .ref (e 3), .ref (e 4), .ref (e 5)] (wLa e cy (qSt nM oM sM gM knM loM lfM) hM tM lM bM rM) (-200001) (wLa e cy (qSt nM oM sM gM knM loM lfM) hM tM lM bM rM) := by
  refine kI_of (cc := cL_due) (maxL := 12) (rt := .int) (by decide) rfl (rfl) (Nat.le_of_ble_eq_true rfl) ?_
  intro X hR C E
  have C : kC X 12 RL cL_due wsL_due cy := C
  refine k_fr (fr2 := [(0, .int 2), (1, .int (nI j)), (2, .int (nI p)), (3, .ref (e 0)), (4, .ref (e 1)), (5, .ref (e 2)), (6, .ref (e 3)), (7, .ref (e 4)), (8, .ref (e 5))]) ⟨[0, 1, 2, 3, 4, 5, 6, 7, 8], rfl⟩ ?_
  refine k_iload_n (q := 1) C 0 dL_due_0 rfl rfl ?_
  refine k_if_ne (tgt := 155) (q := 4) C dL_due_1 (by decide) rfl ?_ ?_
  · intro c_1
    refine k_iload_n (q := 156) C 0 dL_due_155 rfl rfl ?_
    refine k_iconst (q := 157) (v := 1) C dL_due_156 (by decide) rfl ?_
    refine k_icmp_eq (tgt := 165) (q := 160) C dL_due_157 (by decide) rfl ?_ ?_
    · exact fun c_157 => absurd c_157 (by decide)
    · intro c_157
      refine k_iload_n (q := 161) C 0 dL_due_160 rfl rfl ?_
      refine k_iconst (q := 162) (v := 5) C dL_due_161 (by decide) rfl ?_
      refine k_icmp_ne (tgt := 193) (q := 165) C dL_due_162 (by decide) rfl ?_ ?_
      · intro c_162
        refine k_iload_n (q := 194) C 0 dL_due_193 rfl rfl ?_
        refine k_iconst (q := 195) (v := 2) C dL_due_194 (by decide) rfl ?_
        refine k_icmp_eq (tgt := 204) (q := 198) C dL_due_195 (by decide) rfl ?_ ?_
        · intro c_195
          refine k_iload_n (q := 205) C 0 dL_due_204 rfl rfl ?_
          refine k_iconst (q := 206) (v := 2) C dL_due_205 (by decide) rfl ?_
          refine k_icmp_ne (tgt := 213) (q := 209) C dL_due_206 (by decide) rfl ?_ ?_
          · exact fun c_206 => absurd c_206 (by decide)
          · intro c_206
            refine k_iload_n (q := 210) C 2 dL_due_209 rfl rfl ?_
            refine k_goto (q := 214) C dL_due_210 (by decide) ?_
            refine k_aload_n (q := 215) C 3 dL_due_214 rfl rfl ?_
            refine k_bipush (q := 217) (v := 8) C dL_due_215 (by decide +kernel) rfl ?_
            refine k_iald (q := 218) C 0 rfl (vp_in_nI (n := 8) (by decide) (by decide)) dL_due_217 rfl ?_
            refine k_sti (show (qSt nM oM sM gM knM loM lfM) (8 : Int32).toNatClampNeg = (qSt nM oM sM gM knM loM lfM) 8 from congrArg (qSt nM oM sM gM knM loM lfM) (nI_clamp (n := 8) (by decide))) ?_
            refine k_sti (show (qSt nM oM sM gM knM loM lfM) 8 = nI nM from rfl) ?_
            refine k_nicmp_lt (a := p) (b := nM)  (tgt := 224) (q := 221) C dL_due_218 (by decide) rfl (by omega) (by omega) ?_ ?_
            · exact fun c_218 => absurd c_218 (by omega)
            · intro c_218
              refine k_ldc (q := 223) (v := -200001) C (List.mem_of_getElem? (i := 2) rfl) dL_due_221 rfl ?_
              exact k_fin E dL_due_223 (rfl) (rfl)
        · exact fun c_195 => absurd c_195 (by decide)
      · exact fun c_162 => absurd c_162 (by decide)
  · exact fun c_1 => absurd c_1 (by decide)
set_option maxHeartbeats 4000000 in
set_option maxRecDepth 100000 in
theorem c_L_due_log (cy : Nat → ClassId) (e : Nat → Nat) (nM : Nat) (oM : Nat → Int32) (sM : Nat → Int32) (gM : Nat → Int32) (knM : Nat) (loM : Int32) (lfM : Int32) (hM : Nat → Int32) (tM : Nat → Int32) (lM : Nat → Int32) (bM : Nat → Int32) (rM : Nat → Int32) (x : Int32) (y : Int32)  (hn : nM ≤ 6) (hb : lB nM hM tM (gM 1) bM) (ho : mBin oM) (hs0 : sOk (sM 0)) (hs1 : sOk (sM 1)) (hg0 : 50 ≤ (gM 0).toInt ∧ (gM 0).toInt ≤ 1000) (hk : knM ≤ 8) : kI yL_due wsL_due rm_L_due cy [.int 3, .int x, .int y, .ref (e 0), .ref (e 1), .ref (e 2), .ref (e 3), .ref (e 4), .ref (e 5)] (wLa e cy (qSt nM oM sM gM knM loM lfM) hM tM lM bM rM) (nI (min (knM + 1) 8)) (wLa e cy (qSt nM oM sM gM (min (knM + 1) 8) (loM + 1) (lfM + bI ((mLg hM nM (sMeet gM (sM 0) (sM 1)) (mC (sClose (mLit oM) hM tM sM gM) (mD hM sM gM) nM)).2.2.2 = true))) hM tM (sWrL lM (mLg hM nM (sMeet gM (sM 0) (sM 1)) (mC (sClose (mLit oM) hM tM sM gM) (mD hM sM gM) nM))) bM (upd (upd (upd (upd rM 0 (mRn hM nM (sMeet gM (sM 0) (sM 1)) (mC (sClose (mLit oM) hM tM sM gM) (mD hM sM gM) nM) 0)) 1 (mRn hM nM (sMeet gM (sM 0) (sM 1)) (mC (sClose (mLit oM) hM tM sM gM) (mD hM sM gM) nM) 1)) 2 (mRn hM nM (sMeet gM (sM 0) (sM 1)) (mC (sClose (mLit oM) hM tM sM gM) (mD hM sM gM) nM) 2)) 3 (mRn hM nM (sMeet gM (sM 0) (sM 1)) (mC (sClose (mLit oM) hM tM sM gM) (mD hM sM gM) nM) 3))) := by
  refine kI_of (cc := cL_due) (maxL := 12) (rt := .int) (by decide) rfl (rfl) (Nat.le_of_ble_eq_true rfl) ?_
  intro X hR C E
  have C : kC X 12 RL cL_due wsL_due cy := C
  refine k_fr (fr2 := [(0, .int 3), (1, .int x), (2, .int y), (3, .ref (e 0)), (4, .ref (e 1)), (5, .ref (e 2)), (6, .ref (e 3)), (7, .ref (e 4)), (8, .ref (e 5))]) ⟨[0, 1, 2, 3, 4, 5, 6, 7, 8], rfl⟩ ?_
  refine k_iload_n (q := 1) C 0 dL_due_0 rfl rfl ?_
  refine k_if_ne (tgt := 155) (q := 4) C dL_due_1 (by decide) rfl ?_ ?_
  · intro c_1
    refine k_iload_n (q := 156) C 0 dL_due_155 rfl rfl ?_
    refine k_iconst (q := 157) (v := 1) C dL_due_156 (by decide) rfl ?_
    refine k_icmp_eq (tgt := 165) (q := 160) C dL_due_157 (by decide) rfl ?_ ?_
    · exact fun c_157 => absurd c_157 (by decide)
    · intro c_157
      refine k_iload_n (q := 161) C 0 dL_due_160 rfl rfl ?_
      refine k_iconst (q := 162) (v := 5) C dL_due_161 (by decide) rfl ?_
      refine k_icmp_ne (tgt := 193) (q := 165) C dL_due_162 (by decide) rfl ?_ ?_
      · intro c_162
        refine k_iload_n (q := 194) C 0 dL_due_193 rfl rfl ?_
        refine k_iconst (q := 195) (v := 2) C dL_due_194 (by decide) rfl ?_
        refine k_icmp_eq (tgt := 204) (q := 198) C dL_due_195 (by decide) rfl ?_ ?_
        · exact fun c_195 => absurd c_195 (by decide)
        · intro c_195
          refine k_iload_n (q := 199) C 0 dL_due_198 rfl rfl ?_
          refine k_bipush (q := 201) (v := 6) C dL_due_199 (by decide +kernel) rfl ?_
          refine k_icmp_ne (tgt := 264) (q := 204) C dL_due_201 (by decide) rfl ?_ ?_
          · intro c_201
            refine k_iload_n (q := 265) C 0 dL_due_264 rfl rfl ?_
            refine k_iconst (q := 266) (v := 3) C dL_due_265 (by decide) rfl ?_
            refine k_icmp_ne (tgt := 282) (q := 269) C dL_due_266 (by decide) rfl ?_ ?_
            · exact fun c_266 => absurd c_266 (by decide)
            · intro c_266
              refine k_aload_n (q := 270) C 3 dL_due_269 rfl rfl ?_
              refine k_aload (q := 272) C 4 dL_due_270 rfl rfl ?_
              refine k_aload (q := 274) C 6 dL_due_272 rfl rfl ?_
              refine k_aload (q := 276) C 7 dL_due_274 rfl rfl ?_
              refine k_aload (q := 278) C 8 dL_due_276 rfl rfl ?_
              refine k_callSI (n := 5) (q := 281) (pre := ([] : va_W)) (post := ([] : va_W)) (w2 := (wLa e cy (qSt nM oM sM gM (min (knM + 1) 8) (loM + 1) (lfM + bI ((mLg hM nM (sMeet gM (sM 0) (sM 1)) (mC (sClose (mLit oM) hM tM sM gM) (mD hM sM gM) nM)).2.2.2 = true))) hM tM (sWrL lM (mLg hM nM (sMeet gM (sM 0) (sM 1)) (mC (sClose (mLit oM) hM tM sM gM) (mD hM sM gM) nM))) bM (upd (upd (upd (upd rM 0 (mRn hM nM (sMeet gM (sM 0) (sM 1)) (mC (sClose (mLit oM) hM tM sM gM) (mD hM sM gM) nM) 0)) 1 (mRn hM nM (sMeet gM (sM 0) (sM 1)) (mC (sClose (mLit oM) hM tM sM gM) (mD hM sM gM) nM) 1)) 2 (mRn hM nM (sMeet gM (sM 0) (sM 1)) (mC (sClose (mLit oM) hM tM sM gM) (mD hM sM gM) nM) 2)) 3 (mRn hM nM (sMeet gM (sM 0) (sM 1)) (mC (sClose (mLit oM) hM tM sM gM) (mD hM sM gM) nM) 3)))) (As := [.ref (e 0), .ref (e 1), .ref (e 3), .ref (e 4), .ref (e 5)]) (rest := []) C (c_L_logs cy e nM oM sM gM knM loM lfM hM tM lM bM rM hn hb ho hs0 hs1 hg0 hk) gL_due_L_logs rfl rfl rfl (by decide +kernel) (k_room hR (by decide)) ⟨Nat.zero_le _, Nat.zero_le _⟩  rfl rfl (Nat.le_of_ble_eq_true rfl) ((List.append_nil _).symm) (List.append_nil _) dL_due_278 rfl ?_
              exact k_fin E dL_due_281 (rfl) (rfl)
          · exact fun c_201 => absurd c_201 (by decide)
      · exact fun c_162 => absurd c_162 (by decide)
  · exact fun c_1 => absurd c_1 (by decide)
set_option maxHeartbeats 4000000 in
set_option maxRecDepth 100000 in
theorem c_L_due_turn (cy : Nat → ClassId) (e : Nat → Nat) (nM : Nat) (oM : Nat → Int32) (sM : Nat → Int32) (gM : Nat → Int32) (knM : Nat) (loM : Int32) (lfM : Int32) (hM : Nat → Int32) (tM : Nat → Int32) (lM : Nat → Int32) (bM : Nat → Int32) (rM : Nat → Int32) (j : Nat) (y : Int32)  (hj : j < 2) : kI yL_due wsL_due rm_L_due cy [.int 4, .int (nI j), .int y, .ref (e 0), .ref (e 1), .ref (e 2), .ref (e 3), .ref (e 4), .ref (e 5)] (wLa e cy (qSt nM oM sM gM knM loM lfM) hM tM lM bM rM) (1 - oM j) (wLa e cy (qSt nM (upd oM j (1 - oM j)) sM gM knM loM lfM) hM tM lM bM rM) := by
  refine kI_of (cc := cL_due) (maxL := 12) (rt := .int) (by decide) rfl (rfl) (Nat.le_of_ble_eq_true rfl) ?_
  intro X hR C E
  have C : kC X 12 RL cL_due wsL_due cy := C
  refine k_fr (fr2 := [(0, .int 4), (1, .int (nI j)), (2, .int y), (3, .ref (e 0)), (4, .ref (e 1)), (5, .ref (e 2)), (6, .ref (e 3)), (7, .ref (e 4)), (8, .ref (e 5))]) ⟨[0, 1, 2, 3, 4, 5, 6, 7, 8], rfl⟩ ?_
  refine k_iload_n (q := 1) C 0 dL_due_0 rfl rfl ?_
  refine k_if_ne (tgt := 155) (q := 4) C dL_due_1 (by decide) rfl ?_ ?_
  · intro c_1
    refine k_iload_n (q := 156) C 0 dL_due_155 rfl rfl ?_
    refine k_iconst (q := 157) (v := 1) C dL_due_156 (by decide) rfl ?_
    refine k_icmp_eq (tgt := 165) (q := 160) C dL_due_157 (by decide) rfl ?_ ?_
    · exact fun c_157 => absurd c_157 (by decide)
    · intro c_157
      refine k_iload_n (q := 161) C 0 dL_due_160 rfl rfl ?_
      refine k_iconst (q := 162) (v := 5) C dL_due_161 (by decide) rfl ?_
      refine k_icmp_ne (tgt := 193) (q := 165) C dL_due_162 (by decide) rfl ?_ ?_
      · intro c_162
        refine k_iload_n (q := 194) C 0 dL_due_193 rfl rfl ?_
        refine k_iconst (q := 195) (v := 2) C dL_due_194 (by decide) rfl ?_
        refine k_icmp_eq (tgt := 204) (q := 198) C dL_due_195 (by decide) rfl ?_ ?_
        · exact fun c_195 => absurd c_195 (by decide)
        · intro c_195
          refine k_iload_n (q := 199) C 0 dL_due_198 rfl rfl ?_
          refine k_bipush (q := 201) (v := 6) C dL_due_199 (by decide +kernel) rfl ?_
          refine k_icmp_ne (tgt := 264) (q := 204) C dL_due_201 (by decide) rfl ?_ ?_
          · intro c_201
            refine k_iload_n (q := 265) C 0 dL_due_264 rfl rfl ?_
            refine k_iconst (q := 266) (v := 3) C dL_due_265 (by decide) rfl ?_
            refine k_icmp_ne (tgt := 282) (q := 269) C dL_due_266 (by decide) rfl ?_ ?_
            · intro c_266
              refine k_iload_n (q := 283) C 0 dL_due_282 rfl rfl ?_
              refine k_iconst (q := 284) (v := 4) C dL_due_283 (by decide) rfl ?_
              refine k_icmp_ne (tgt := 308) (q := 287) C dL_due_284 (by decide) rfl ?_ ?_
              · exact fun c_284 => absurd c_284 (by decide)
              · intro c_284
                refine k_aload_n (q := 288) C 3 dL_due_287 rfl rfl ?_
                refine k_bipush (q := 290) (v := 6) C dL_due_288 (by decide +kernel) rfl ?_
                refine k_iload_n (q := 291) C 1 dL_due_290 rfl rfl ?_
                refine k_iadd (q := 292) C dL_due_291 rfl ?_
                refine k_sti (show 6 + (nI j) = nI (6 + j) from nI_add 6 j) ?_
                refine k_iconst (q := 293) (v := 1) C dL_due_292 (by decide) rfl ?_
                refine k_aload_n (q := 294) C 3 dL_due_293 rfl rfl ?_
                refine k_bipush (q := 296) (v := 6) C dL_due_294 (by decide +kernel) rfl ?_
                refine k_iload_n (q := 297) C 1 dL_due_296 rfl rfl ?_
                refine k_iadd (q := 298) C dL_due_297 rfl ?_
                refine k_sti (show 6 + (nI j) = nI (6 + j) from nI_add 6 j) ?_
                refine k_iald (q := 299) C 0 rfl (vp_in_nI (n := 6 + j) (by omega) (by decide)) dL_due_298 rfl ?_
                refine k_sti (show (qSt nM oM sM gM knM loM lfM) (nI (6 + j)).toNatClampNeg = (qSt nM oM sM gM knM loM lfM) (6 + j) from congrArg (qSt nM oM sM gM knM loM lfM) (nI_clamp (n := 6 + j) (by omega))) ?_
                refine k_sti (show (qSt nM oM sM gM knM loM lfM) (6 + j) = oM j from mSt_o (k := j) (by omega)) ?_
                refine k_isub (q := 300) C dL_due_299 rfl ?_
                refine k_iast (q := 301) (w2 := (wLa e cy (qSt nM (upd oM j (1 - (oM j))) sM gM knM loM lfM) hM tM lM bM rM)) C 0 rfl (vp_in_nI (n := 6 + j) (by omega) (by decide)) (by rw [nI_clamp (n := 6 + j) (by omega)]; exact wLa_q (mSt_wo (k := j) (by omega))) dL_due_300 rfl ?_
                refine k_aload_n (q := 302) C 3 dL_due_301 rfl rfl ?_
                refine k_bipush (q := 304) (v := 6) C dL_due_302 (by decide +kernel) rfl ?_
                refine k_iload_n (q := 305) C 1 dL_due_304 rfl rfl ?_
                refine k_iadd (q := 306) C dL_due_305 rfl ?_
                refine k_sti (show 6 + (nI j) = nI (6 + j) from nI_add 6 j) ?_
                refine k_iald (q := 307) C 0 rfl (vp_in_nI (n := 6 + j) (by omega) (by decide)) dL_due_306 rfl ?_
                refine k_sti (show (qSt nM (upd oM j (1 - (oM j))) sM gM knM loM lfM) (nI (6 + j)).toNatClampNeg = (qSt nM (upd oM j (1 - (oM j))) sM gM knM loM lfM) (6 + j) from congrArg (qSt nM (upd oM j (1 - (oM j))) sM gM knM loM lfM) (nI_clamp (n := 6 + j) (by omega))) ?_
                refine k_sti (show (qSt nM (upd oM j (1 - (oM j))) sM gM knM loM lfM) (6 + j) = (upd oM j (1 - (oM j))) j from mSt_o (k := j) (by omega)) ?_
                refine k_sti (show (upd oM j (1 - (oM j))) j = 1 - oM j from pk_us) ?_
                exact k_fin E dL_due_307 (rfl) (rfl)
            · exact fun c_266 => absurd c_266 (by decide)
          · exact fun c_201 => absurd c_201 (by decide)
      · exact fun c_162 => absurd c_162 (by decide)
  · exact fun c_1 => absurd c_1 (by decide)
set_option maxHeartbeats 4000000 in
set_option maxRecDepth 100000 in
theorem c_L_due_clear (cy : Nat → ClassId) (e : Nat → Nat) (nM : Nat) (oM : Nat → Int32) (sM : Nat → Int32) (gM : Nat → Int32) (knM : Nat) (loM : Int32) (lfM : Int32) (hM : Nat → Int32) (tM : Nat → Int32) (lM : Nat → Int32) (bM : Nat → Int32) (rM : Nat → Int32) (p : Nat) (y : Int32)  (hn : nM ≤ 6) (hp : p < nM) : kI yL_due wsL_due rm_L_due cy [.int 6, .int (nI p), .int y, .ref (e 0), .ref (e 1), .ref (e 2), .ref (e 3), .ref (e 4), .ref (e 5)] (wLa e cy (qSt nM oM sM gM knM loM lfM) hM tM lM bM rM) (hM p) (wLa e cy (qSt (nM - 1) oM sM gM knM loM lfM) (sDn hM p nM) (sDn tM p nM) lM bM rM) := by
  refine kI_of (cc := cL_due) (maxL := 12) (rt := .int) (by decide) rfl (rfl) (Nat.le_of_ble_eq_true rfl) ?_
  intro X hR C E
  have C : kC X 12 RL cL_due wsL_due cy := C
  refine k_fr (fr2 := [(0, .int 6), (1, .int (nI p)), (2, .int y), (3, .ref (e 0)), (4, .ref (e 1)), (5, .ref (e 2)), (6, .ref (e 3)), (7, .ref (e 4)), (8, .ref (e 5))]) ⟨[0, 1, 2, 3, 4, 5, 6, 7, 8], rfl⟩ ?_
  refine k_iload_n (q := 1) C 0 dL_due_0 rfl rfl ?_
  refine k_if_ne (tgt := 155) (q := 4) C dL_due_1 (by decide) rfl ?_ ?_
  · intro c_1
    refine k_iload_n (q := 156) C 0 dL_due_155 rfl rfl ?_
    refine k_iconst (q := 157) (v := 1) C dL_due_156 (by decide) rfl ?_
    refine k_icmp_eq (tgt := 165) (q := 160) C dL_due_157 (by decide) rfl ?_ ?_
    · exact fun c_157 => absurd c_157 (by decide)
    · intro c_157
      refine k_iload_n (q := 161) C 0 dL_due_160 rfl rfl ?_
      refine k_iconst (q := 162) (v := 5) C dL_due_161 (by decide) rfl ?_
      refine k_icmp_ne (tgt := 193) (q := 165) C dL_due_162 (by decide) rfl ?_ ?_
      · intro c_162
        refine k_iload_n (q := 194) C 0 dL_due_193 rfl rfl ?_
        refine k_iconst (q := 195) (v := 2) C dL_due_194 (by decide) rfl ?_
        refine k_icmp_eq (tgt := 204) (q := 198) C dL_due_195 (by decide) rfl ?_ ?_
        · exact fun c_195 => absurd c_195 (by decide)
        · intro c_195
          refine k_iload_n (q := 199) C 0 dL_due_198 rfl rfl ?_
          refine k_bipush (q := 201) (v := 6) C dL_due_199 (by decide +kernel) rfl ?_
          refine k_icmp_ne (tgt := 264) (q := 204) C dL_due_201 (by decide) rfl ?_ ?_
          · exact fun c_201 => absurd c_201 (by decide)
          · intro c_201
            refine k_iload_n (q := 205) C 0 dL_due_204 rfl rfl ?_
            refine k_iconst (q := 206) (v := 2) C dL_due_205 (by decide) rfl ?_
            refine k_icmp_ne (tgt := 213) (q := 209) C dL_due_206 (by decide) rfl ?_ ?_
            · intro c_206
              refine k_iload_n (q := 214) C 1 dL_due_213 rfl rfl ?_
              refine k_aload_n (q := 215) C 3 dL_due_214 rfl rfl ?_
              refine k_bipush (q := 217) (v := 8) C dL_due_215 (by decide +kernel) rfl ?_
              refine k_iald (q := 218) C 0 rfl (vp_in_nI (n := 8) (by decide) (by decide)) dL_due_217 rfl ?_
              refine k_sti (show (qSt nM oM sM gM knM loM lfM) (8 : Int32).toNatClampNeg = (qSt nM oM sM gM knM loM lfM) 8 from congrArg (qSt nM oM sM gM knM loM lfM) (nI_clamp (n := 8) (by decide))) ?_
              refine k_sti (show (qSt nM oM sM gM knM loM lfM) 8 = nI nM from rfl) ?_
              refine k_nicmp_lt (a := p) (b := nM)  (tgt := 224) (q := 221) C dL_due_218 (by decide) rfl (by omega) (by omega) ?_ ?_
              · intro c_218
                refine k_iload_n (q := 225) C 0 dL_due_224 rfl rfl ?_
                refine k_bipush (q := 227) (v := 6) C dL_due_225 (by decide +kernel) rfl ?_
                refine k_icmp_ne (tgt := 240) (q := 230) C dL_due_227 (by decide) rfl ?_ ?_
                · exact fun c_227 => absurd c_227 (by decide)
                · intro c_227
                  refine k_iload_n (q := 231) C 1 dL_due_230 rfl rfl ?_
                  refine k_aload_n (q := 232) C 3 dL_due_231 rfl rfl ?_
                  refine k_aload (q := 234) C 4 dL_due_232 rfl rfl ?_
                  refine k_aload (q := 236) C 5 dL_due_234 rfl rfl ?_
                  refine k_callSI (n := 4) (q := 239) (pre := ([] : va_W)) (post := ([] : va_W)) (w2 := (wLa e cy (qSt (nM - 1) oM sM gM knM loM lfM) (sDn hM p nM) (sDn tM p nM) lM bM rM)) (As := [.int (nI p), .ref (e 0), .ref (e 1), .ref (e 2)]) (rest := []) C (c_L_drops cy e nM oM sM gM knM loM lfM hM tM lM bM rM p hn hp) gL_due_L_drops rfl rfl rfl (by decide +kernel) (k_room hR (by decide)) ⟨Nat.zero_le _, Nat.zero_le _⟩  rfl rfl (Nat.le_of_ble_eq_true rfl) ((List.append_nil _).symm) (List.append_nil _) dL_due_236 rfl ?_
                  exact k_fin E dL_due_239 (rfl) (rfl)
              · exact fun c_218 => absurd hp (by omega)
            · exact fun c_206 => absurd c_206 (by decide)
      · exact fun c_162 => absurd c_162 (by decide)
  · exact fun c_1 => absurd c_1 (by decide)
set_option maxHeartbeats 4000000 in
set_option maxRecDepth 100000 in
theorem c_L_due_clear_e (cy : Nat → ClassId) (e : Nat → Nat) (nM : Nat) (oM : Nat → Int32) (sM : Nat → Int32) (gM : Nat → Int32) (knM : Nat) (loM : Int32) (lfM : Int32) (hM : Nat → Int32) (tM : Nat → Int32) (lM : Nat → Int32) (bM : Nat → Int32) (rM : Nat → Int32) (p : Nat) (y : Int32)  (hn : nM ≤ 6) (hp : nM ≤ p) (hp6 : p < 100) : kI yL_due wsL_due rm_L_due cy [.int 6, .int (nI p), .int y, .ref (e 0), .ref (e 1), .ref (e 2), .ref (e 3), .ref (e 4), .ref (e 5)] (wLa e cy (qSt nM oM sM gM knM loM lfM) hM tM lM bM rM) (-200001) (wLa e cy (qSt nM oM sM gM knM loM lfM) hM tM lM bM rM) := by
  refine kI_of (cc := cL_due) (maxL := 12) (rt := .int) (by decide) rfl (rfl) (Nat.le_of_ble_eq_true rfl) ?_
  intro X hR C E
  have C : kC X 12 RL cL_due wsL_due cy := C
  refine k_fr (fr2 := [(0, .int 6), (1, .int (nI p)), (2, .int y), (3, .ref (e 0)), (4, .ref (e 1)), (5, .ref (e 2)), (6, .ref (e 3)), (7, .ref (e 4)), (8, .ref (e 5))]) ⟨[0, 1, 2, 3, 4, 5, 6, 7, 8], rfl⟩ ?_
  refine k_iload_n (q := 1) C 0 dL_due_0 rfl rfl ?_
  refine k_if_ne (tgt := 155) (q := 4) C dL_due_1 (by decide) rfl ?_ ?_
  · intro c_1
    refine k_iload_n (q := 156) C 0 dL_due_155 rfl rfl ?_
    refine k_iconst (q := 157) (v := 1) C dL_due_156 (by decide) rfl ?_
    refine k_icmp_eq (tgt := 165) (q := 160) C dL_due_157 (by decide) rfl ?_ ?_
    · exact fun c_157 => absurd c_157 (by decide)
    · intro c_157
      refine k_iload_n (q := 161) C 0 dL_due_160 rfl rfl ?_
      refine k_iconst (q := 162) (v := 5) C dL_due_161 (by decide) rfl ?_
      refine k_icmp_ne (tgt := 193) (q := 165) C dL_due_162 (by decide) rfl ?_ ?_
      · intro c_162
        refine k_iload_n (q := 194) C 0 dL_due_193 rfl rfl ?_
        refine k_iconst (q := 195) (v := 2) C dL_due_194 (by decide) rfl ?_
        refine k_icmp_eq (tgt := 204) (q := 198) C dL_due_195 (by decide) rfl ?_ ?_
        · exact fun c_195 => absurd c_195 (by decide)
        · intro c_195
          refine k_iload_n (q := 199) C 0 dL_due_198 rfl rfl ?_
          refine k_bipush (q := 201) (v := 6) C dL_due_199 (by decide +kernel) rfl ?_
          refine k_icmp_ne (tgt := 264) (q := 204) C dL_due_201 (by decide) rfl ?_ ?_
          · exact fun c_201 => absurd c_201 (by decide)
          · intro c_201
            refine k_iload_n (q := 205) C 0 dL_due_204 rfl rfl ?_
            refine k_iconst (q := 206) (v := 2) C dL_due_205 (by decide) rfl ?_
            refine k_icmp_ne (tgt := 213) (q := 209) C dL_due_206 (by decide) rfl ?_ ?_
            · intro c_206
              refine k_iload_n (q := 214) C 1 dL_due_213 rfl rfl ?_
              refine k_aload_n (q := 215) C 3 dL_due_214 rfl rfl ?_
              refine k_bipush (q := 217) (v := 8) C dL_due_215 (by decide +kernel) rfl ?_
              refine k_iald (q := 218) C 0 rfl (vp_in_nI (n := 8) (by decide) (by decide)) dL_due_217 rfl ?_
              refine k_sti (show (qSt nM oM sM gM knM loM lfM) (8 : Int32).toNatClampNeg = (qSt nM oM sM gM knM loM lfM) 8 from congrArg (qSt nM oM sM gM knM loM lfM) (nI_clamp (n := 8) (by decide))) ?_
              refine k_sti (show (qSt nM oM sM gM knM loM lfM) 8 = nI nM from rfl) ?_
              refine k_nicmp_lt (a := p) (b := nM)  (tgt := 224) (q := 221) C dL_due_218 (by decide) rfl (by omega) (by omega) ?_ ?_
              · exact fun c_218 => absurd c_218 (by omega)
              · intro c_218
                refine k_ldc (q := 223) (v := -200001) C (List.mem_of_getElem? (i := 2) rfl) dL_due_221 rfl ?_
                exact k_fin E dL_due_223 (rfl) (rfl)
            · exact fun c_206 => absurd c_206 (by decide)
      · exact fun c_162 => absurd c_162 (by decide)
  · exact fun c_1 => absurd c_1 (by decide)
set_option maxHeartbeats 4000000 in
set_option maxRecDepth 100000 in
theorem lp_L_due_thin_319 (cy : Nat → ClassId) (e : Nat → Nat) (nM : Nat) (oM : Nat → Int32) (sM : Nat → Int32) (gM : Nat → Int32) (knM : Nat) (loM : Int32) (lfM : Int32) (hM : Nat → Int32) (tM : Nat → Int32) (lM : Nat → Int32) (bM : Nat → Int32) (rM : Nat → Int32) (x : Int32) (y : Int32)  (hn : nM ≤ 6) (hpos : ∀ i, i < nM → 0 < hM i) (X : kX) (hR : xR X = rm_L_due) (C : kC X 12 RL cL_due wsL_due cy) (E : kEnd X 12 cL_due (nI (nM - (lThn hM tM x nM (nM)).1)) (wLa e cy (qSt (lThn hM tM x nM (nM)).1 oM sM gM knM loM lfM) (lThn hM tM x nM (nM)).2.1 (lThn hM tM x nM (nM)).2.2 lM bM rM)) : ∀ (fu : Nat) (i : Nat) (m : Nat), i < fu → (i + m = nM) → (mTh nM hM tM x i (lThn hM tM x nM (m)).1 (lThn hM tM x nM (m)).2.1 (lThn hM tM x nM (m)).2.2) → kG X 12 0 0 (wLa e cy (qSt (lThn hM tM x nM (m)).1 oM sM gM knM loM lfM) (lThn hM tM x nM (m)).2.1 (lThn hM tM x nM (m)).2.2 lM bM rM) 319 [(0, .int 7), (1, .int x), (3, .ref (e 0)), (4, .ref (e 1)), (5, .ref (e 2)), (9, .int (nI (nM - (lThn hM tM x nM (m)).1))), (10, .int (iI ((i : Int) - 1)))] [] := by
  intro fu
  induction fu with
  | zero => intro i m hfu; exact absurd hfu (Nat.not_lt_zero _)
  | succ fu ih =>
    intro i m hfu him hT
    have hN1 : (lThn hM tM x nM m).1 ≤ nM := lThn_le hM tM x nM m
    have hN2 : i ≤ (lThn hM tM x nM m).1 := hT.1
    refine k_iload (q := 321) C 6 dL_due_319 rfl rfl ?_
    refine k_if_lt (tgt := 362) (q := 324) C dL_due_321 (by decide) rfl ?_ ?_
    · intro c_321
      have hi0 : i = 0 := by
        rcases Nat.eq_zero_or_pos i with q | q
        · exact q
        · exfalso; rw [show (i : Int) - 1 = ((i - 1 : Nat) : Int) by omega, iI_nI] at c_321; exact nI_pos (by omega) c_321
      have hmn : m = nM := by omega
      obtain rfl : nM = m := hmn.symm
      refine k_iload (q := 364) C 5 dL_due_362 rfl rfl ?_
      exact k_fin E dL_due_364 (rfl) (rfl)
    · intro c_321
      have c_321 := Int32.not_lt.mp c_321
      have hi0 : 0 < i := by
        rcases Nat.eq_zero_or_pos i with q | q
        · exfalso; rw [q] at c_321; exact absurd c_321 (by decide)
        · exact q
      have e_324_10 : iI ((i : Int) - 1) = nI (i - 1) := by rw [← iI_nI]; congr 1; omega
      rw [e_324_10]
      refine k_aload (q := 326) C 4 dL_due_324 rfl rfl ?_
      refine k_iload (q := 328) C 6 dL_due_326 rfl rfl ?_
      refine k_iald (q := 329) C 2 rfl (vp_in_nI (n := i - 1) (by omega) (by decide)) dL_due_328 rfl ?_
      refine k_sti (show (lThn hM tM x nM (m)).2.2 (nI (i - 1)).toNatClampNeg = (lThn hM tM x nM (m)).2.2 (i - 1) from congrArg (lThn hM tM x nM (m)).2.2 (nI_clamp (n := i - 1) (by omega))) ?_
      refine k_iload_n (q := 330) C 1 dL_due_329 rfl rfl ?_
      refine k_icmp_gt (tgt := 356) (q := 333) C dL_due_330 (by decide) rfl ?_ ?_
      · intro c_330
        refine k_iinc (q := 359) (v := iI (((i - 1 : Nat) : Int) - 1)) (fr2 := [(10, .int (iI (((i - 1 : Nat) : Int) - 1))), (0, .int 7), (1, .int x), (3, .ref (e 0)), (4, .ref (e 1)), (5, .ref (e 2)), (9, .int (nI (nM - (lThn hM tM x nM (m)).1)))]) C 6 dL_due_356 rfl ((by rw [← iI_nI, show (Int32.ofInt (-1)) = iI (-1) from rfl, iI_add]; rfl)) (by decide) rfl rfl ?_
        refine k_goto (q := 319) C dL_due_359 (by decide) ?_
        refine k_fr (fr2 := [(0, .int 7), (1, .int x), (3, .ref (e 0)), (4, .ref (e 1)), (5, .ref (e 2)), (9, .int (nI (nM - (lThn hM tM x nM (m)).1))), (10, .int (iI (((i - 1 : Nat) : Int) - 1)))]) ⟨[1, 2, 3, 4, 5, 6, 0], rfl⟩ ?_
        have K := ih (i - 1) (m + 1) (by omega) (by omega) (lThn_kT him hi0 (by omega) hT c_330)
        rw [lThn_n him hi0 c_330] at K
        exact K
      · intro c_330
        have c_330 := Int32.not_lt.mp c_330
        refine k_iload (q := 335) C 5 dL_due_333 rfl rfl ?_
        refine k_iload (q := 337) C 6 dL_due_335 rfl rfl ?_
        refine k_aload_n (q := 338) C 2 dL_due_337 rfl rfl ?_
        refine k_aload (q := 340) C 3 dL_due_338 rfl rfl ?_
        refine k_aload (q := 342) C 4 dL_due_340 rfl rfl ?_
        refine k_callSI (n := 4) (q := 345) (pre := ([] : va_W)) (post := ([] : va_W)) (w2 := (wLa e cy (qSt ((lThn hM tM x nM (m)).1 - 1) oM sM gM knM loM lfM) (sDn (lThn hM tM x nM (m)).2.1 (i - 1) (lThn hM tM x nM (m)).1) (sDn (lThn hM tM x nM (m)).2.2 (i - 1) (lThn hM tM x nM (m)).1) lM bM rM)) (As := [.int (nI (i - 1)), .ref (e 0), .ref (e 1), .ref (e 2)]) (rest := [.int (nI (nM - (lThn hM tM x nM (m)).1))]) C (c_L_drops cy e (lThn hM tM x nM (m)).1 oM sM gM knM loM lfM (lThn hM tM x nM (m)).2.1 (lThn hM tM x nM (m)).2.2 lM bM rM (i - 1) (Nat.le_trans hN1 hn) (by omega)) gL_due_L_drops rfl rfl rfl (by decide +kernel) (k_room hR (by decide)) ⟨Nat.zero_le _, Nat.zero_le _⟩  rfl rfl (Nat.le_of_ble_eq_true rfl) ((List.append_nil _).symm) (List.append_nil _) dL_due_342 rfl ?_
        refine k_if_le (tgt := 352) (q := 348) C dL_due_345 (by decide) rfl ?_ ?_
        · exact fun c_345 => absurd (show 0 < (lThn hM tM x nM m).2.1 (i - 1) from by rw [(hT.2.2.1 (i - 1) (by omega)).1]; exact hpos (i - 1) (by omega)) (Int32.not_lt.mpr c_345)
        · intro c_345
          have c_345 := Int32.not_le.mp c_345
          refine k_iconst (q := 349) (v := 1) C dL_due_348 (by decide) rfl ?_
          refine k_goto (q := 353) C dL_due_349 (by decide) ?_
          refine k_iadd (q := 354) C dL_due_353 rfl ?_
          refine k_sti (show (nI (nM - (lThn hM tM x nM (m)).1)) + 1 = nI (nM - (lThn hM tM x nM (m)).1 + 1) from nI_add (nM - (lThn hM tM x nM (m)).1) 1) ?_
          refine k_sti (show nI (nM - (lThn hM tM x nM (m)).1 + 1) = nI (nM - ((lThn hM tM x nM m).1 - 1)) from by congr 1; omega) ?_
          refine k_istore (q := 356) (fr2 := [(9, .int (nI (nM - ((lThn hM tM x nM m).1 - 1)))), (0, .int 7), (1, .int x), (3, .ref (e 0)), (4, .ref (e 1)), (5, .ref (e 2)), (10, .int (nI (i - 1)))]) C dL_due_354 (by decide) rfl rfl ?_
          refine k_iinc (q := 359) (v := iI (((i - 1 : Nat) : Int) - 1)) (fr2 := [(10, .int (iI (((i - 1 : Nat) : Int) - 1))), (9, .int (nI (nM - ((lThn hM tM x nM m).1 - 1)))), (0, .int 7), (1, .int x), (3, .ref (e 0)), (4, .ref (e 1)), (5, .ref (e 2))]) C 6 dL_due_356 rfl ((by rw [← iI_nI, show (Int32.ofInt (-1)) = iI (-1) from rfl, iI_add]; rfl)) (by decide) rfl rfl ?_
          refine k_goto (q := 319) C dL_due_359 (by decide) ?_
          refine k_fr (fr2 := [(0, .int 7), (1, .int x), (3, .ref (e 0)), (4, .ref (e 1)), (5, .ref (e 2)), (9, .int (nI (nM - ((lThn hM tM x nM m).1 - 1)))), (10, .int (iI (((i - 1 : Nat) : Int) - 1)))]) ⟨[2, 3, 4, 5, 6, 1, 0], rfl⟩ ?_
          have K := ih (i - 1) (m + 1) (by omega) (by omega) (lThn_yT him hi0 hT c_330)
          rw [lThn_y him hi0 c_330] at K
          exact K
set_option maxHeartbeats 4000000 in
set_option maxRecDepth 100000 in
theorem c_L_due_thin (cy : Nat → ClassId) (e : Nat → Nat) (nM : Nat) (oM : Nat → Int32) (sM : Nat → Int32) (gM : Nat → Int32) (knM : Nat) (loM : Int32) (lfM : Int32) (hM : Nat → Int32) (tM : Nat → Int32) (lM : Nat → Int32) (bM : Nat → Int32) (rM : Nat → Int32) (x : Int32) (y : Int32)  (hn : nM ≤ 6) (hpos : ∀ i, i < nM → 0 < hM i) : kI yL_due wsL_due rm_L_due cy [.int 7, .int x, .int y, .ref (e 0), .ref (e 1), .ref (e 2), .ref (e 3), .ref (e 4), .ref (e 5)] (wLa e cy (qSt nM oM sM gM knM loM lfM) hM tM lM bM rM) (nI (nM - (lThn hM tM x nM (nM)).1)) (wLa e cy (qSt (lThn hM tM x nM (nM)).1 oM sM gM knM loM lfM) (lThn hM tM x nM (nM)).2.1 (lThn hM tM x nM (nM)).2.2 lM bM rM) := by
  refine kI_of (cc := cL_due) (maxL := 12) (rt := .int) (by decide) rfl (rfl) (Nat.le_of_ble_eq_true rfl) ?_
  intro X hR C E
  have C : kC X 12 RL cL_due wsL_due cy := C
  refine k_fr (fr2 := [(0, .int 7), (1, .int x), (2, .int y), (3, .ref (e 0)), (4, .ref (e 1)), (5, .ref (e 2)), (6, .ref (e 3)), (7, .ref (e 4)), (8, .ref (e 5))]) ⟨[0, 1, 2, 3, 4, 5, 6, 7, 8], rfl⟩ ?_
  refine k_iload_n (q := 1) C 0 dL_due_0 rfl rfl ?_
  refine k_if_ne (tgt := 155) (q := 4) C dL_due_1 (by decide) rfl ?_ ?_
  · intro c_1
    refine k_iload_n (q := 156) C 0 dL_due_155 rfl rfl ?_
    refine k_iconst (q := 157) (v := 1) C dL_due_156 (by decide) rfl ?_
    refine k_icmp_eq (tgt := 165) (q := 160) C dL_due_157 (by decide) rfl ?_ ?_
    · exact fun c_157 => absurd c_157 (by decide)
    · intro c_157
      refine k_iload_n (q := 161) C 0 dL_due_160 rfl rfl ?_
      refine k_iconst (q := 162) (v := 5) C dL_due_161 (by decide) rfl ?_
      refine k_icmp_ne (tgt := 193) (q := 165) C dL_due_162 (by decide) rfl ?_ ?_
      · intro c_162
        refine k_iload_n (q := 194) C 0 dL_due_193 rfl rfl ?_
        refine k_iconst (q := 195) (v := 2) C dL_due_194 (by decide) rfl ?_
        refine k_icmp_eq (tgt := 204) (q := 198) C dL_due_195 (by decide) rfl ?_ ?_
        · exact fun c_195 => absurd c_195 (by decide)
        · intro c_195
          refine k_iload_n (q := 199) C 0 dL_due_198 rfl rfl ?_
          refine k_bipush (q := 201) (v := 6) C dL_due_199 (by decide +kernel) rfl ?_
          refine k_icmp_ne (tgt := 264) (q := 204) C dL_due_201 (by decide) rfl ?_ ?_
          · intro c_201
            refine k_iload_n (q := 265) C 0 dL_due_264 rfl rfl ?_
            refine k_iconst (q := 266) (v := 3) C dL_due_265 (by decide) rfl ?_
            refine k_icmp_ne (tgt := 282) (q := 269) C dL_due_266 (by decide) rfl ?_ ?_
            · intro c_266
              refine k_iload_n (q := 283) C 0 dL_due_282 rfl rfl ?_
              refine k_iconst (q := 284) (v := 4) C dL_due_283 (by decide) rfl ?_
              refine k_icmp_ne (tgt := 308) (q := 287) C dL_due_284 (by decide) rfl ?_ ?_
              · intro c_284
                refine k_iconst (q := 309) (v := 0) C dL_due_308 (by decide) rfl ?_
                refine k_istore (q := 311) (fr2 := [(9, .int 0), (0, .int 7), (1, .int x), (2, .int y), (3, .ref (e 0)), (4, .ref (e 1)), (5, .ref (e 2)), (6, .ref (e 3)), (7, .ref (e 4)), (8, .ref (e 5))]) C dL_due_309 (by decide) rfl rfl ?_
                refine k_aload_n (q := 312) C 4 dL_due_311 rfl rfl ?_
                refine k_bipush (q := 314) (v := 8) C dL_due_312 (by decide +kernel) rfl ?_
                refine k_iald (q := 315) C 0 rfl (vp_in_nI (n := 8) (by decide) (by decide)) dL_due_314 rfl ?_
                refine k_sti (show (qSt nM oM sM gM knM loM lfM) (8 : Int32).toNatClampNeg = (qSt nM oM sM gM knM loM lfM) 8 from congrArg (qSt nM oM sM gM knM loM lfM) (nI_clamp (n := 8) (by decide))) ?_
                refine k_sti (show (qSt nM oM sM gM knM loM lfM) 8 = nI nM from rfl) ?_
                refine k_iconst (q := 316) (v := 1) C dL_due_315 (by decide) rfl ?_
                refine k_isub (q := 317) C dL_due_316 rfl ?_
                refine k_sti (show (nI nM) - 1 = iI ((nM : Int) - 1) from (show nI nM - 1 = _ from by rw [← iI_nI, show (1 : Int32) = iI 1 from rfl, iI_sub])) ?_
                refine k_istore (q := 319) (fr2 := [(10, .int (iI ((nM : Int) - 1))), (9, .int 0), (0, .int 7), (1, .int x), (2, .int y), (3, .ref (e 0)), (4, .ref (e 1)), (5, .ref (e 2)), (6, .ref (e 3)), (7, .ref (e 4)), (8, .ref (e 5))]) C dL_due_317 (by decide) rfl rfl ?_
                refine k_fr (fr2 := [(0, .int 7), (1, .int x), (3, .ref (e 0)), (4, .ref (e 1)), (5, .ref (e 2)), (9, .int 0), (10, .int (iI ((nM : Int) - 1)))]) ⟨[2, 3, 5, 6, 7, 1, 0], rfl⟩ ?_
                have K := lp_L_due_thin_319 cy e nM oM sM gM knM loM lfM hM tM lM bM rM x y hn hpos X hR C E _ nM 0 (Nat.lt_succ_self _) (Nat.add_zero _) (mTh_0 nM hM tM x)
                rw [show nM - (lThn hM tM x nM 0).1 = 0 from Nat.sub_self nM] at K
                exact K
              · exact fun c_284 => absurd c_284 (by decide)
            · exact fun c_266 => absurd c_266 (by decide)
          · exact fun c_201 => absurd c_201 (by decide)
      · exact fun c_162 => absurd c_162 (by decide)
  · exact fun c_1 => absurd c_1 (by decide)
