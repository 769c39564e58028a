abbrev rm_L_told : Room := { frames := 8, cells := 32, slots := 192, locals := 177 }
theorem in0_L_told : ∀ w ∈ wsX00, w ∈ wsL_told := fun _ h => (List.mem_cons_of_mem _ (List.mem_append_left _ (List.mem_append_left _ (List.mem_append_right _ h))))
theorem in2_L_told : ∀ w ∈ wsX20, w ∈ wsL_told := fun _ h => (List.mem_cons_of_mem _ (List.mem_append_left _ (List.mem_append_left _ (List.mem_append_left _ (List.mem_append_right _ h)))))
theorem in3_L_told : ∀ w ∈ wsX30, w ∈ wsL_told := fun _ h => (List.mem_cons_of_mem _ (List.mem_append_left _ (List.mem_append_left _ (List.mem_append_left _ (List.mem_append_left _ (List.mem_append_right _ h))))))
set_option maxHeartbeats 4000000 in
set_option maxRecDepth 100000 in
theorem lp_L_told_49 (cy : Nat → ClassId) (a : Nat → Nat) (b : Nat → Nat) (r : Nat) (nx : Nat) (sn : Nat) (ln : Nat) (sk : Nat → Nat → Nat) (S : Nat → CK) (ik : Nat → Int32) (bf : Nat → Nat) (kd : Nat) (hg : Nat) (nu : Nat) (dg : Nat) (ng : Bool) (tk : Bool) (n : Nat) (lit : Int32) (h : Nat → Int32) (t : Nat → Int32) (s : Nat → Int32) (g : Nat → Int32) (kn : Nat) (lo : Int32) (lf : Int32) (nm : Nat → Int32)  (hn : n ≤ 6) (hk8 : kn ≤ 8) (X : kX) (hR : xR X = rm_L_told) (C : kC X 4 RL cL_told wsL_told cy) (Z : kZ (xA X) (xS X) (xS X).heap) (hst : (xL X).stackTraces = false) (E : kEndLl X 4 cL_told (tB (tA (tC sn ln n lit h t s g kn lo lf) 17) (tN kn nm) (tY n lit h t s g) 32) ((wXo b cy (a 0) r nx sn ln (svOf sk) (kpOf sk) ik bf ++ wRd r kd hg nu dg ng tk) ++ (wSky a cy n lit h t s g kn lo lf nm ++ wOth sk cy S)) 32 192) : ∀ (fu : Nat) (k : Nat), 32 - k < fu → (k ≤ 32) → kG X 4 k (6 * k) ((wXo b cy (a 0) r nx sn ln (svOf sk) (kpOf sk) ik bf ++ wRd r kd hg nu dg ng tk) ++ (wSky a cy n lit h t s g kn lo lf nm ++ wOth sk cy S)) 49 [(0, .ref (b 0)), (1, .long (tB (tA (tC sn ln n lit h t s g kn lo lf) 17) (tN kn nm) (tY n lit h t s g) k)), (3, .int (nI k))] [] := by
  intro fu
  induction fu with
  | zero => intro k hfu; exact absurd hfu (Nat.not_lt_zero _)
  | succ fu ih =>
    intro k hfu hk
    refine k_iload_n (q := 50) C 2 dL_told_49 rfl rfl ?_
    refine k_bipush (q := 52) (v := 32) C dL_told_50 (by decide +kernel) rfl ?_
    refine k_nicmp_ge (a := k) (b := 32)  (tgt := 95) (q := 55) C dL_told_52 (by decide) rfl (by omega) (by decide) ?_ ?_
    · intro c_52
      have hke : k = 32 := by omega
      obtain rfl : k = 32 := hke
      refine k_lload_n (q := 96) C 1 dL_told_95 rfl rfl ?_
      exact k_finLl E (by omega) (by omega) dL_told_96 (rfl) (rfl)
    · intro c_52
      refine k_ldc2 (q := 58) (v := 31) C (List.mem_of_getElem? (i := 2) rfl) dL_told_55 rfl ?_
      refine k_ldc2 (q := 61) (v := 31) C (List.mem_of_getElem? (i := 2) rfl) dL_told_58 rfl ?_
      refine k_lload_n (q := 62) C 1 dL_told_61 rfl rfl ?_
      refine k_lmul (q := 63) C dL_told_62 rfl ?_
      refine k_aload_n (q := 64) C 0 dL_told_63 rfl rfl ?_
      refine k_iload_n (q := 65) C 2 dL_told_64 rfl rfl ?_
      refine k_iconst (q := 66) (v := 4) C dL_told_65 (by decide) rfl ?_
      refine k_idiv (q := 67) C dL_told_66 (by decide) rfl ?_
      refine k_sti (show (nI k) / 4 = nI (k / 4) from nI_div4 (by omega)) ?_
      refine k_iload_n (q := 68) C 2 dL_told_67 rfl rfl ?_
      refine k_iconst (q := 69) (v := 4) C dL_told_68 (by decide) rfl ?_
      refine k_irem (q := 70) C dL_told_69 (by decide) rfl ?_
      refine k_sti (show (nI k) - (nI k) / 4 * 4 = nI (k % 4) from nI_rem4 (by omega)) ?_
      refine k_callSIw (n := 3) (q := 73) (pre := ([] : va_W)) (post := ([] : va_W)) (w2 := ((wXo b cy (a 0) r nx sn ln (svOf sk) (kpOf sk) ik bf ++ wRd r kd hg nu dg ng tk) ++ (wSky a cy n lit h t s g kn lo lf nm ++ wOth sk cy S))) (As := [.ref (b 0), .int (nI (k / 4)), .int (nI (k % 4))]) (rest := [.long (31 * (tB (tA (tC sn ln n lit h t s g kn lo lf) 17) (tN kn nm) (tY n lit h t s g) k)), .long 31]) C (c_L_night cy a b r nx sn ln sk S ik bf kd hg nu dg ng tk n lit h t s g kn lo lf nm (k / 4) (k % 4) hk8 (by omega) (by omega)) gL_told_L_night rfl rfl rfl (by decide +kernel) (k_room hR (by decide)) (k_cs (a := 32) (b := 192) hR rfl rfl (by omega)) rfl rfl (Nat.le_of_ble_eq_true rfl) ((List.append_nil _).symm) (List.append_nil _) dL_told_70 rfl ?_
      refine k_i2l (q := 74) C dL_told_73 rfl ?_
      refine k_ladd (q := 75) C dL_told_74 rfl ?_
      refine k_lmul (q := 76) C dL_told_75 rfl ?_
      refine k_aload_n (q := 77) C 0 dL_told_76 rfl rfl ?_
      refine k_iload_n (q := 78) C 2 dL_told_77 rfl rfl ?_
      refine k_iconst (q := 79) (v := 4) C dL_told_78 (by decide) rfl ?_
      refine k_idiv (q := 80) C dL_told_79 (by decide) rfl ?_
      refine k_sti (show (nI k) / 4 = nI (k / 4) from nI_div4 (by omega)) ?_
      refine k_iload_n (q := 81) C 2 dL_told_80 rfl rfl ?_
      refine k_iconst (q := 82) (v := 4) C dL_told_81 (by decide) rfl ?_
      refine k_irem (q := 83) C dL_told_82 (by decide) rfl ?_
      refine k_sti (show (nI k) - (nI k) / 4 * 4 = nI (k % 4) from nI_rem4 (by omega)) ?_
      by_cases hq : k / 4 < n
      · skip
        refine k_callSIw (n := 3) (q := 86) (pre := ([] : va_W)) (post := ([] : va_W)) (w2 := ((wXo b cy (a 0) r nx sn ln (svOf sk) (kpOf sk) ik bf ++ wRd r kd hg nu dg ng tk) ++ (wSky a cy n lit h t s g kn lo lf nm ++ wOth sk cy S))) (As := [.ref (b 0), .int (nI (k / 4)), .int (nI (k % 4))]) (rest := [.long (31 * ((31 * (tB (tA (tC sn ln n lit h t s g kn lo lf) 17) (tN kn nm) (tY n lit h t s g) k)) + ((sNight kn nm (k / 4) (k % 4)).toInt64)))]) C (c_L_layerOf cy a b r nx sn ln sk S ik bf kd hg nu dg ng tk n lit h t s g kn lo lf nm (k / 4) (k % 4) hn hq (by omega)) gL_told_L_layerOf rfl rfl rfl (by decide +kernel) (k_room hR (by decide)) (k_cs (a := 32) (b := 192) hR rfl rfl (by omega)) rfl rfl (Nat.le_of_ble_eq_true rfl) ((List.append_nil _).symm) (List.append_nil _) dL_told_83 rfl ?_
        refine k_sti (show sLy lit h t s g (k / 4) (nI (k % 4)) = tY n lit h t s g k from (if_pos hq).symm) ?_
        refine k_i2l (q := 87) C dL_told_86 rfl ?_
        refine k_ladd (q := 88) C dL_told_87 rfl ?_
        refine k_lstore_n (q := 89) (fr2 := [(1, .long ((31 * ((31 * (tB (tA (tC sn ln n lit h t s g kn lo lf) 17) (tN kn nm) (tY n lit h t s g) k)) + ((sNight kn nm (k / 4) (k % 4)).toInt64))) + ((tY n lit h t s g k).toInt64))), (0, .ref (b 0)), (3, .int (nI k))]) C dL_told_88 (by decide) rfl rfl ?_
        refine k_iinc (q := 92) (v := nI (k + 1)) (fr2 := [(3, .int (nI (k + 1))), (1, .long ((31 * ((31 * (tB (tA (tC sn ln n lit h t s g kn lo lf) 17) (tN kn nm) (tY n lit h t s g) k)) + ((sNight kn nm (k / 4) (k % 4)).toInt64))) + ((tY n lit h t s g k).toInt64))), (0, .ref (b 0))]) C 2 dL_told_89 rfl (nI_add k 1) (by decide) rfl rfl ?_
        refine k_goto (q := 49) C dL_told_92 (by decide) ?_
        refine k_fr (fr2 := [(0, .ref (b 0)), (1, .long ((31 * ((31 * (tB (tA (tC sn ln n lit h t s g kn lo lf) 17) (tN kn nm) (tY n lit h t s g) k)) + ((sNight kn nm (k / 4) (k % 4)).toInt64))) + ((tY n lit h t s g k).toInt64))), (3, .int (nI (k + 1)))]) ⟨[2, 1, 0], rfl⟩ ?_
        refine k_wide (ce2 := (k + 1)) (sl2 := 6 * (k + 1)) (by omega) (by omega) ?_
        exact ih (k + 1) (by omega) (by omega)
      · skip
        refine k_callSL (n := 3) (q := 86) (pre := ([] : va_W)) (post := ([] : va_W)) (w2 := ((wXo b cy (a 0) r nx sn ln (svOf sk) (kpOf sk) ik bf ++ wRd r kd hg nu dg ng tk) ++ (wSky a cy n lit h t s g kn lo lf nm ++ wOth sk cy S))) (As := [.ref (b 0), .int (nI (k / 4)), .int (nI (k % 4))]) (rest := [.long (31 * ((31 * (tB (tA (tC sn ln n lit h t s g kn lo lf) 17) (tN kn nm) (tY n lit h t s g) k)) + ((sNight kn nm (k / 4) (k % 4)).toInt64)))]) C Z hst (c_L_layerOf_e cy a b r nx sn ln sk S ik bf kd hg nu dg ng tk n lit h t s g kn lo lf nm (nI (k / 4)) (nI (k % 4)) (fun q => hq (nI_of_lt q.2 (by omega) (by omega)))) gL_told_L_layerOf rfl rfl rfl (by decide +kernel) (k_room hR (by decide)) (k_cs (a := 32) (b := 192) hR rfl rfl (by omega)) rfl rfl (Nat.le_of_ble_eq_true rfl) ((List.append_nil _).symm) (List.append_nil _) dL_told_83 rfl ?_
        refine k_sti (show -200001 = tY n lit h t s g k from (if_neg hq).symm) ?_
        refine k_i2l (q := 87) C dL_told_86 rfl ?_
        refine k_ladd (q := 88) C dL_told_87 rfl ?_
        refine k_lstore_n (q := 89) (fr2 := [(1, .long ((31 * ((31 * (tB (tA (tC sn ln n lit h t s g kn lo lf) 17) (tN kn nm) (tY n lit h t s g) k)) + ((sNight kn nm (k / 4) (k % 4)).toInt64))) + ((tY n lit h t s g k).toInt64))), (0, .ref (b 0)), (3, .int (nI k))]) C dL_told_88 (by decide) rfl rfl ?_
        refine k_iinc (q := 92) (v := nI (k + 1)) (fr2 := [(3, .int (nI (k + 1))), (1, .long ((31 * ((31 * (tB (tA (tC sn ln n lit h t s g kn lo lf) 17) (tN kn nm) (tY n lit h t s g) k)) + ((sNight kn nm (k / 4) (k % 4)).toInt64))) + ((tY n lit h t s g k).toInt64))), (0, .ref (b 0))]) C 2 dL_told_89 rfl (nI_add k 1) (by decide) rfl rfl ?_
        refine k_goto (q := 49) C dL_told_92 (by decide) ?_
        refine k_fr (fr2 := [(0, .ref (b 0)), (1, .long ((31 * ((31 * (tB (tA (tC sn ln n lit h t s g kn lo lf) 17) (tN kn nm) (tY n lit h t s g) k)) + ((sNight kn nm (k / 4) (k % 4)).toInt64))) + ((tY n lit h t s g k).toInt64))), (3, .int (nI (k + 1)))]) ⟨[2, 1, 0], rfl⟩ ?_
        refine k_wide (ce2 := (k + 1)) (sl2 := 6 * (k + 1)) (by omega) (by omega) ?_
        exact ih (k + 1) (by omega) (by omega)
set_option maxHeartbeats 4000000 in
set_option maxRecDepth 100000 in
theorem lp_L_told_6 (cy : Nat → ClassId) (a : Nat → Nat) (b : Nat → Nat) (r : Nat) (nx : Nat) (sn : Nat) (ln : Nat) (sk : Nat → Nat → Nat) (S : Nat → CK) (ik : Nat → Int32) (bf : Nat → Nat) (kd : Nat) (hg : Nat) (nu : Nat) (dg : Nat) (ng : Bool) (tk : Bool) (n : Nat) (lit : Int32) (h : Nat → Int32) (t : Nat → Int32) (s : Nat → Int32) (g : Nat → Int32) (kn : Nat) (lo : Int32) (lf : Int32) (nm : Nat → Int32)  (hn : n ≤ 6) (hk8 : kn ≤ 8) (X : kX) (hR : xR X = rm_L_told) (C : kC X 4 RL cL_told wsL_told cy) (Z : kZ (xA X) (xS X) (xS X).heap) (hst : (xL X).stackTraces = false) (E : kEndLl X 4 cL_told (tB (tA (tC sn ln n lit h t s g kn lo lf) 17) (tN kn nm) (tY n lit h t s g) 32) ((wXo b cy (a 0) r nx sn ln (svOf sk) (kpOf sk) ik bf ++ wRd r kd hg nu dg ng tk) ++ (wSky a cy n lit h t s g kn lo lf nm ++ wOth sk cy S)) 32 192) : ∀ (fu : Nat) (k : Nat), 17 - k < fu → (k ≤ 17) → kG X 4 0 0 ((wXo b cy (a 0) r nx sn ln (svOf sk) (kpOf sk) ik bf ++ wRd r kd hg nu dg ng tk) ++ (wSky a cy n lit h t s g kn lo lf nm ++ wOth sk cy S)) 6 [(0, .ref (b 0)), (1, .long (tA (tC sn ln n lit h t s g kn lo lf) k)), (3, .int (nI k))] [] := by
  intro fu
  induction fu with
  | zero => intro k hfu; exact absurd hfu (Nat.not_lt_zero _)
  | succ fu ih =>
    intro k hfu hk
    refine k_iload_n (q := 7) C 2 dL_told_6 rfl rfl ?_
    refine k_bipush (q := 9) (v := 17) C dL_told_7 (by decide +kernel) rfl ?_
    refine k_nicmp_ge (a := k) (b := 17)  (tgt := 47) (q := 12) C dL_told_9 (by decide) rfl (by omega) (by decide) ?_ ?_
    · intro c_9
      have hke : k = 17 := by omega
      obtain rfl : k = 17 := hke
      refine k_iconst (q := 48) (v := 0) C dL_told_47 (by decide) rfl ?_
      refine k_istore_n (q := 49) (fr2 := [(3, .int 0), (0, .ref (b 0)), (1, .long (tA (tC sn ln n lit h t s g kn lo lf) 17))]) C dL_told_48 (by decide) rfl rfl ?_
      refine k_fr (fr2 := [(0, .ref (b 0)), (1, .long (tA (tC sn ln n lit h t s g kn lo lf) 17)), (3, .int 0)]) ⟨[1, 2, 0], rfl⟩ ?_
      refine k_wide (ce2 := 0) (sl2 := 6 * 0) (by omega) (by omega) ?_
      exact lp_L_told_49 cy a b r nx sn ln sk S ik bf kd hg nu dg ng tk n lit h t s g kn lo lf nm hn hk8 X hR C Z hst E _ 0 (Nat.lt_succ_self _) (by omega)
    · intro c_9
      refine k_ldc2 (q := 15) (v := 31) C (List.mem_of_getElem? (i := 2) rfl) dL_told_12 rfl ?_
      refine k_lload_n (q := 16) C 1 dL_told_15 rfl rfl ?_
      refine k_lmul (q := 17) C dL_told_16 rfl ?_
      have J_17 : kG X 4 0 0 ((wXo b cy (a 0) r nx sn ln (svOf sk) (kpOf sk) ik bf ++ wRd r kd hg nu dg ng tk) ++ (wSky a cy n lit h t s g kn lo lf nm ++ wOth sk cy S)) 38 [(0, .ref (b 0)), (1, .long (tA (tC sn ln n lit h t s g kn lo lf) k)), (3, .int (nI k))] [.int ((tC sn ln n lit h t s g kn lo lf) k), .long (31 * (tA (tC sn ln n lit h t s g kn lo lf) k))] := by
        refine k_i2l (q := 39) C dL_told_38 rfl ?_
        refine k_ladd (q := 40) C dL_told_39 rfl ?_
        refine k_lstore_n (q := 41) (fr2 := [(1, .long ((31 * (tA (tC sn ln n lit h t s g kn lo lf) k)) + (((tC sn ln n lit h t s g kn lo lf) k).toInt64))), (0, .ref (b 0)), (3, .int (nI k))]) C dL_told_40 (by decide) rfl rfl ?_
        refine k_iinc (q := 44) (v := nI (k + 1)) (fr2 := [(3, .int (nI (k + 1))), (1, .long ((31 * (tA (tC sn ln n lit h t s g kn lo lf) k)) + (((tC sn ln n lit h t s g kn lo lf) k).toInt64))), (0, .ref (b 0))]) C 2 dL_told_41 rfl (nI_add k 1) (by decide) rfl rfl ?_
        refine k_goto (q := 6) C dL_told_44 (by decide) ?_
        refine k_fr (fr2 := [(0, .ref (b 0)), (1, .long ((31 * (tA (tC sn ln n lit h t s g kn lo lf) k)) + (((tC sn ln n lit h t s g kn lo lf) k).toInt64))), (3, .int (nI (k + 1)))]) ⟨[2, 1, 0], rfl⟩ ?_
        exact ih (k + 1) (by omega) (by omega)
      refine k_iload_n (q := 18) C 2 dL_told_17 rfl rfl ?_
      refine k_bipush (q := 20) (v := 11) C dL_told_18 (by decide +kernel) rfl ?_
      refine k_nicmp_eq (a := k) (b := 11)  (tgt := 29) (q := 23) C dL_told_20 (by decide) rfl (by omega) (by decide) ?_ ?_
      · intro c_20
        refine k_iconst (q := 30) (v := 0) C dL_told_29 (by decide) rfl ?_
        refine k_goto (q := 38) C dL_told_30 (by decide) ?_
        exact k_sti (show 0 = (tC sn ln n lit h t s g kn lo lf) k from (if_pos (Or.inl c_20)).symm) J_17
      · intro c_20
        refine k_iload_n (q := 24) C 2 dL_told_23 rfl rfl ?_
        refine k_bipush (q := 26) (v := 12) C dL_told_24 (by decide +kernel) rfl ?_
        refine k_nicmp_ne (a := k) (b := 12)  (tgt := 33) (q := 29) C dL_told_26 (by decide) rfl (by omega) (by decide) ?_ ?_
        · intro c_26
          refine k_aload_n (q := 34) C 0 dL_told_33 rfl rfl ?_
          refine k_iload_n (q := 35) C 2 dL_told_34 rfl rfl ?_
          refine k_callSIw (n := 2) (q := 38) (pre := ([] : va_W)) (post := ([] : va_W)) (w2 := ((wXo b cy (a 0) r nx sn ln (svOf sk) (kpOf sk) ik bf ++ wRd r kd hg nu dg ng tk) ++ (wSky a cy n lit h t s g kn lo lf nm ++ wOth sk cy S))) (As := [.ref (b 0), .int (nI k)]) (rest := [.long (31 * (tA (tC sn ln n lit h t s g kn lo lf) k))]) C (c_L_count cy a b r nx sn ln sk S ik bf kd hg nu dg ng tk n lit h t s g kn lo lf nm k hn (by omega)) gL_told_L_count rfl rfl rfl (by decide +kernel) (k_room hR (by decide)) ⟨Nat.zero_le _, Nat.zero_le _⟩ rfl rfl (Nat.le_of_ble_eq_true rfl) ((List.append_nil _).symm) (List.append_nil _) dL_told_35 rfl ?_
          exact k_sti (show xTc sn ln n lit h t s g kn lo lf k = (tC sn ln n lit h t s g kn lo lf) k from (if_neg (fun q => q.elim c_20 c_26)).symm) J_17
        · intro c_26
          refine k_iconst (q := 30) (v := 0) C dL_told_29 (by decide) rfl ?_
          refine k_goto (q := 38) C dL_told_30 (by decide) ?_
          exact k_sti (show 0 = (tC sn ln n lit h t s g kn lo lf) k from (if_pos (Or.inr c_26)).symm) J_17
set_option maxHeartbeats 4000000 in
set_option maxRecDepth 100000 in
theorem c_L_told (cy : Nat → ClassId) (a : Nat → Nat) (b : Nat → Nat) (r : Nat) (nx : Nat) (sn : Nat) (ln : Nat) (sk : Nat → Nat → Nat) (S : Nat → CK) (ik : Nat → Int32) (bf : Nat → Nat) (kd : Nat) (hg : Nat) (nu : Nat) (dg : Nat) (ng : Bool) (tk : Bool) (n : Nat) (lit : Int32) (h : Nat → Int32) (t : Nat → Int32) (s : Nat → Int32) (g : Nat → Int32) (kn : Nat) (lo : Int32) (lf : Int32) (nm : Nat → Int32)  (hn : n ≤ 6) (hk8 : kn ≤ 8) : kLl yL_told wsL_told rm_L_told cy [.ref (b 0)] ((wXo b cy (a 0) r nx sn ln (svOf sk) (kpOf sk) ik bf ++ wRd r kd hg nu dg ng tk) ++ (wSky a cy n lit h t s g kn lo lf nm ++ wOth sk cy S)) (tB (tA (tC sn ln n lit h t s g kn lo lf) 17) (tN kn nm) (tY n lit h t s g) 32) ((wXo b cy (a 0) r nx sn ln (svOf sk) (kpOf sk) ik bf ++ wRd r kd hg nu dg ng tk) ++ (wSky a cy n lit h t s g kn lo lf nm ++ wOth sk cy S)) 32 192 := by
  refine kLl_of (cc := cL_told) (maxL := 4) (by decide) rfl (Nat.le_of_ble_eq_true rfl) ?_
  intro X hR C Z hst E
  have C : kC X 4 RL cL_told wsL_told cy := C
  refine k_fr (fr2 := [(0, .ref (b 0))]) ⟨[0], rfl⟩ ?_
  refine k_ldc2 (q := 3) (v := 251) C (List.mem_of_getElem? (i := 1) rfl) dL_told_0 rfl ?_
  refine k_lstore_n (q := 4) (fr2 := [(1, .long 251), (0, .ref (b 0))]) C dL_told_3 (by decide) rfl rfl ?_
  refine k_iconst (q := 5) (v := 0) C dL_told_4 (by decide) rfl ?_
  refine k_istore_n (q := 6) (fr2 := [(3, .int 0), (1, .long 251), (0, .ref (b 0))]) C dL_told_5 (by decide) rfl rfl ?_
  refine k_fr (fr2 := [(0, .ref (b 0)), (1, .long 251), (3, .int 0)]) ⟨[2, 1, 0], rfl⟩ ?_
  exact lp_L_told_6 cy a b r nx sn ln sk S ik bf kd hg nu dg ng tk n lit h t s g kn lo lf nm hn hk8 X hR C Z hst E _ 0 (Nat.lt_succ_self _) (by omega)
abbrev rm_L_call : Room := { frames := 8, cells := 1, slots := 6, locals := 161 }
theorem in0_L_call : ∀ w ∈ wsX00, w ∈ wsL_call := fun _ h => (List.mem_cons_of_mem _ (List.mem_append_left _ (List.mem_append_left _ (List.mem_append_left _ (List.mem_append_right _ h)))))
theorem in2_L_call : ∀ w ∈ wsX20, w ∈ wsL_call := fun _ h => (List.mem_cons_of_mem _ (List.mem_append_left _ (List.mem_append_left _ (List.mem_append_left _ (List.mem_append_left _ (List.mem_append_right _ h))))))
theorem in3_L_call : ∀ w ∈ wsX30, w ∈ wsL_call := fun _ h => (List.mem_cons_of_mem _ (List.mem_append_left _ (List.mem_append_left _ (List.mem_append_left _ (List.mem_append_left _ (List.mem_append_left _ (List.mem_append_right _ h)))))))
set_option maxHeartbeats 4000000 in
set_option maxRecDepth 100000 in
theorem c_L_call_layer (cy : Nat → ClassId) (a : Nat → Nat) (b : Nat → Nat) (r : Nat) (nx : Nat) (sn : Nat) (ln : Nat) (sk : Nat → Nat → Nat) (S : Nat → CK) (ik : Nat → Int32) (bf : Nat → Nat) (kd : Nat) (hg : Nat) (nu : Nat) (dg : Nat) (ng : Bool) (tk : Bool) (n : Nat) (lit : Int32) (h : Nat → Int32) (t : Nat → Int32) (s : Nat → Int32) (g : Nat → Int32) (kn : Nat) (lo : Int32) (lf : Int32) (nm : Nat → Int32) (x : Int32) (y : Int32)  (hnx : nx < 6) (hsn : sn ≤ 6) (hx : 50 ≤ x ∧ x ≤ 3000) (hy : 1 ≤ y ∧ y ≤ 100) (ha : sAny h x n = false) (hn : n < 6) : kIl yL_call wsL_call rm_L_call cy [.ref (b 0), .int 0, .int x, .int y] ((wXo b cy (a 0) r nx sn ln (svOf sk) (kpOf sk) ik bf ++ wRd r kd hg nu dg ng tk) ++ (wSky a cy n lit h t s g kn lo lf nm ++ wOth sk cy S)) (nI (sPos h x n)) ((wXo b cy (a 0) r ((nx + 1) % 6) (min (sn + 1) 6) ln (svOf sk) (kpOf sk) ik bf ++ wRd r kd hg nu dg ng tk) ++ (wSky a cy (n + 1) lit (sIns h n (sPos h x n) x) (sIns t n (sPos h x n) y) s g kn lo lf nm ++ wOth sk cy (updS S nx (cLike (n, lit, h, t, s, g, kn, lo, lf, nm) (S nx))))) 1 6 := by
  refine kIlc_of (cc := cL_call) (maxL := 4) (by decide) rfl (Nat.le_of_ble_eq_true rfl) ?_
  intro X hR C Z hst E
  have C : kC X 4 RL cL_call wsL_call cy := C
  refine k_fr (fr2 := [(0, .ref (b 0)), (1, .int 0), (2, .int x), (3, .int y)]) ⟨[0, 1, 2, 3], rfl⟩ ?_
  refine k_iload_n (q := 1) C 1 dL_call_0 rfl rfl ?_
  refine k_tabIn (q := 44) (off := 43) C dL_call_1 (by decide +kernel) (by decide +kernel) (by decide +kernel) (by decide) ?_
  refine k_aload_n (q := 45) C 0 dL_call_44 rfl rfl ?_
  refine k_iload_n (q := 46) C 2 dL_call_45 rfl rfl ?_
  refine k_iload_n (q := 47) C 3 dL_call_46 rfl rfl ?_
  refine k_callSIw (n := 3) (q := 50) (pre := ([] : va_W)) (post := ([] : va_W)) (w2 := ((wXo b cy (a 0) r ((nx + 1) % 6) (min (sn + 1) 6) ln (svOf sk) (kpOf sk) ik bf ++ wRd r kd hg nu dg ng tk) ++ (wSky a cy (n + 1) lit (sIns h n (sPos h x n) x) (sIns t n (sPos h x n) y) s g kn lo lf nm ++ wOth sk cy (updS S nx (cLike (n, lit, h, t, s, g, kn, lo, lf, nm) (S nx)))))) (As := [.ref (b 0), .int x, .int y]) (rest := []) C (c_L_layer cy a b r nx sn ln sk S ik bf kd hg nu dg ng tk n lit h t s g kn lo lf nm x y hnx hsn hx hy ha hn) gL_call_L_layer rfl rfl rfl (by decide +kernel) (k_room hR (by decide)) ⟨Nat.zero_le _, Nat.zero_le _⟩ rfl rfl (Nat.le_of_ble_eq_true rfl) ((List.append_nil _).symm) (List.append_nil _) dL_call_47 rfl ?_
  exact k_finL E (by omega) (by omega) dL_call_50 (rfl) (rfl)
set_option maxHeartbeats 4000000 in
set_option maxRecDepth 100000 in
theorem c_L_call_layer_e2 (cy : Nat → ClassId) (a : Nat → Nat) (b : Nat → Nat) (r : Nat) (nx : Nat) (sn : Nat) (ln : Nat) (sk : Nat → Nat → Nat) (S : Nat → CK) (ik : Nat → Int32) (bf : Nat → Nat) (kd : Nat) (hg : Nat) (nu : Nat) (dg : Nat) (ng : Bool) (tk : Bool) (n : Nat) (lit : Int32) (h : Nat → Int32) (t : Nat → Int32) (s : Nat → Int32) (g : Nat → Int32) (kn : Nat) (lo : Int32) (lf : Int32) (nm : Nat → Int32) (x : Int32) (y : Int32)  (hn : n ≤ 6) (hx : (50 ≤ x ∧ x ≤ 3000) ∧ (1 ≤ y ∧ y ≤ 100)) (hz : ¬ (sAny h x n = false ∧ n < 6)) : kIl yL_call wsL_call rm_L_call cy [.ref (b 0), .int 0, .int x, .int y] ((wXo b cy (a 0) r nx sn ln (svOf sk) (kpOf sk) ik bf ++ wRd r kd hg nu dg ng tk) ++ (wSky a cy n lit h t s g kn lo lf nm ++ wOth sk cy S)) (-200003) ((wXo b cy (a 0) r nx sn ln (svOf sk) (kpOf sk) ik bf ++ wRd r kd hg nu dg ng tk) ++ (wSky a cy n lit h t s g kn lo lf nm ++ wOth sk cy S)) 1 6 := by
  refine kIlc_of (cc := cL_call) (maxL := 4) (by decide) rfl (Nat.le_of_ble_eq_true rfl) ?_
  intro X hR C Z hst E
  have C : kC X 4 RL cL_call wsL_call cy := C
  refine k_fr (fr2 := [(0, .ref (b 0)), (1, .int 0), (2, .int x), (3, .int y)]) ⟨[0, 1, 2, 3], rfl⟩ ?_
  refine k_iload_n (q := 1) C 1 dL_call_0 rfl rfl ?_
  refine k_tabIn (q := 44) (off := 43) C dL_call_1 (by decide +kernel) (by decide +kernel) (by decide +kernel) (by decide) ?_
  refine k_aload_n (q := 45) C 0 dL_call_44 rfl rfl ?_
  refine k_iload_n (q := 46) C 2 dL_call_45 rfl rfl ?_
  refine k_iload_n (q := 47) C 3 dL_call_46 rfl rfl ?_
  refine k_callSL (n := 3) (q := 50) (pre := ([] : va_W)) (post := ([] : va_W)) (w2 := ((wXo b cy (a 0) r nx sn ln (svOf sk) (kpOf sk) ik bf ++ wRd r kd hg nu dg ng tk) ++ (wSky a cy n lit h t s g kn lo lf nm ++ wOth sk cy S))) (As := [.ref (b 0), .int x, .int y]) (rest := []) C Z hst (c_L_layer_e2 cy a b r nx sn ln sk S ik bf kd hg nu dg ng tk n lit h t s g kn lo lf nm x y hn hx hz) gL_call_L_layer rfl rfl rfl (by decide +kernel) (k_room hR (by decide)) (k_cs (a := 1) (b := 6) hR rfl rfl (by omega)) rfl rfl (Nat.le_of_ble_eq_true rfl) ((List.append_nil _).symm) (List.append_nil _) dL_call_47 rfl ?_
  exact k_finL E (by omega) (by omega) dL_call_50 (rfl) (rfl)
set_option maxHeartbeats 4000000 in
set_option maxRecDepth 100000 in
theorem c_L_call_aim (cy : Nat → ClassId) (a : Nat → Nat) (b : Nat → Nat) (r : Nat) (nx : Nat) (sn : Nat) (ln : Nat) (sk : Nat → Nat → Nat) (S : Nat → CK) (ik : Nat → Int32) (bf : Nat → Nat) (kd : Nat) (hg : Nat) (nu : Nat) (dg : Nat) (ng : Bool) (tk : Bool) (n : Nat) (lit : Int32) (h : Nat → Int32) (t : Nat → Int32) (s : Nat → Int32) (g : Nat → Int32) (kn : Nat) (lo : Int32) (lf : Int32) (nm : Nat → Int32) (j : Nat) (y : Int32)  (hnx : nx < 6) (hsn : sn ≤ 6) (hj : j < 2) (hy : -30 ≤ y ∧ y ≤ 30) : kIl yL_call wsL_call rm_L_call cy [.ref (b 0), .int 1, .int (nI j), .int y] ((wXo b cy (a 0) r nx sn ln (svOf sk) (kpOf sk) ik bf ++ wRd r kd hg nu dg ng tk) ++ (wSky a cy n lit h t s g kn lo lf nm ++ wOth sk cy S)) (s j) ((wXo b cy (a 0) r ((nx + 1) % 6) (min (sn + 1) 6) ln (svOf sk) (kpOf sk) ik bf ++ wRd r kd hg nu dg ng tk) ++ (wSky a cy n lit h t (upd s j y) g kn lo lf nm ++ wOth sk cy (updS S nx (cLike (n, lit, h, t, s, g, kn, lo, lf, nm) (S nx))))) 1 6 := by
  refine kIlc_of (cc := cL_call) (maxL := 4) (by decide) rfl (Nat.le_of_ble_eq_true rfl) ?_
  intro X hR C Z hst E
  have C : kC X 4 RL cL_call wsL_call cy := C
  refine k_fr (fr2 := [(0, .ref (b 0)), (1, .int 1), (2, .int (nI j)), (3, .int y)]) ⟨[0, 1, 2, 3], rfl⟩ ?_
  refine k_iload_n (q := 1) C 1 dL_call_0 rfl rfl ?_
  refine k_tabIn (q := 51) (off := 50) C dL_call_1 (by decide +kernel) (by decide +kernel) (by decide +kernel) (by decide) ?_
  refine k_aload_n (q := 52) C 0 dL_call_51 rfl rfl ?_
  refine k_iload_n (q := 53) C 2 dL_call_52 rfl rfl ?_
  refine k_iload_n (q := 54) C 3 dL_call_53 rfl rfl ?_
  refine k_callSIw (n := 3) (q := 57) (pre := ([] : va_W)) (post := ([] : va_W)) (w2 := ((wXo b cy (a 0) r ((nx + 1) % 6) (min (sn + 1) 6) ln (svOf sk) (kpOf sk) ik bf ++ wRd r kd hg nu dg ng tk) ++ (wSky a cy n lit h t (upd s j y) g kn lo lf nm ++ wOth sk cy (updS S nx (cLike (n, lit, h, t, s, g, kn, lo, lf, nm) (S nx)))))) (As := [.ref (b 0), .int (nI j), .int y]) (rest := []) C (c_L_aim cy a b r nx sn ln sk S ik bf kd hg nu dg ng tk n lit h t s g kn lo lf nm j y hnx hsn hj hy) gL_call_L_aim rfl rfl rfl (by decide +kernel) (k_room hR (by decide)) ⟨Nat.zero_le _, Nat.zero_le _⟩ rfl rfl (Nat.le_of_ble_eq_true rfl) ((List.append_nil _).symm) (List.append_nil _) dL_call_54 rfl ?_
  exact k_finL E (by omega) (by omega) dL_call_57 (rfl) (rfl)
set_option maxHeartbeats 4000000 in
set_option maxRecDepth 100000 in
theorem c_L_call_scan (cy : Nat → ClassId) (a : Nat → Nat) (b : Nat → Nat) (r : Nat) (nx : Nat) (sn : Nat) (ln : Nat) (sk : Nat → Nat → Nat) (S : Nat → CK) (ik : Nat → Int32) (bf : Nat → Nat) (kd : Nat) (hg : Nat) (nu : Nat) (dg : Nat) (ng : Bool) (tk : Bool) (n : Nat) (lit : Int32) (h : Nat → Int32) (t : Nat → Int32) (s : Nat → Int32) (g : Nat → Int32) (kn : Nat) (lo : Int32) (lf : Int32) (nm : Nat → Int32) (j : Nat) (p : Nat)  (hnx : nx < 6) (hsn : sn ≤ 6) (hn : n ≤ 6) (hj : j < 2) (hp : p < n) : kIl yL_call wsL_call rm_L_call cy [.ref (b 0), .int 2, .int (nI j), .int (nI p)] ((wXo b cy (a 0) r nx sn ln (svOf sk) (kpOf sk) ik bf ++ wRd r kd hg nu dg ng tk) ++ (wSky a cy n lit h t s g kn lo lf nm ++ wOth sk cy S)) (mAbs (sDist h g p ((upd s j (iI (sTry g h s j p))) 0) ((upd s j (iI (sTry g h s j p))) 1))) ((wXo b cy (a 0) r ((nx + 1) % 6) (min (sn + 1) 6) ln (svOf sk) (kpOf sk) ik bf ++ wRd r kd hg nu dg ng tk) ++ (wSky a cy n lit h t (upd s j (iI (sTry g h s j p))) g kn lo lf nm ++ wOth sk cy (updS S nx (cLike (n, lit, h, t, s, g, kn, lo, lf, nm) (S nx))))) 1 6 := by
  refine kIlc_of (cc := cL_call) (maxL := 4) (by decide) rfl (Nat.le_of_ble_eq_true rfl) ?_
  intro X hR C Z hst E
  have C : kC X 4 RL cL_call wsL_call cy := C
  refine k_fr (fr2 := [(0, .ref (b 0)), (1, .int 2), (2, .int (nI j)), (3, .int (nI p))]) ⟨[0, 1, 2, 3], rfl⟩ ?_
  refine k_iload_n (q := 1) C 1 dL_call_0 rfl rfl ?_
  refine k_tabIn (q := 58) (off := 57) C dL_call_1 (by decide +kernel) (by decide +kernel) (by decide +kernel) (by decide) ?_
  refine k_aload_n (q := 59) C 0 dL_call_58 rfl rfl ?_
  refine k_iload_n (q := 60) C 2 dL_call_59 rfl rfl ?_
  refine k_iload_n (q := 61) C 3 dL_call_60 rfl rfl ?_
  refine k_callSIw (n := 3) (q := 64) (pre := ([] : va_W)) (post := ([] : va_W)) (w2 := ((wXo b cy (a 0) r ((nx + 1) % 6) (min (sn + 1) 6) ln (svOf sk) (kpOf sk) ik bf ++ wRd r kd hg nu dg ng tk) ++ (wSky a cy n lit h t (upd s j (iI (sTry g h s j p))) g kn lo lf nm ++ wOth sk cy (updS S nx (cLike (n, lit, h, t, s, g, kn, lo, lf, nm) (S nx)))))) (As := [.ref (b 0), .int (nI j), .int (nI p)]) (rest := []) C (c_L_scan cy a b r nx sn ln sk S ik bf kd hg nu dg ng tk n lit h t s g kn lo lf nm j p hnx hsn hn hj hp) gL_call_L_scan rfl rfl rfl (by decide +kernel) (k_room hR (by decide)) ⟨Nat.zero_le _, Nat.zero_le _⟩ rfl rfl (Nat.le_of_ble_eq_true rfl) ((List.append_nil _).symm) (List.append_nil _) dL_call_61 rfl ?_
  exact k_finL E (by omega) (by omega) dL_call_64 (rfl) (rfl)
set_option maxHeartbeats 4000000 in
set_option maxRecDepth 100000 in
theorem c_L_call_scan_e (cy : Nat → ClassId) (a : Nat → Nat) (b : Nat → Nat) (r : Nat) (nx : Nat) (sn : Nat) (ln : Nat) (sk : Nat → Nat → Nat) (S : Nat → CK) (ik : Nat → Int32) (bf : Nat → Nat) (kd : Nat) (hg : Nat) (nu : Nat) (dg : Nat) (ng : Bool) (tk : Bool) (n : Nat) (lit : Int32) (h : Nat → Int32) (t : Nat → Int32) (s : Nat → Int32) (g : Nat → Int32) (kn : Nat) (lo : Int32) (lf : Int32) (nm : Nat → Int32) (x : Int32) (y : Int32)  (hx : ¬ ((0 ≤ x ∧ x ≤ 1) ∧ (0 ≤ y ∧ y < nI n))) : kIl yL_call wsL_call rm_L_call cy [.ref (b 0), .int 2, .int x, .int y] ((wXo b cy (a 0) r nx sn ln (svOf sk) (kpOf sk) ik bf ++ wRd r kd hg nu dg ng tk) ++ (wSky a cy n lit h t s g kn lo lf nm ++ wOth sk cy S)) (-200001) ((wXo b cy (a 0) r nx sn ln (svOf sk) (kpOf sk) ik bf ++ wRd r kd hg nu dg ng tk) ++ (wSky a cy n lit h t s g kn lo lf nm ++ wOth sk cy S)) 1 6 := by
  refine kIlc_of (cc := cL_call) (maxL := 4) (by decide) rfl (Nat.le_of_ble_eq_true rfl) ?_
  intro X hR C Z hst E
  have C : kC X 4 RL cL_call wsL_call cy := C
  refine k_fr (fr2 := [(0, .ref (b 0)), (1, .int 2), (2, .int x), (3, .int y)]) ⟨[0, 1, 2, 3], rfl⟩ ?_
  refine k_iload_n (q := 1) C 1 dL_call_0 rfl rfl ?_
  refine k_tabIn (q := 58) (off := 57) C dL_call_1 (by decide +kernel) (by decide +kernel) (by decide +kernel) (by decide) ?_
  refine k_aload_n (q := 59) C 0 dL_call_58 rfl rfl ?_
  refine k_iload_n (q := 60) C 2 dL_call_59 rfl rfl ?_
  refine k_iload_n (q := 61) C 3 dL_call_60 rfl rfl ?_
  refine k_callSL (n := 3) (q := 64) (pre := ([] : va_W)) (post := ([] : va_W)) (w2 := ((wXo b cy (a 0) r nx sn ln (svOf sk) (kpOf sk) ik bf ++ wRd r kd hg nu dg ng tk) ++ (wSky a cy n lit h t s g kn lo lf nm ++ wOth sk cy S))) (As := [.ref (b 0), .int x, .int y]) (rest := []) C Z hst (c_L_scan_e cy a b r nx sn ln sk S ik bf kd hg nu dg ng tk n lit h t s g kn lo lf nm x y hx) gL_call_L_scan rfl rfl rfl (by decide +kernel) (k_room hR (by decide)) (k_cs (a := 1) (b := 6) hR rfl rfl (by omega)) rfl rfl (Nat.le_of_ble_eq_true rfl) ((List.append_nil _).symm) (List.append_nil _) dL_call_61 rfl ?_
  exact k_finL E (by omega) (by omega) dL_call_64 (rfl) (rfl)
set_option maxHeartbeats 4000000 in
set_option maxRecDepth 100000 in
theorem c_L_call_log (cy : Nat → ClassId) (a : Nat → Nat) (b : Nat → Nat) (r : Nat) (nx : Nat) (sn : Nat) (ln : Nat) (sk : Nat → Nat → Nat) (S : Nat → CK) (ik : Nat → Int32) (bf : Nat → Nat) (kd : Nat) (hg : Nat) (nu : Nat) (dg : Nat) (ng : Bool) (tk : Bool) (n : Nat) (lit : Int32) (h : Nat → Int32) (t : Nat → Int32) (s : Nat → Int32) (g : Nat → Int32) (kn : Nat) (lo : Int32) (lf : Int32) (nm : Nat → Int32) (u9 : Int32) (v9 : Int32)  (hnx : nx < 6) (hsn : sn ≤ 6) (hn : n ≤ 6) (hk : kn ≤ 8) : kIl yL_call wsL_call rm_L_call cy [.ref (b 0), .int 3, .int u9, .int v9] ((wXo b cy (a 0) r nx sn ln (svOf sk) (kpOf sk) ik bf ++ wRd r kd hg nu dg ng tk) ++ (wSky a cy n lit h t s g kn lo lf nm ++ wOth sk cy S)) (nI (min (kn + 1) 8)) ((wXo b cy (a 0) r ((nx + 1) % 6) (min (sn + 1) 6) ln (svOf sk) (kpOf sk) ik bf ++ wRd r kd hg nu dg ng tk) ++ (wSky a cy n lit h t s g (min (kn + 1) 8) (lo + 1) (lf + bI ((sLg lit h t s g n).2.2.2 = true)) (sWrL nm (sLg lit h t s g n)) ++ wOth sk cy (updS S nx (cLike (n, lit, h, t, s, g, kn, lo, lf, nm) (S nx))))) 1 6 := by
  refine kIlc_of (cc := cL_call) (maxL := 4) (by decide) rfl (Nat.le_of_ble_eq_true rfl) ?_
  intro X hR C Z hst E
  have C : kC X 4 RL cL_call wsL_call cy := C
  refine k_fr (fr2 := [(0, .ref (b 0)), (1, .int 3), (2, .int u9), (3, .int v9)]) ⟨[0, 1, 2, 3], rfl⟩ ?_
  refine k_iload_n (q := 1) C 1 dL_call_0 rfl rfl ?_
  refine k_tabIn (q := 65) (off := 64) C dL_call_1 (by decide +kernel) (by decide +kernel) (by decide +kernel) (by decide) ?_
  refine k_aload_n (q := 66) C 0 dL_call_65 rfl rfl ?_
  refine k_callVI (n := 0) (q := 69) (pre := ([] : va_W)) (post := ([] : va_W)) (w2 := ((wXo b cy (a 0) r ((nx + 1) % 6) (min (sn + 1) 6) ln (svOf sk) (kpOf sk) ik bf ++ wRd r kd hg nu dg ng tk) ++ (wSky a cy n lit h t s g (min (kn + 1) 8) (lo + 1) (lf + bI ((sLg lit h t s g n).2.2.2 = true)) (sWrL nm (sLg lit h t s g n)) ++ wOth sk cy (updS S nx (cLike (n, lit, h, t, s, g, kn, lo, lf, nm) (S nx)))))) (As := []) (rest := []) C (c_X3_log cy a b r nx sn ln sk S ik bf kd hg nu dg ng tk n lit h t s g kn lo lf nm hnx hsn hn hk) gL_call_X3_log rfl rfl rfl (by decide +kernel) (k_room hR (by decide)) ⟨Nat.zero_le _, Nat.zero_le _⟩ (ci := 3) rfl 0 rfl rfl rfl (Nat.le_of_ble_eq_true rfl) ((List.append_nil _).symm) (List.append_nil _) dL_call_66 rfl ?_
  exact k_finL E (by omega) (by omega) dL_call_69 (rfl) (rfl)
set_option maxHeartbeats 4000000 in
set_option maxRecDepth 100000 in
theorem c_L_call_turn (cy : Nat → ClassId) (a : Nat → Nat) (b : Nat → Nat) (r : Nat) (nx : Nat) (sn : Nat) (ln : Nat) (sk : Nat → Nat → Nat) (S : Nat → CK) (ik : Nat → Int32) (bf : Nat → Nat) (kd : Nat) (hg : Nat) (nu : Nat) (dg : Nat) (ng : Bool) (tk : Bool) (n : Nat) (lit : Int32) (h : Nat → Int32) (t : Nat → Int32) (s : Nat → Int32) (g : Nat → Int32) (kn : Nat) (lo : Int32) (lf : Int32) (nm : Nat → Int32) (j : Nat) (v9 : Int32)  (hnx : nx < 6) (hsn : sn ≤ 6) (hj : j < 2) : kIl yL_call wsL_call rm_L_call cy [.ref (b 0), .int 4, .int (nI j), .int v9] ((wXo b cy (a 0) r nx sn ln (svOf sk) (kpOf sk) ik bf ++ wRd r kd hg nu dg ng tk) ++ (wSky a cy n lit h t s g kn lo lf nm ++ wOth sk cy S)) (bI (((lit ^^^ (1 <<< (nI j &&& 31))) >>> (nI j &&& 31)) &&& 1 = 1)) ((wXo b cy (a 0) r ((nx + 1) % 6) (min (sn + 1) 6) ln (svOf sk) (kpOf sk) ik bf ++ wRd r kd hg nu dg ng tk) ++ (wSky a cy n (lit ^^^ (1 <<< (nI j &&& 31))) h t s g kn lo lf nm ++ wOth sk cy (updS S nx (cLike (n, lit, h, t, s, g, kn, lo, lf, nm) (S nx))))) 1 6 := by
  refine kIlc_of (cc := cL_call) (maxL := 4) (by decide) rfl (Nat.le_of_ble_eq_true rfl) ?_
  intro X hR C Z hst E
  have C : kC X 4 RL cL_call wsL_call cy := C
  refine k_fr (fr2 := [(0, .ref (b 0)), (1, .int 4), (2, .int (nI j)), (3, .int v9)]) ⟨[0, 1, 2, 3], rfl⟩ ?_
  refine k_iload_n (q := 1) C 1 dL_call_0 rfl rfl ?_
  refine k_tabIn (q := 70) (off := 69) C dL_call_1 (by decide +kernel) (by decide +kernel) (by decide +kernel) (by decide) ?_
  refine k_aload_n (q := 71) C 0 dL_call_70 rfl rfl ?_
  refine k_iload_n (q := 72) C 2 dL_call_71 rfl rfl ?_
  refine k_callSIw (n := 2) (q := 75) (pre := ([] : va_W)) (post := ([] : va_W)) (w2 := ((wXo b cy (a 0) r ((nx + 1) % 6) (min (sn + 1) 6) ln (svOf sk) (kpOf sk) ik bf ++ wRd r kd hg nu dg ng tk) ++ (wSky a cy n (lit ^^^ (1 <<< (nI j &&& 31))) h t s g kn lo lf nm ++ wOth sk cy (updS S nx (cLike (n, lit, h, t, s, g, kn, lo, lf, nm) (S nx)))))) (As := [.ref (b 0), .int (nI j)]) (rest := []) C (c_L_turn cy a b r nx sn ln sk S ik bf kd hg nu dg ng tk n lit h t s g kn lo lf nm j hnx hsn hj) gL_call_L_turn rfl rfl rfl (by decide +kernel) (k_room hR (by decide)) ⟨Nat.zero_le _, Nat.zero_le _⟩ rfl rfl (Nat.le_of_ble_eq_true rfl) ((List.append_nil _).symm) (List.append_nil _) dL_call_72 rfl ?_
  exact k_finL E (by omega) (by omega) dL_call_75 (rfl) (rfl)
set_option maxHeartbeats 4000000 in
set_option maxRecDepth 100000 in
theorem c_L_call_set (cy : Nat → ClassId) (a : Nat → Nat) (b : Nat → Nat) (r : Nat) (nx : Nat) (sn : Nat) (ln : Nat) (sk : Nat → Nat → Nat) (S : Nat → CK) (ik : Nat → Int32) (bf : Nat → Nat) (kd : Nat) (hg : Nat) (nu : Nat) (dg : Nat) (ng : Bool) (tk : Bool) (n : Nat) (lit : Int32) (h : Nat → Int32) (t : Nat → Int32) (s : Nat → Int32) (g : Nat → Int32) (kn : Nat) (lo : Int32) (lf : Int32) (nm : Nat → Int32) (j : Nat) (y : Int32)  (hnx : nx < 6) (hsn : sn ≤ 6) (hj : j < 4) (hy : (mLeast j ≤ y ∧ y ≤ mMost j)) : kIl yL_call wsL_call rm_L_call cy [.ref (b 0), .int 5, .int (nI j), .int y] ((wXo b cy (a 0) r nx sn ln (svOf sk) (kpOf sk) ik bf ++ wRd r kd hg nu dg ng tk) ++ (wSky a cy n lit h t s g kn lo lf nm ++ wOth sk cy S)) (g j) ((wXo b cy (a 0) r ((nx + 1) % 6) (min (sn + 1) 6) ln (svOf sk) (kpOf sk) ik bf ++ wRd r kd hg nu dg ng tk) ++ (wSky a cy n lit h t s (upd g j y) kn lo lf nm ++ wOth sk cy (updS S nx (cLike (n, lit, h, t, s, g, kn, lo, lf, nm) (S nx))))) 1 6 := by
  refine kIlc_of (cc := cL_call) (maxL := 4) (by decide) rfl (Nat.le_of_ble_eq_true rfl) ?_
  intro X hR C Z hst E
  have C : kC X 4 RL cL_call wsL_call cy := C
  refine k_fr (fr2 := [(0, .ref (b 0)), (1, .int 5), (2, .int (nI j)), (3, .int y)]) ⟨[0, 1, 2, 3], rfl⟩ ?_
  refine k_iload_n (q := 1) C 1 dL_call_0 rfl rfl ?_
  refine k_tabIn (q := 76) (off := 75) C dL_call_1 (by decide +kernel) (by decide +kernel) (by decide +kernel) (by decide) ?_
  refine k_aload_n (q := 77) C 0 dL_call_76 rfl rfl ?_
  refine k_iload_n (q := 78) C 2 dL_call_77 rfl rfl ?_
  refine k_iload_n (q := 79) C 3 dL_call_78 rfl rfl ?_
  refine k_callSL (n := 3) (q := 82) (pre := ([] : va_W)) (post := ([] : va_W)) (w2 := ((wXo b cy (a 0) r ((nx + 1) % 6) (min (sn + 1) 6) ln (svOf sk) (kpOf sk) ik bf ++ wRd r kd hg nu dg ng tk) ++ (wSky a cy n lit h t s (upd g j y) kn lo lf nm ++ wOth sk cy (updS S nx (cLike (n, lit, h, t, s, g, kn, lo, lf, nm) (S nx)))))) (As := [.ref (b 0), .int (nI j), .int y]) (rest := []) C Z hst (c_L_set cy a b r nx sn ln sk S ik bf kd hg nu dg ng tk n lit h t s g kn lo lf nm j y hnx hsn hj hy) gL_call_L_set rfl rfl rfl (by decide +kernel) (k_room hR (by decide)) (k_cs (a := 1) (b := 6) hR rfl rfl (by omega)) rfl rfl (Nat.le_of_ble_eq_true rfl) ((List.append_nil _).symm) (List.append_nil _) dL_call_79 rfl ?_
  exact k_finL E (by omega) (by omega) dL_call_82 (rfl) (rfl)
set_option maxHeartbeats 4000000 in
set_option maxRecDepth 100000 in
theorem c_L_call_clear (cy : Nat → ClassId) (a : Nat → Nat) (b : Nat → Nat) (r : Nat) (nx : Nat) (sn : Nat) (ln : Nat) (sk : Nat → Nat → Nat) (S : Nat → CK) (ik : Nat → Int32) (bf : Nat → Nat) (kd : Nat) (hg : Nat) (nu : Nat) (dg : Nat) (ng : Bool) (tk : Bool) (n : Nat) (lit : Int32) (h : Nat → Int32) (t : Nat → Int32) (s : Nat → Int32) (g : Nat → Int32) (kn : Nat) (lo : Int32) (lf : Int32) (nm : Nat → Int32) (p : Nat) (v9 : Int32)  (hnx : nx < 6) (hsn : sn ≤ 6) (hn : n ≤ 6) (hp : p < n) : kIl yL_call wsL_call rm_L_call cy [.ref (b 0), .int 6, .int (nI p), .int v9] ((wXo b cy (a 0) r nx sn ln (svOf sk) (kpOf sk) ik bf ++ wRd r kd hg nu dg ng tk) ++ (wSky a cy n lit h t s g kn lo lf nm ++ wOth sk cy S)) (h p) ((wXo b cy (a 0) r ((nx + 1) % 6) (min (sn + 1) 6) ln (svOf sk) (kpOf sk) ik bf ++ wRd r kd hg nu dg ng tk) ++ (wSky a cy (n - 1) lit (sDn h p n) (sDn t p n) s g kn lo lf nm ++ wOth sk cy (updS S nx (cLike (n, lit, h, t, s, g, kn, lo, lf, nm) (S nx))))) 1 6 := by
  refine kIlc_of (cc := cL_call) (maxL := 4) (by decide) rfl (Nat.le_of_ble_eq_true rfl) ?_
  intro X hR C Z hst E
  have C : kC X 4 RL cL_call wsL_call cy := C
  refine k_fr (fr2 := [(0, .ref (b 0)), (1, .int 6), (2, .int (nI p)), (3, .int v9)]) ⟨[0, 1, 2, 3], rfl⟩ ?_
  refine k_iload_n (q := 1) C 1 dL_call_0 rfl rfl ?_
  refine k_tabIn (q := 83) (off := 82) C dL_call_1 (by decide +kernel) (by decide +kernel) (by decide +kernel) (by decide) ?_
  refine k_aload_n (q := 84) C 0 dL_call_83 rfl rfl ?_
  refine k_iload_n (q := 85) C 2 dL_call_84 rfl rfl ?_
  refine k_callSIw (n := 2) (q := 88) (pre := ([] : va_W)) (post := ([] : va_W)) (w2 := ((wXo b cy (a 0) r ((nx + 1) % 6) (min (sn + 1) 6) ln (svOf sk) (kpOf sk) ik bf ++ wRd r kd hg nu dg ng tk) ++ (wSky a cy (n - 1) lit (sDn h p n) (sDn t p n) s g kn lo lf nm ++ wOth sk cy (updS S nx (cLike (n, lit, h, t, s, g, kn, lo, lf, nm) (S nx)))))) (As := [.ref (b 0), .int (nI p)]) (rest := []) C (c_L_clear cy a b r nx sn ln sk S ik bf kd hg nu dg ng tk n lit h t s g kn lo lf nm p hnx hsn hn hp) gL_call_L_clear rfl rfl rfl (by decide +kernel) (k_room hR (by decide)) ⟨Nat.zero_le _, Nat.zero_le _⟩ rfl rfl (Nat.le_of_ble_eq_true rfl) ((List.append_nil _).symm) (List.append_nil _) dL_call_85 rfl ?_
  exact k_finL E (by omega) (by omega) dL_call_88 (rfl) (rfl)
set_option maxHeartbeats 4000000 in
set_option maxRecDepth 100000 in
theorem c_L_call_clear_e (cy : Nat → ClassId) (a : Nat → Nat) (b : Nat → Nat) (r : Nat) (nx : Nat) (sn : Nat) (ln : Nat) (sk : Nat → Nat → Nat) (S : Nat → CK) (ik : Nat → Int32) (bf : Nat → Nat) (kd : Nat) (hg : Nat) (nu : Nat) (dg : Nat) (ng : Bool) (tk : Bool) (n : Nat) (lit : Int32) (h : Nat → Int32) (t : Nat → Int32) (s : Nat → Int32) (g : Nat → Int32) (kn : Nat) (lo : Int32) (lf : Int32) (nm : Nat → Int32) (x : Int32) (v9 : Int32)  (hx : ¬ (0 ≤ x ∧ x < nI n)) : kIl yL_call wsL_call rm_L_call cy [.ref (b 0), .int 6, .int x, .int v9] ((wXo b cy (a 0) r nx sn ln (svOf sk) (kpOf sk) ik bf ++ wRd r kd hg nu dg ng tk) ++ (wSky a cy n lit h t s g kn lo lf nm ++ wOth sk cy S)) (-200001) ((wXo b cy (a 0) r nx sn ln (svOf sk) (kpOf sk) ik bf ++ wRd r kd hg nu dg ng tk) ++ (wSky a cy n lit h t s g kn lo lf nm ++ wOth sk cy S)) 1 6 := by
  refine kIlc_of (cc := cL_call) (maxL := 4) (by decide) rfl (Nat.le_of_ble_eq_true rfl) ?_
  intro X hR C Z hst E
  have C : kC X 4 RL cL_call wsL_call cy := C
  refine k_fr (fr2 := [(0, .ref (b 0)), (1, .int 6), (2, .int x), (3, .int v9)]) ⟨[0, 1, 2, 3], rfl⟩ ?_
  refine k_iload_n (q := 1) C 1 dL_call_0 rfl rfl ?_
  refine k_tabIn (q := 83) (off := 82) C dL_call_1 (by decide +kernel) (by decide +kernel) (by decide +kernel) (by decide) ?_
  refine k_aload_n (q := 84) C 0 dL_call_83 rfl rfl ?_
  refine k_iload_n (q := 85) C 2 dL_call_84 rfl rfl ?_
  refine k_callSL (n := 2) (q := 88) (pre := ([] : va_W)) (post := ([] : va_W)) (w2 := ((wXo b cy (a 0) r nx sn ln (svOf sk) (kpOf sk) ik bf ++ wRd r kd hg nu dg ng tk) ++ (wSky a cy n lit h t s g kn lo lf nm ++ wOth sk cy S))) (As := [.ref (b 0), .int x]) (rest := []) C Z hst (c_L_clear_e cy a b r nx sn ln sk S ik bf kd hg nu dg ng tk n lit h t s g kn lo lf nm x hx) gL_call_L_clear rfl rfl rfl (by decide +kernel) (k_room hR (by decide)) (k_cs (a := 1) (b := 6) hR rfl rfl (by omega)) rfl rfl (Nat.le_of_ble_eq_true rfl) ((List.append_nil _).symm) (List.append_nil _) dL_call_85 rfl ?_
  exact k_finL E (by omega) (by omega) dL_call_88 (rfl) (rfl)
set_option maxHeartbeats 4000000 in
set_option maxRecDepth 100000 in
theorem c_L_call_clearThin (cy : Nat → ClassId) (a : Nat → Nat) (b : Nat → Nat) (r : Nat) (nx : Nat) (sn : Nat) (ln : Nat) (sk : Nat → Nat → Nat) (S : Nat → CK) (ik : Nat → Int32) (bf : Nat → Nat) (kd : Nat) (hg : Nat) (nu : Nat) (dg : Nat) (ng : Bool) (tk : Bool) (n : Nat) (lit : Int32) (h : Nat → Int32) (t : Nat → Int32) (s : Nat → Int32) (g : Nat → Int32) (kn : Nat) (lo : Int32) (lf : Int32) (nm : Nat → Int32) (x : Int32) (v9 : Int32)  (hnx : nx < 6) (hsn : sn ≤ 6) (hn : n ≤ 6) (hx : 1 ≤ x ∧ x ≤ 100) : kIl yL_call wsL_call rm_L_call cy [.ref (b 0), .int 7, .int x, .int v9] ((wXo b cy (a 0) r nx sn ln (svOf sk) (kpOf sk) ik bf ++ wRd r kd hg nu dg ng tk) ++ (wSky a cy n lit h t s g kn lo lf nm ++ wOth sk cy S)) (nI (n - sKeep t x n)) ((wXo b cy (a 0) r ((nx + 1) % 6) (min (sn + 1) 6) ln (svOf sk) (kpOf sk) ik bf ++ wRd r kd hg nu dg ng tk) ++ (wSky a cy (sKeep t x n) lit (sPack t x h n) (sPack t x t n) s g kn lo lf nm ++ wOth sk cy (updS S nx (cLike (n, lit, h, t, s, g, kn, lo, lf, nm) (S nx))))) 1 6 := by
  refine kIlc_of (cc := cL_call) (maxL := 4) (by decide) rfl (Nat.le_of_ble_eq_true rfl) ?_
  intro X hR C Z hst E
  have C : kC X 4 RL cL_call wsL_call cy := C
  refine k_fr (fr2 := [(0, .ref (b 0)), (1, .int 7), (2, .int x), (3, .int v9)]) ⟨[0, 1, 2, 3], rfl⟩ ?_
  refine k_iload_n (q := 1) C 1 dL_call_0 rfl rfl ?_
  refine k_tabOut (q := 89) C dL_call_1 (by decide +kernel) (by decide) ?_
  refine k_aload_n (q := 90) C 0 dL_call_89 rfl rfl ?_
  refine k_iload_n (q := 91) C 2 dL_call_90 rfl rfl ?_
  refine k_callSIw (n := 2) (q := 94) (pre := ([] : va_W)) (post := ([] : va_W)) (w2 := ((wXo b cy (a 0) r ((nx + 1) % 6) (min (sn + 1) 6) ln (svOf sk) (kpOf sk) ik bf ++ wRd r kd hg nu dg ng tk) ++ (wSky a cy (sKeep t x n) lit (sPack t x h n) (sPack t x t n) s g kn lo lf nm ++ wOth sk cy (updS S nx (cLike (n, lit, h, t, s, g, kn, lo, lf, nm) (S nx)))))) (As := [.ref (b 0), .int x]) (rest := []) C (c_L_clearThin cy a b r nx sn ln sk S ik bf kd hg nu dg ng tk n lit h t s g kn lo lf nm x hnx hsn hn hx) gL_call_L_clearThin rfl rfl rfl (by decide +kernel) (k_room hR (by decide)) ⟨Nat.zero_le _, Nat.zero_le _⟩ rfl rfl (Nat.le_of_ble_eq_true rfl) ((List.append_nil _).symm) (List.append_nil _) dL_call_91 rfl ?_
  exact k_finL E (by omega) (by omega) dL_call_94 (rfl) (rfl)
