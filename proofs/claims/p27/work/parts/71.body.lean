/-! the body of the law -/
theorem lx_0 : Cond.classLink RL 11 RX3 ∈ wsL_law := List.mem_of_getElem? (i := 0) (by decide +kernel)
theorem lx_1 : Cond.instantiable RX3 9 ∈ wsL_law := List.mem_of_getElem? (i := 1) (by decide +kernel)
theorem lx_2 : Cond.initialized RX3 ∈ wsL_law := List.mem_of_getElem? (i := 2) (by decide +kernel)
theorem lx_6 : Cond.arrayClass .int ∈ wsL_law := List.mem_of_getElem? (i := 3) (by decide +kernel)
theorem lx_7 : Cond.methodLink RL 174 yX3_init ∈ wsL_law := List.mem_of_getElem? (i := 5) (by decide +kernel)
theorem lx_8 : Cond.instanceMethod yX3_init ∈ wsL_law := List.mem_of_getElem? (i := 6) (by decide +kernel)
def F0s : FI32 := (upd (upd (upd (upd (upd (upd (upd (upd (fun _ => 0) 0 300) 1 100) 2 20) 3 10) 4 5) 5 (-5)) 6 1) 7 1)
/-- the law's own state at the start -/
def M0s : SK := (0, fun k => if k < 2 then 1 else 0, fun _ => 0, fun _ => 0, fun k => if k = 0 then 5 else if k = 1 then -5 else 0, fun k => if k = 0 then 300 else if k = 1 then 100 else if k = 2 then 20 else if k = 3 then 10 else 0, 0, 0, 0, fun _ => 0)
theorem sRel_0 : sRel cK0 M0s := by
  refine ⟨⟨Nat.zero_le _, ⟨Or.inr rfl, Or.inr rfl⟩, ⟨by decide +kernel, by decide +kernel⟩, ⟨by decide +kernel, by decide +kernel⟩, Nat.zero_le _, fun i hi => absurd hi (Nat.not_lt_zero i), fun i hi => absurd hi (Nat.not_lt_zero i), ⟨by decide +kernel, by decide +kernel⟩, ⟨by decide +kernel, by decide +kernel⟩, ⟨by decide +kernel, by decide +kernel⟩, ⟨by decide +kernel, by decide +kernel⟩⟩, rfl, by decide +kernel, fun i hi => absurd hi (Nat.not_lt_zero i), fun i hi => absurd hi (Nat.not_lt_zero i), fun i hi => ?_, fun i hi => ?_, rfl, rfl, rfl, fun i hi => rfl, fun k hk => absurd hk (Nat.not_lt_zero k)⟩
  · rcases (show i = 0 ∨ i = 1 by omega) with rfl | rfl <;> rfl
  · rcases (show i = 0 ∨ i = 1 ∨ i = 2 ∨ i = 3 by omega) with rfl | rfl | rfl | rfl <;> rfl
theorem F0s_q : F0s = qSt (kN M0s) (kO M0s) (kS M0s) (kGs M0s) (kK M0s) (kLo M0s) (kLf M0s) := by
  funext k
  by_cases h : k < 12
  · exact (show ∀ k, k < 12 → F0s k = qSt (kN M0s) (kO M0s) (kS M0s) (kGs M0s) (kK M0s) (kLo M0s) (kLf M0s) k by decide +kernel) k h
  · have e : ∀ (f : FI32) (j : Nat) (x : Int32), j < 12 → upd f j x k = f k := fun f j x hj => if_neg (by omega)
    show upd (upd (upd (upd (upd (upd (upd (upd _ _ _) _ _) _ _) _ _) _ _) _ _) _ _) _ _ k = mSt _ _ _ _ _ _ _ _ _ _ k
    rw [e _ _ _ (by decide), e _ _ _ (by decide), e _ _ _ (by decide), e _ _ _ (by decide), e _ _ _ (by decide), e _ _ _ (by decide), e _ _ _ (by decide), e _ _ _ (by decide)]
    unfold mSt
    rw [if_neg (by omega), if_neg (by omega), if_neg (by omega), if_neg (by omega), if_neg (by omega), if_neg (by omega), if_neg (by omega)]
    split
    · rfl
    · split <;> rfl
theorem ps_6 {α : Type} {w : List α} {a0 a1 a2 a3 a4 a5 : α} : ((((((w ++ [a0]) ++ [a1]) ++ [a2]) ++ [a3]) ++ [a4]) ++ [a5]).Perm ([a0, a1, a2, a3, a4, a5] ++ w) := by
  simp only [List.append_assoc]
  exact List.perm_append_comm
set_option maxHeartbeats 4000000 in
set_option maxRecDepth 100000 in
theorem lw_body {cy : Nat → ClassId} (X : kX) (hR : xR X = room_1) (C : kC X 17 RL cL_law wsL_law cy) (Z : kZ (xA X) (xS X) (xS X).heap) (hst : (xL X).stackTraces = false) (hao : va_AO "CloudBeams$Sky" (xS X)) (s0 : State) (d0 : Drawn) (hs : xS X = s0.setDrawn d0) (hd0 : s0.drawn.sameBut d0 lw_cs) (sb L : Nat) (xs : Nat → Int32) (hX : va_X sb L xs (xS X) (xS X).heap) (hbl : sb < (xS X).heap.size) (hbA : ¬ (xA X) sb) (hL : L ≤ 260)
    (Fin : ∀ (d : Drawn) (ce sl : Nat) (w : va_W) (fr : List (Nat × Value)), s0.drawn.sameBut d lw_cs → ce ≤ 600130 → sl ≤ 7301080 → kG (kXs X (s0.setDrawn d)) 17 ce sl w 601 fr []) : kG X 17 0 0 [] 0 [(0, .ref sb)] [] := by
  refine k_new (q := 3) (ci := 3) (fs := [.null, .null, .int 0, .int 0, .null, .null, .null, .int 0, .null]) C inlX3 tyX3 tyX3_ok lx_0 lx_1 lx_2 rfl (fun j hj => by rcases (show j = 0 ∨ j = 1 ∨ j = 2 ∨ j = 3 ∨ j = 4 ∨ j = 5 ∨ j = 6 ∨ j = 7 ∨ j = 8 by omega) with rfl | rfl | rfl | rfl | rfl | rfl | rfl | rfl | rfl <;> rfl) (by rw [hR]; decide) dL_law_0 rfl (fun q0 => ?_)
  refine k_w (w2 := ([(q0, .inr (3, [.null, .null, .int 0, .int 0, .null, .null, .null, .int 0, .null]))] : va_W)) rfl ?_
  refine k_dup (q := 4) C dL_law_3 rfl rfl ?_
  refine k_callN (n := 0) (q := 7) (pre := ([] : va_W)) (post := ([] : va_W)) (w2 := fun u => ((wXo (fun k => if k = 0 then q0 else u.2.2.1 k) cy (u.2.1 0) u.2.2.2 0 0 0 (svOf u.1) (kpOf u.1) (fun _ => 0) (fun _ => 0) ++ wRd u.2.2.2 0 0 0 0 false false) ++ (wSkK u.2.1 cy cK0 ++ wOth u.1 cy (fun _ => cK0)))) (As := []) (rest := [.ref q0]) C hao (c_X3_init q0) gL_law_X3_init rfl rfl rfl lx_2 lx_7 lx_8 rfl (by decide +kernel) (by rw [hR]; decide) (by rw [hR]; decide) rfl rfl (Nat.le_of_ble_eq_true rfl) rfl (fun u => List.append_nil _) dL_law_4 rfl ?_
  rintro ⟨sk, a, b9, r⟩
  refine k_w (w2 := ((wXo (fun k => if k = 0 then q0 else b9 k) cy (a 0) r 0 0 0 (svOf sk) (kpOf sk) (fun _ => 0) (fun _ => 0) ++ wRd r 0 0 0 0 false false) ++ (wSkK a cy cK0 ++ wOth sk cy (fun _ => cK0)))) rfl ?_
  obtain ⟨w1, ew⟩ : ∃ w1 : va_W, w1 = ((wXo (fun k => if k = 0 then q0 else b9 k) cy (a 0) r 0 0 0 (svOf sk) (kpOf sk) (fun _ => 0) (fun _ => 0) ++ wRd r 0 0 0 0 false false) ++ (wSkK a cy cK0 ++ wOth sk cy (fun _ => cK0))) := ⟨_, rfl⟩
  refine k_w (w2 := w1) ew.symm ?_
  refine k_astore_n (q := 8) (fr2 := [(1, .ref q0), (0, .ref sb)]) C dL_law_7 (by decide) rfl rfl ?_
  refine k_bipush (q := 10) (v := 12) C dL_law_8 (by decide +kernel) rfl ?_
  refine k_newa (q := 12) (atype := .int) (cB := cy 0) (ty := .int) (a0 := (12, .inl (fun _ => 0))) (N' := 12) C 0 rfl (fun _ h => h) lx_6 rfl (fun _ => rfl) (by decide) (by decide) (by decide) (by rw [hR]; decide) dL_law_10 rfl (fun e0 => ?_)
  refine k_astore_n (q := 13) (fr2 := [(2, .ref e0), (1, .ref q0), (0, .ref sb)]) C dL_law_12 (by decide) rfl rfl ?_
  refine k_bipush (q := 15) (v := 6) C dL_law_13 (by decide +kernel) rfl ?_
  refine k_newa (q := 17) (atype := .int) (cB := cy 0) (ty := .int) (a0 := (6, .inl (fun _ => 0))) (N' := 6) C 0 rfl (fun _ h => h) lx_6 rfl (fun _ => rfl) (by decide) (by decide) (by decide) (by rw [hR]; decide) dL_law_15 rfl (fun e1 => ?_)
  refine k_astore_n (q := 18) (fr2 := [(3, .ref e1), (2, .ref e0), (1, .ref q0), (0, .ref sb)]) C dL_law_17 (by decide) rfl rfl ?_
  refine k_bipush (q := 20) (v := 6) C dL_law_18 (by decide +kernel) rfl ?_
  refine k_newa (q := 22) (atype := .int) (cB := cy 0) (ty := .int) (a0 := (6, .inl (fun _ => 0))) (N' := 6) C 0 rfl (fun _ h => h) lx_6 rfl (fun _ => rfl) (by decide) (by decide) (by decide) (by rw [hR]; decide) dL_law_20 rfl (fun e2 => ?_)
  refine k_astore (q := 24) (fr2 := [(4, .ref e2), (3, .ref e1), (2, .ref e0), (1, .ref q0), (0, .ref sb)]) C dL_law_22 (by decide) rfl rfl ?_
  refine k_bipush (q := 26) (v := 32) C dL_law_24 (by decide +kernel) rfl ?_
  refine k_newa (q := 28) (atype := .int) (cB := cy 0) (ty := .int) (a0 := (32, .inl (fun _ => 0))) (N' := 32) C 0 rfl (fun _ h => h) lx_6 rfl (fun _ => rfl) (by decide) (by decide) (by decide) (by rw [hR]; decide) dL_law_26 rfl (fun e3 => ?_)
  refine k_astore (q := 30) (fr2 := [(5, .ref e3), (4, .ref e2), (3, .ref e1), (2, .ref e0), (1, .ref q0), (0, .ref sb)]) C dL_law_28 (by decide) rfl rfl ?_
  refine k_bipush (q := 32) (v := 12) C dL_law_30 (by decide +kernel) rfl ?_
  refine k_newa (q := 34) (atype := .int) (cB := cy 0) (ty := .int) (a0 := (12, .inl (fun _ => 0))) (N' := 12) C 0 rfl (fun _ h => h) lx_6 rfl (fun _ => rfl) (by decide) (by decide) (by decide) (by rw [hR]; decide) dL_law_32 rfl (fun e4 => ?_)
  refine k_astore (q := 36) (fr2 := [(6, .ref e4), (5, .ref e3), (4, .ref e2), (3, .ref e1), (2, .ref e0), (1, .ref q0), (0, .ref sb)]) C dL_law_34 (by decide) rfl rfl ?_
  refine k_iconst (q := 37) (v := 4) C dL_law_36 (by decide +kernel) rfl ?_
  refine k_newa (q := 39) (atype := .int) (cB := cy 0) (ty := .int) (a0 := (4, .inl (fun _ => 0))) (N' := 4) C 0 rfl (fun _ h => h) lx_6 rfl (fun _ => rfl) (by decide) (by decide) (by decide) (by rw [hR]; decide) dL_law_37 rfl (fun e5 => ?_)
  refine k_astore (q := 41) (fr2 := [(7, .ref e5), (6, .ref e4), (5, .ref e3), (4, .ref e2), (3, .ref e1), (2, .ref e0), (1, .ref q0), (0, .ref sb)]) C dL_law_39 (by decide) rfl rfl ?_
  refine k_perm ps_6 ?_
  refine k_w (w2 := (wLa (adr7 [e0, e1, e2, e3, e4, e5]) cy (fun _ => 0) (fun _ => 0) (fun _ => 0) (fun _ => 0) (fun _ => 0) (fun _ => 0) ++ w1)) rfl ?_
  refine k_aload_n (q := 42) C 5 dL_law_41 rfl rfl ?_
  refine k_iconst (q := 43) (v := 0) C dL_law_42 (by decide +kernel) rfl ?_
  refine k_sipush (q := 46) (v := 300) C dL_law_43 (by decide +kernel) rfl ?_
  refine k_iast (q := 47) (w2 := (wLa (adr7 [e0, e1, e2, e3, e4, e5]) cy (upd (fun _ => 0) 0 300) (fun _ => 0) (fun _ => 0) (fun _ => 0) (fun _ => 0) (fun _ => 0) ++ w1)) C 0 rfl (vp_in_nI (n := 0) (by decide) (by decide)) rfl dL_law_46 rfl ?_
  refine k_aload_n (q := 48) C 5 dL_law_47 rfl rfl ?_
  refine k_iconst (q := 49) (v := 1) C dL_law_48 (by decide +kernel) rfl ?_
  refine k_bipush (q := 51) (v := 100) C dL_law_49 (by decide +kernel) rfl ?_
  refine k_iast (q := 52) (w2 := (wLa (adr7 [e0, e1, e2, e3, e4, e5]) cy (upd (upd (fun _ => 0) 0 300) 1 100) (fun _ => 0) (fun _ => 0) (fun _ => 0) (fun _ => 0) (fun _ => 0) ++ w1)) C 0 rfl (vp_in_nI (n := 1) (by decide) (by decide)) rfl dL_law_51 rfl ?_
  refine k_aload_n (q := 53) C 5 dL_law_52 rfl rfl ?_
  refine k_iconst (q := 54) (v := 2) C dL_law_53 (by decide +kernel) rfl ?_
  refine k_bipush (q := 56) (v := 20) C dL_law_54 (by decide +kernel) rfl ?_
  refine k_iast (q := 57) (w2 := (wLa (adr7 [e0, e1, e2, e3, e4, e5]) cy (upd (upd (upd (fun _ => 0) 0 300) 1 100) 2 20) (fun _ => 0) (fun _ => 0) (fun _ => 0) (fun _ => 0) (fun _ => 0) ++ w1)) C 0 rfl (vp_in_nI (n := 2) (by decide) (by decide)) rfl dL_law_56 rfl ?_
  refine k_aload_n (q := 58) C 5 dL_law_57 rfl rfl ?_
  refine k_iconst (q := 59) (v := 3) C dL_law_58 (by decide +kernel) rfl ?_
  refine k_bipush (q := 61) (v := 10) C dL_law_59 (by decide +kernel) rfl ?_
  refine k_iast (q := 62) (w2 := (wLa (adr7 [e0, e1, e2, e3, e4, e5]) cy (upd (upd (upd (upd (fun _ => 0) 0 300) 1 100) 2 20) 3 10) (fun _ => 0) (fun _ => 0) (fun _ => 0) (fun _ => 0) (fun _ => 0) ++ w1)) C 0 rfl (vp_in_nI (n := 3) (by decide) (by decide)) rfl dL_law_61 rfl ?_
  refine k_aload_n (q := 63) C 5 dL_law_62 rfl rfl ?_
  refine k_iconst (q := 64) (v := 4) C dL_law_63 (by decide +kernel) rfl ?_
  refine k_iconst (q := 65) (v := 5) C dL_law_64 (by decide +kernel) rfl ?_
  refine k_iast (q := 66) (w2 := (wLa (adr7 [e0, e1, e2, e3, e4, e5]) cy (upd (upd (upd (upd (upd (fun _ => 0) 0 300) 1 100) 2 20) 3 10) 4 5) (fun _ => 0) (fun _ => 0) (fun _ => 0) (fun _ => 0) (fun _ => 0) ++ w1)) C 0 rfl (vp_in_nI (n := 4) (by decide) (by decide)) rfl dL_law_65 rfl ?_
  refine k_aload_n (q := 67) C 5 dL_law_66 rfl rfl ?_
  refine k_iconst (q := 68) (v := 5) C dL_law_67 (by decide +kernel) rfl ?_
  refine k_bipush (q := 70) (v := (-5)) C dL_law_68 (by decide +kernel) rfl ?_
  refine k_iast (q := 71) (w2 := (wLa (adr7 [e0, e1, e2, e3, e4, e5]) cy (upd (upd (upd (upd (upd (upd (fun _ => 0) 0 300) 1 100) 2 20) 3 10) 4 5) 5 (-5)) (fun _ => 0) (fun _ => 0) (fun _ => 0) (fun _ => 0) (fun _ => 0) ++ w1)) C 0 rfl (vp_in_nI (n := 5) (by decide) (by decide)) rfl dL_law_70 rfl ?_
  refine k_aload_n (q := 72) C 5 dL_law_71 rfl rfl ?_
  refine k_bipush (q := 74) (v := 6) C dL_law_72 (by decide +kernel) rfl ?_
  refine k_iconst (q := 75) (v := 1) C dL_law_74 (by decide +kernel) rfl ?_
  refine k_iast (q := 76) (w2 := (wLa (adr7 [e0, e1, e2, e3, e4, e5]) cy (upd (upd (upd (upd (upd (upd (upd (fun _ => 0) 0 300) 1 100) 2 20) 3 10) 4 5) 5 (-5)) 6 1) (fun _ => 0) (fun _ => 0) (fun _ => 0) (fun _ => 0) (fun _ => 0) ++ w1)) C 0 rfl (vp_in_nI (n := 6) (by decide) (by decide)) rfl dL_law_75 rfl ?_
  refine k_aload_n (q := 77) C 5 dL_law_76 rfl rfl ?_
  refine k_bipush (q := 79) (v := 7) C dL_law_77 (by decide +kernel) rfl ?_
  refine k_iconst (q := 80) (v := 1) C dL_law_79 (by decide +kernel) rfl ?_
  refine k_iast (q := 81) (w2 := (wLa (adr7 [e0, e1, e2, e3, e4, e5]) cy (upd (upd (upd (upd (upd (upd (upd (upd (fun _ => 0) 0 300) 1 100) 2 20) 3 10) 4 5) 5 (-5)) 6 1) 7 1) (fun _ => 0) (fun _ => 0) (fun _ => 0) (fun _ => 0) (fun _ => 0) ++ w1)) C 0 rfl (vp_in_nI (n := 7) (by decide) (by decide)) rfl dL_law_80 rfl ?_
  refine k_iconst (q := 82) (v := nI 0) C dL_law_81 (by decide) rfl ?_
  refine k_istore (q := 84) (fr2 := [(8, .int (nI 0)), (7, .ref e5), (6, .ref e4), (5, .ref e3), (4, .ref e2), (3, .ref e1), (2, .ref e0), (1, .ref q0), (0, .ref sb)]) C dL_law_82 (by decide) rfl rfl ?_
  refine k_fr (fr2 := [(0, .ref sb), (1, .ref q0), (2, .ref e0), (3, .ref e1), (4, .ref e2), (5, .ref e3), (6, .ref e4), (7, .ref e5), (8, .int (nI 0))]) ⟨[8, 7, 6, 5, 4, 3, 2, 1, 0], rfl⟩ ?_
  have key := lw_loop cy (adr7 [e0, e1, e2, e3, e4, e5]) a (fun k => if k = 0 then q0 else b9 k) r sk X hR C Z hst s0 d0 hs sb L xs hX hbl hbA hL Fin 40 0 75 706 rfl (by decide) (by decide) d0 hd0
  rw [kXs_self hs] at key
  have key := key 0 0 0 (fun _ => cK0) (fun _ => 0) (fun _ => 0) 0 0 0 0 false false cK0 M0s (fun _ => 0) (fun _ => 0) (by decide) (by decide) sRel_0 (fun i j _ hj => absurd hj (Nat.not_lt_zero j))
  refine k_w (w2 := wLk (adr7 [e0, e1, e2, e3, e4, e5]) cy M0s (fun _ => 0) (fun _ => 0) ++ w1) ?_ ?_
  · show wLa (adr7 [e0, e1, e2, e3, e4, e5]) cy F0s _ _ _ _ _ ++ w1 = wLa (adr7 [e0, e1, e2, e3, e4, e5]) cy _ _ _ _ _ _ ++ w1
    rw [F0s_q]
    rfl
  · rw [ew]
    exact key
