/-! the arguments of the law's calls -/
theorem lw_bd {k lo hi : Nat} {LO HI v : Int32} (e : v = nI k) (h1 : LO = nI lo) (h2 : HI = nI hi) (h : lo ≤ k ∧ k ≤ hi) (hh : hi < 2 ^ 31) : LO ≤ v ∧ v ≤ HI := by
  rw [e, h1, h2, Int32.le_iff_toInt_le, Int32.le_iff_toInt_le, nI_toInt (by omega), nI_toInt (by omega), nI_toInt (by omega)]
  omega
theorem lw_sl {a : Nat} (h : a < 61) : -30 ≤ nI a - 30 ∧ nI a - 30 ≤ 30 := by
  rw [show nI a - 30 = iI ((a : Int) - 30) from by rw [← iI_nI, show (30 : Int32) = iI 30 from rfl, iI_sub], show (-30 : Int32) = iI (-30) from by decide +kernel, show (30 : Int32) = iI 30 from rfl, Int32.le_iff_toInt_le, Int32.le_iff_toInt_le, iI_toInt (by omega), iI_toInt (by omega), iI_toInt (by omega)]
  omega
theorem lw_low {cy : Nat → ClassId} {X : kX} (hR : xR X = room_1) (C : kC X 17 RL cL_law wsL_law cy) {w : va_W} {ce sl pc q : Nat} (hcs : ce ≤ 600130 ∧ sl ≤ 7301080) {fr : List (Nat × Value)} {rest : List Value} {x z : Int32} (m : Nat) (hz : z = nI m) (hm : 0 < m) (hm2 : m < 2 ^ 31) (hcat : (rest.map fun v => v.category).sum ≤ 8) (hd : decode cL_law pc = .ok (.invokestatic 153, 3)) (hq : pc + 3 = q) (g : kG X 17 ce sl w q fr (.int (nI (lowN x m)) :: rest)) : kG X 17 ce sl w pc fr (.int z :: .int x :: rest) := by
  subst hz
  exact k_callSI (n := 2) (q := q) (pre := ([] : va_W)) (post := w) (w2 := w) (As := [.int x, .int (nI m)]) (rest := rest) C (c_L_low x m hm hm2) gL_law_L_low rfl rfl rfl (by decide +kernel) (k_room hR (by decide)) (k_cs (a := 600130) (b := 7301080) hR rfl rfl hcs) rfl rfl hcat rfl rfl hd hq g
set_option maxHeartbeats 4000000 in
set_option maxRecDepth 100000 in
theorem lw_v {cy : Nat → ClassId} {X : kX} (hR : xR X = room_1) (C : kC X 17 RL cL_law wsL_law cy) {w : va_W} {ce sl : Nat} (hcs : ce ≤ 600130 ∧ sl ≤ 7301080) {sb : Nat} {e : Nat → Nat} {b0 i : Nat} {x y : Int32} {k u : Int32} (G : ∀ v : Int32, kG X 17 ce sl w 454 [(0, .ref sb), (1, .ref b0), (2, .ref (e 0)), (3, .ref (e 1)), (4, .ref (e 2)), (5, .ref (e 3)), (6, .ref (e 4)), (7, .ref (e 5)), (8, .int (nI i)), (9, .int x), (11, .int k), (12, .int u), (13, .int v)] []) : kG X 17 ce sl w 382 [(12, .int u), (11, .int k), (0, .ref sb), (1, .ref b0), (2, .ref (e 0)), (3, .ref (e 1)), (4, .ref (e 2)), (5, .ref (e 3)), (6, .ref (e 4)), (7, .ref (e 5)), (8, .int (nI i)), (9, .int x), (10, .int y)] [] := by
  refine k_iload (q := 384) C 0 dL_law_382 rfl rfl ?_
  refine k_if_ne (tgt := 403) (q := 387) C dL_law_384 (by decide) rfl (fun _ => ?_) (fun _ => ?_)
  · skip
    refine k_iload (q := 405) C 0 dL_law_403 rfl rfl ?_
    refine k_iconst (q := 406) (v := 1) C dL_law_405 (by decide +kernel) rfl ?_
    refine k_icmp_ne (tgt := 422) (q := 409) C dL_law_406 (by decide) rfl (fun _ => ?_) (fun _ => ?_)
    · skip
      refine k_iload (q := 424) C 0 dL_law_422 rfl rfl ?_
      refine k_iconst (q := 425) (v := 2) C dL_law_424 (by decide +kernel) rfl ?_
      refine k_icmp_ne (tgt := 443) (q := 428) C dL_law_425 (by decide) rfl (fun _ => ?_) (fun _ => ?_)
      · skip
        refine k_iload (q := 445) C 12 dL_law_443 rfl rfl ?_
        refine k_iconst (q := 446) (v := 3) C dL_law_445 (by decide +kernel) rfl ?_
        refine k_ishr (q := 447) C dL_law_446 rfl ?_
        refine k_bipush (q := 449) (v := 101) C dL_law_447 (by decide +kernel) rfl ?_
        refine lw_low hR C (q := 452) hcs 101 (by decide +kernel) (by decide) (by decide) (Nat.le_of_ble_eq_true rfl) dL_law_449 rfl ?_
        refine k_istore (q := 454) (fr2 := [(13, .int (nI (lowN (y >>> (3 &&& 31)) 101))), (12, .int u), (11, .int k), (0, .ref sb), (1, .ref b0), (2, .ref (e 0)), (3, .ref (e 1)), (4, .ref (e 2)), (5, .ref (e 3)), (6, .ref (e 4)), (7, .ref (e 5)), (8, .int (nI i)), (9, .int x), (10, .int y)]) C dL_law_452 (by decide) rfl rfl ?_
        refine k_fr (fr2 := [(0, .ref sb), (1, .ref b0), (2, .ref (e 0)), (3, .ref (e 1)), (4, .ref (e 2)), (5, .ref (e 3)), (6, .ref (e 4)), (7, .ref (e 5)), (8, .int (nI i)), (9, .int x), (11, .int k), (12, .int u), (13, .int (nI (lowN (y >>> (3 &&& 31)) 101)))]) ⟨[3, 4, 5, 6, 7, 8, 9, 10, 11, 12, 2, 1, 0], rfl⟩ ?_
        exact G _
      · skip
        refine k_iconst (q := 429) (v := 1) C dL_law_428 (by decide +kernel) rfl ?_
        refine k_iload (q := 431) C 12 dL_law_429 rfl rfl ?_
        refine k_iconst (q := 432) (v := 3) C dL_law_431 (by decide +kernel) rfl ?_
        refine k_ishr (q := 433) C dL_law_432 rfl ?_
        refine k_sipush (q := 436) (v := 200) C dL_law_433 (by decide +kernel) rfl ?_
        refine lw_low hR C (q := 439) hcs 200 (by decide +kernel) (by decide) (by decide) (Nat.le_of_ble_eq_true rfl) dL_law_436 rfl ?_
        refine k_iadd (q := 440) C dL_law_439 rfl ?_
        refine k_goto (q := 452) C dL_law_440 (by decide) ?_
        refine k_istore (q := 454) (fr2 := [(13, .int ((1 : Int32) + (nI (lowN (y >>> (3 &&& 31)) 200)))), (12, .int u), (11, .int k), (0, .ref sb), (1, .ref b0), (2, .ref (e 0)), (3, .ref (e 1)), (4, .ref (e 2)), (5, .ref (e 3)), (6, .ref (e 4)), (7, .ref (e 5)), (8, .int (nI i)), (9, .int x), (10, .int y)]) C dL_law_452 (by decide) rfl rfl ?_
        refine k_fr (fr2 := [(0, .ref sb), (1, .ref b0), (2, .ref (e 0)), (3, .ref (e 1)), (4, .ref (e 2)), (5, .ref (e 3)), (6, .ref (e 4)), (7, .ref (e 5)), (8, .int (nI i)), (9, .int x), (11, .int k), (12, .int u), (13, .int ((1 : Int32) + (nI (lowN (y >>> (3 &&& 31)) 200))))]) ⟨[3, 4, 5, 6, 7, 8, 9, 10, 11, 12, 2, 1, 0], rfl⟩ ?_
        exact G _
    · skip
      refine k_iload (q := 411) C 12 dL_law_409 rfl rfl ?_
      refine k_iconst (q := 412) (v := 3) C dL_law_411 (by decide +kernel) rfl ?_
      refine k_ishr (q := 413) C dL_law_412 rfl ?_
      refine k_sipush (q := 416) (v := 1001) C dL_law_413 (by decide +kernel) rfl ?_
      refine lw_low hR C (q := 419) hcs 1001 (by decide +kernel) (by decide) (by decide) (Nat.le_of_ble_eq_true rfl) dL_law_416 rfl ?_
      refine k_goto (q := 452) C dL_law_419 (by decide) ?_
      refine k_istore (q := 454) (fr2 := [(13, .int (nI (lowN (y >>> (3 &&& 31)) 1001))), (12, .int u), (11, .int k), (0, .ref sb), (1, .ref b0), (2, .ref (e 0)), (3, .ref (e 1)), (4, .ref (e 2)), (5, .ref (e 3)), (6, .ref (e 4)), (7, .ref (e 5)), (8, .int (nI i)), (9, .int x), (10, .int y)]) C dL_law_452 (by decide) rfl rfl ?_
      refine k_fr (fr2 := [(0, .ref sb), (1, .ref b0), (2, .ref (e 0)), (3, .ref (e 1)), (4, .ref (e 2)), (5, .ref (e 3)), (6, .ref (e 4)), (7, .ref (e 5)), (8, .int (nI i)), (9, .int x), (11, .int k), (12, .int u), (13, .int (nI (lowN (y >>> (3 &&& 31)) 1001)))]) ⟨[3, 4, 5, 6, 7, 8, 9, 10, 11, 12, 2, 1, 0], rfl⟩ ?_
      exact G _
  · skip
    refine k_bipush (q := 389) (v := 50) C dL_law_387 (by decide +kernel) rfl ?_
    refine k_iload (q := 391) C 12 dL_law_389 rfl rfl ?_
    refine k_iconst (q := 392) (v := 3) C dL_law_391 (by decide +kernel) rfl ?_
    refine k_ishr (q := 393) C dL_law_392 rfl ?_
    refine k_sipush (q := 396) (v := 951) C dL_law_393 (by decide +kernel) rfl ?_
    refine lw_low hR C (q := 399) hcs 951 (by decide +kernel) (by decide) (by decide) (Nat.le_of_ble_eq_true rfl) dL_law_396 rfl ?_
    refine k_iadd (q := 400) C dL_law_399 rfl ?_
    refine k_goto (q := 452) C dL_law_400 (by decide) ?_
    refine k_istore (q := 454) (fr2 := [(13, .int ((50 : Int32) + (nI (lowN (y >>> (3 &&& 31)) 951)))), (12, .int u), (11, .int k), (0, .ref sb), (1, .ref b0), (2, .ref (e 0)), (3, .ref (e 1)), (4, .ref (e 2)), (5, .ref (e 3)), (6, .ref (e 4)), (7, .ref (e 5)), (8, .int (nI i)), (9, .int x), (10, .int y)]) C dL_law_452 (by decide) rfl rfl ?_
    refine k_fr (fr2 := [(0, .ref sb), (1, .ref b0), (2, .ref (e 0)), (3, .ref (e 1)), (4, .ref (e 2)), (5, .ref (e 3)), (6, .ref (e 4)), (7, .ref (e 5)), (8, .int (nI i)), (9, .int x), (11, .int k), (12, .int u), (13, .int ((50 : Int32) + (nI (lowN (y >>> (3 &&& 31)) 951))))]) ⟨[3, 4, 5, 6, 7, 8, 9, 10, 11, 12, 2, 1, 0], rfl⟩ ?_
    exact G _
set_option maxHeartbeats 4000000 in
set_option maxRecDepth 100000 in
theorem lw_k0 {cy : Nat → ClassId} {X : kX} (hR : xR X = room_1) (C : kC X 17 RL cL_law wsL_law cy) {w : va_W} {ce sl : Nat} (hcs : ce ≤ 600130 ∧ sl ≤ 7301080) {sb : Nat} {e : Nat → Nat} {b0 i : Nat} {x y : Int32} (G : ∀ u v : Int32, (50 ≤ u ∧ u ≤ 3000) → (1 ≤ v ∧ v ≤ 100) → kG X 17 ce sl w 454 [(0, .ref sb), (1, .ref b0), (2, .ref (e 0)), (3, .ref (e 1)), (4, .ref (e 2)), (5, .ref (e 3)), (6, .ref (e 4)), (7, .ref (e 5)), (8, .int (nI i)), (9, .int x), (11, .int 0), (12, .int u), (13, .int v)] []) : kG X 17 ce sl w 227 [(11, .int 0), (0, .ref sb), (1, .ref b0), (2, .ref (e 0)), (3, .ref (e 1)), (4, .ref (e 2)), (5, .ref (e 3)), (6, .ref (e 4)), (7, .ref (e 5)), (8, .int (nI i)), (9, .int x), (10, .int y)] [] := by
  refine k_iload (q := 229) C 0 dL_law_227 rfl rfl ?_
  refine k_if_ne (tgt := 264) (q := 232) C dL_law_229 (by decide) rfl (fun h => absurd h (by decide +kernel)) (fun _ => ?_)
  refine k_bipush (q := 234) (v := 50) C dL_law_232 (by decide +kernel) rfl ?_
  refine k_iload (q := 236) C 11 dL_law_234 rfl rfl ?_
  refine k_iload (q := 238) C 11 dL_law_236 rfl rfl ?_
  refine k_bipush (q := 240) (v := 20) C dL_law_238 (by decide +kernel) rfl ?_
  refine k_ishr (q := 241) C dL_law_240 rfl ?_
  refine k_iconst (q := 242) (v := 3) C dL_law_241 (by decide +kernel) rfl ?_
  refine lw_low hR C (q := 245) hcs 3 (by decide +kernel) (by decide) (by decide) (Nat.le_of_ble_eq_true rfl) dL_law_242 rfl ?_
  refine k_if_ne (tgt := 254) (q := 248) C dL_law_245 (by decide) rfl (fun _ => ?_) (fun _ => ?_)
  · skip
    refine k_sipush (q := 257) (v := 700) C dL_law_254 (by decide +kernel) rfl ?_
    refine lw_low hR C (q := 260) hcs 700 (by decide +kernel) (by decide) (by decide) (Nat.le_of_ble_eq_true rfl) dL_law_257 rfl ?_
    refine k_iadd (q := 261) C dL_law_260 rfl ?_
    refine k_goto (q := 321) C dL_law_261 (by decide) ?_
    refine k_istore (q := 323) (fr2 := [(12, .int ((50 : Int32) + (nI (lowN y 700)))), (11, .int 0), (0, .ref sb), (1, .ref b0), (2, .ref (e 0)), (3, .ref (e 1)), (4, .ref (e 2)), (5, .ref (e 3)), (6, .ref (e 4)), (7, .ref (e 5)), (8, .int (nI i)), (9, .int x), (10, .int y)]) C dL_law_321 (by decide) rfl rfl ?_
    refine k_iload (q := 325) C 1 dL_law_323 rfl rfl ?_
    refine k_if_ne (tgt := 343) (q := 328) C dL_law_325 (by decide) rfl (fun h => absurd h (by decide +kernel)) (fun _ => ?_)
    refine k_iconst (q := 329) (v := 1) C dL_law_328 (by decide +kernel) rfl ?_
    refine k_iload (q := 331) C 12 dL_law_329 rfl rfl ?_
    refine k_bipush (q := 333) (v := 12) C dL_law_331 (by decide +kernel) rfl ?_
    refine k_ishr (q := 334) C dL_law_333 rfl ?_
    refine k_bipush (q := 336) (v := 60) C dL_law_334 (by decide +kernel) rfl ?_
    refine lw_low hR C (q := 339) hcs 60 (by decide +kernel) (by decide) (by decide) (Nat.le_of_ble_eq_true rfl) dL_law_336 rfl ?_
    refine k_iadd (q := 340) C dL_law_339 rfl ?_
    refine k_goto (q := 452) C dL_law_340 (by decide) ?_
    refine k_istore (q := 454) (fr2 := [(13, .int ((1 : Int32) + (nI (lowN (y >>> (12 &&& 31)) 60)))), (12, .int ((50 : Int32) + (nI (lowN y 700)))), (11, .int 0), (0, .ref sb), (1, .ref b0), (2, .ref (e 0)), (3, .ref (e 1)), (4, .ref (e 2)), (5, .ref (e 3)), (6, .ref (e 4)), (7, .ref (e 5)), (8, .int (nI i)), (9, .int x), (10, .int y)]) C dL_law_452 (by decide) rfl rfl ?_
    refine k_fr (fr2 := [(0, .ref sb), (1, .ref b0), (2, .ref (e 0)), (3, .ref (e 1)), (4, .ref (e 2)), (5, .ref (e 3)), (6, .ref (e 4)), (7, .ref (e 5)), (8, .int (nI i)), (9, .int x), (11, .int 0), (12, .int ((50 : Int32) + (nI (lowN y 700)))), (13, .int ((1 : Int32) + (nI (lowN (y >>> (12 &&& 31)) 60))))]) ⟨[3, 4, 5, 6, 7, 8, 9, 10, 11, 12, 2, 1, 0], rfl⟩ ?_
    exact G _ _ (lw_bd (k := 50 + lowN y 700) (lo := 50) (hi := 3000) (nI_add 50 _) (by decide +kernel) (by decide +kernel) (by have := lowN_lt (v := y) (m := 700) (by decide); omega) (by decide)) (lw_bd (k := 1 + lowN (y >>> (12 &&& 31)) 60) (lo := 1) (hi := 100) (nI_add 1 _) (by decide +kernel) (by decide +kernel) (by have := lowN_lt (v := (y >>> (12 &&& 31))) (m := 60) (by decide); omega) (by decide))
  · skip
    refine k_sipush (q := 251) (v := 2951) C dL_law_248 (by decide +kernel) rfl ?_
    refine k_goto (q := 257) C dL_law_251 (by decide) ?_
    refine lw_low hR C (q := 260) hcs 2951 (by decide +kernel) (by decide) (by decide) (Nat.le_of_ble_eq_true rfl) dL_law_257 rfl ?_
    refine k_iadd (q := 261) C dL_law_260 rfl ?_
    refine k_goto (q := 321) C dL_law_261 (by decide) ?_
    refine k_istore (q := 323) (fr2 := [(12, .int ((50 : Int32) + (nI (lowN y 2951)))), (11, .int 0), (0, .ref sb), (1, .ref b0), (2, .ref (e 0)), (3, .ref (e 1)), (4, .ref (e 2)), (5, .ref (e 3)), (6, .ref (e 4)), (7, .ref (e 5)), (8, .int (nI i)), (9, .int x), (10, .int y)]) C dL_law_321 (by decide) rfl rfl ?_
    refine k_iload (q := 325) C 1 dL_law_323 rfl rfl ?_
    refine k_if_ne (tgt := 343) (q := 328) C dL_law_325 (by decide) rfl (fun h => absurd h (by decide +kernel)) (fun _ => ?_)
    refine k_iconst (q := 329) (v := 1) C dL_law_328 (by decide +kernel) rfl ?_
    refine k_iload (q := 331) C 12 dL_law_329 rfl rfl ?_
    refine k_bipush (q := 333) (v := 12) C dL_law_331 (by decide +kernel) rfl ?_
    refine k_ishr (q := 334) C dL_law_333 rfl ?_
    refine k_bipush (q := 336) (v := 60) C dL_law_334 (by decide +kernel) rfl ?_
    refine lw_low hR C (q := 339) hcs 60 (by decide +kernel) (by decide) (by decide) (Nat.le_of_ble_eq_true rfl) dL_law_336 rfl ?_
    refine k_iadd (q := 340) C dL_law_339 rfl ?_
    refine k_goto (q := 452) C dL_law_340 (by decide) ?_
    refine k_istore (q := 454) (fr2 := [(13, .int ((1 : Int32) + (nI (lowN (y >>> (12 &&& 31)) 60)))), (12, .int ((50 : Int32) + (nI (lowN y 2951)))), (11, .int 0), (0, .ref sb), (1, .ref b0), (2, .ref (e 0)), (3, .ref (e 1)), (4, .ref (e 2)), (5, .ref (e 3)), (6, .ref (e 4)), (7, .ref (e 5)), (8, .int (nI i)), (9, .int x), (10, .int y)]) C dL_law_452 (by decide) rfl rfl ?_
    refine k_fr (fr2 := [(0, .ref sb), (1, .ref b0), (2, .ref (e 0)), (3, .ref (e 1)), (4, .ref (e 2)), (5, .ref (e 3)), (6, .ref (e 4)), (7, .ref (e 5)), (8, .int (nI i)), (9, .int x), (11, .int 0), (12, .int ((50 : Int32) + (nI (lowN y 2951)))), (13, .int ((1 : Int32) + (nI (lowN (y >>> (12 &&& 31)) 60))))]) ⟨[3, 4, 5, 6, 7, 8, 9, 10, 11, 12, 2, 1, 0], rfl⟩ ?_
    exact G _ _ (lw_bd (k := 50 + lowN y 2951) (lo := 50) (hi := 3000) (nI_add 50 _) (by decide +kernel) (by decide +kernel) (by have := lowN_lt (v := y) (m := 2951) (by decide); omega) (by decide)) (lw_bd (k := 1 + lowN (y >>> (12 &&& 31)) 60) (lo := 1) (hi := 100) (nI_add 1 _) (by decide +kernel) (by decide +kernel) (by have := lowN_lt (v := (y >>> (12 &&& 31))) (m := 60) (by decide); omega) (by decide))
set_option maxHeartbeats 4000000 in
set_option maxRecDepth 100000 in
theorem lw_k1 {cy : Nat → ClassId} {X : kX} (hR : xR X = room_1) (C : kC X 17 RL cL_law wsL_law cy) {w : va_W} {ce sl : Nat} (hcs : ce ≤ 600130 ∧ sl ≤ 7301080) {sb : Nat} {e : Nat → Nat} {b0 i : Nat} {x y : Int32} (G : ∀ (j : Nat) (v : Int32), j < 2 → (-30 ≤ v ∧ v ≤ 30) → kG X 17 ce sl w 454 [(0, .ref sb), (1, .ref b0), (2, .ref (e 0)), (3, .ref (e 1)), (4, .ref (e 2)), (5, .ref (e 3)), (6, .ref (e 4)), (7, .ref (e 5)), (8, .int (nI i)), (9, .int x), (11, .int 1), (12, .int (nI j)), (13, .int v)] []) : kG X 17 ce sl w 227 [(11, .int 1), (0, .ref sb), (1, .ref b0), (2, .ref (e 0)), (3, .ref (e 1)), (4, .ref (e 2)), (5, .ref (e 3)), (6, .ref (e 4)), (7, .ref (e 5)), (8, .int (nI i)), (9, .int x), (10, .int y)] [] := by
  refine k_iload (q := 229) C 0 dL_law_227 rfl rfl ?_
  refine k_if_ne (tgt := 264) (q := 232) C dL_law_229 (by decide) rfl (fun _ => ?_) (fun h => absurd h (by decide +kernel))
  refine k_iload (q := 266) C 0 dL_law_264 rfl rfl ?_
  refine k_iconst (q := 267) (v := 5) C dL_law_266 (by decide +kernel) rfl ?_
  refine k_icmp_ne (tgt := 279) (q := 270) C dL_law_267 (by decide) rfl (fun _ => ?_) (fun h => absurd h (by decide +kernel))
  refine k_iload (q := 281) C 0 dL_law_279 rfl rfl ?_
  refine k_bipush (q := 283) (v := 6) C dL_law_281 (by decide +kernel) rfl ?_
  refine k_icmp_ne (tgt := 296) (q := 286) C dL_law_283 (by decide) rfl (fun _ => ?_) (fun h => absurd h (by decide +kernel))
  refine k_iload (q := 298) C 0 dL_law_296 rfl rfl ?_
  refine k_bipush (q := 300) (v := 7) C dL_law_298 (by decide +kernel) rfl ?_
  refine k_icmp_ne (tgt := 315) (q := 303) C dL_law_300 (by decide) rfl (fun _ => ?_) (fun h => absurd h (by decide +kernel))
  refine k_iload (q := 317) C 11 dL_law_315 rfl rfl ?_
  refine k_iconst (q := 318) (v := 2) C dL_law_317 (by decide +kernel) rfl ?_
  refine lw_low hR C (q := 321) hcs 2 (by decide +kernel) (by decide) (by decide) (Nat.le_of_ble_eq_true rfl) dL_law_318 rfl ?_
  refine k_istore (q := 323) (fr2 := [(12, .int (nI (lowN y 2))), (11, .int 1), (0, .ref sb), (1, .ref b0), (2, .ref (e 0)), (3, .ref (e 1)), (4, .ref (e 2)), (5, .ref (e 3)), (6, .ref (e 4)), (7, .ref (e 5)), (8, .int (nI i)), (9, .int x), (10, .int y)]) C dL_law_321 (by decide) rfl rfl ?_
  refine k_iload (q := 325) C 1 dL_law_323 rfl rfl ?_
  refine k_if_ne (tgt := 343) (q := 328) C dL_law_325 (by decide) rfl (fun _ => ?_) (fun h => absurd h (by decide +kernel))
  refine k_iload (q := 345) C 1 dL_law_343 rfl rfl ?_
  refine k_iconst (q := 346) (v := 1) C dL_law_345 (by decide +kernel) rfl ?_
  refine k_icmp_ne (tgt := 364) (q := 349) C dL_law_346 (by decide) rfl (fun h => absurd h (by decide +kernel)) (fun _ => ?_)
  refine k_iload (q := 351) C 12 dL_law_349 rfl rfl ?_
  refine k_iconst (q := 352) (v := 3) C dL_law_351 (by decide +kernel) rfl ?_
  refine k_ishr (q := 353) C dL_law_352 rfl ?_
  refine k_bipush (q := 355) (v := 61) C dL_law_353 (by decide +kernel) rfl ?_
  refine lw_low hR C (q := 358) hcs 61 (by decide +kernel) (by decide) (by decide) (Nat.le_of_ble_eq_true rfl) dL_law_355 rfl ?_
  refine k_bipush (q := 360) (v := 30) C dL_law_358 (by decide +kernel) rfl ?_
  refine k_isub (q := 361) C dL_law_360 rfl ?_
  refine k_goto (q := 452) C dL_law_361 (by decide) ?_
  refine k_istore (q := 454) (fr2 := [(13, .int ((nI (lowN (y >>> (3 &&& 31)) 61)) - 30)), (12, .int (nI (lowN y 2))), (11, .int 1), (0, .ref sb), (1, .ref b0), (2, .ref (e 0)), (3, .ref (e 1)), (4, .ref (e 2)), (5, .ref (e 3)), (6, .ref (e 4)), (7, .ref (e 5)), (8, .int (nI i)), (9, .int x), (10, .int y)]) C dL_law_452 (by decide) rfl rfl ?_
  refine k_fr (fr2 := [(0, .ref sb), (1, .ref b0), (2, .ref (e 0)), (3, .ref (e 1)), (4, .ref (e 2)), (5, .ref (e 3)), (6, .ref (e 4)), (7, .ref (e 5)), (8, .int (nI i)), (9, .int x), (11, .int 1), (12, .int (nI (lowN y 2))), (13, .int ((nI (lowN (y >>> (3 &&& 31)) 61)) - 30))]) ⟨[3, 4, 5, 6, 7, 8, 9, 10, 11, 12, 2, 1, 0], rfl⟩ ?_
  exact G _ _ (lowN_lt (by decide)) (lw_sl (lowN_lt (by decide)))
set_option maxHeartbeats 4000000 in
set_option maxRecDepth 100000 in
theorem lw_k2 {cy : Nat → ClassId} {X : kX} (hR : xR X = room_1) (C : kC X 17 RL cL_law wsL_law cy) {w : va_W} {ce sl : Nat} (hcs : ce ≤ 600130 ∧ sl ≤ 7301080) {sb : Nat} {e : Nat → Nat} {b0 i : Nat} {x y : Int32} (G : ∀ j p : Nat, j < 2 → p < 6 → kG X 17 ce sl w 454 [(0, .ref sb), (1, .ref b0), (2, .ref (e 0)), (3, .ref (e 1)), (4, .ref (e 2)), (5, .ref (e 3)), (6, .ref (e 4)), (7, .ref (e 5)), (8, .int (nI i)), (9, .int x), (11, .int 2), (12, .int (nI j)), (13, .int (nI p))] []) : kG X 17 ce sl w 227 [(11, .int 2), (0, .ref sb), (1, .ref b0), (2, .ref (e 0)), (3, .ref (e 1)), (4, .ref (e 2)), (5, .ref (e 3)), (6, .ref (e 4)), (7, .ref (e 5)), (8, .int (nI i)), (9, .int x), (10, .int y)] [] := by
  refine k_iload (q := 229) C 0 dL_law_227 rfl rfl ?_
  refine k_if_ne (tgt := 264) (q := 232) C dL_law_229 (by decide) rfl (fun _ => ?_) (fun h => absurd h (by decide +kernel))
  refine k_iload (q := 266) C 0 dL_law_264 rfl rfl ?_
  refine k_iconst (q := 267) (v := 5) C dL_law_266 (by decide +kernel) rfl ?_
  refine k_icmp_ne (tgt := 279) (q := 270) C dL_law_267 (by decide) rfl (fun _ => ?_) (fun h => absurd h (by decide +kernel))
  refine k_iload (q := 281) C 0 dL_law_279 rfl rfl ?_
  refine k_bipush (q := 283) (v := 6) C dL_law_281 (by decide +kernel) rfl ?_
  refine k_icmp_ne (tgt := 296) (q := 286) C dL_law_283 (by decide) rfl (fun _ => ?_) (fun h => absurd h (by decide +kernel))
  refine k_iload (q := 298) C 0 dL_law_296 rfl rfl ?_
  refine k_bipush (q := 300) (v := 7) C dL_law_298 (by decide +kernel) rfl ?_
  refine k_icmp_ne (tgt := 315) (q := 303) C dL_law_300 (by decide) rfl (fun _ => ?_) (fun h => absurd h (by decide +kernel))
  refine k_iload (q := 317) C 11 dL_law_315 rfl rfl ?_
  refine k_iconst (q := 318) (v := 2) C dL_law_317 (by decide +kernel) rfl ?_
  refine lw_low hR C (q := 321) hcs 2 (by decide +kernel) (by decide) (by decide) (Nat.le_of_ble_eq_true rfl) dL_law_318 rfl ?_
  refine k_istore (q := 323) (fr2 := [(12, .int (nI (lowN y 2))), (11, .int 2), (0, .ref sb), (1, .ref b0), (2, .ref (e 0)), (3, .ref (e 1)), (4, .ref (e 2)), (5, .ref (e 3)), (6, .ref (e 4)), (7, .ref (e 5)), (8, .int (nI i)), (9, .int x), (10, .int y)]) C dL_law_321 (by decide) rfl rfl ?_
  refine k_iload (q := 325) C 1 dL_law_323 rfl rfl ?_
  refine k_if_ne (tgt := 343) (q := 328) C dL_law_325 (by decide) rfl (fun _ => ?_) (fun h => absurd h (by decide +kernel))
  refine k_iload (q := 345) C 1 dL_law_343 rfl rfl ?_
  refine k_iconst (q := 346) (v := 1) C dL_law_345 (by decide +kernel) rfl ?_
  refine k_icmp_ne (tgt := 364) (q := 349) C dL_law_346 (by decide) rfl (fun _ => ?_) (fun h => absurd h (by decide +kernel))
  refine k_iload (q := 366) C 1 dL_law_364 rfl rfl ?_
  refine k_iconst (q := 367) (v := 2) C dL_law_366 (by decide +kernel) rfl ?_
  refine k_icmp_ne (tgt := 382) (q := 370) C dL_law_367 (by decide) rfl (fun h => absurd h (by decide +kernel)) (fun _ => ?_)
  refine k_iload (q := 372) C 12 dL_law_370 rfl rfl ?_
  refine k_iconst (q := 373) (v := 3) C dL_law_372 (by decide +kernel) rfl ?_
  refine k_ishr (q := 374) C dL_law_373 rfl ?_
  refine k_bipush (q := 376) (v := 6) C dL_law_374 (by decide +kernel) rfl ?_
  refine lw_low hR C (q := 379) hcs 6 (by decide +kernel) (by decide) (by decide) (Nat.le_of_ble_eq_true rfl) dL_law_376 rfl ?_
  refine k_goto (q := 452) C dL_law_379 (by decide) ?_
  refine k_istore (q := 454) (fr2 := [(13, .int (nI (lowN (y >>> (3 &&& 31)) 6))), (12, .int (nI (lowN y 2))), (11, .int 2), (0, .ref sb), (1, .ref b0), (2, .ref (e 0)), (3, .ref (e 1)), (4, .ref (e 2)), (5, .ref (e 3)), (6, .ref (e 4)), (7, .ref (e 5)), (8, .int (nI i)), (9, .int x), (10, .int y)]) C dL_law_452 (by decide) rfl rfl ?_
  refine k_fr (fr2 := [(0, .ref sb), (1, .ref b0), (2, .ref (e 0)), (3, .ref (e 1)), (4, .ref (e 2)), (5, .ref (e 3)), (6, .ref (e 4)), (7, .ref (e 5)), (8, .int (nI i)), (9, .int x), (11, .int 2), (12, .int (nI (lowN y 2))), (13, .int (nI (lowN (y >>> (3 &&& 31)) 6)))]) ⟨[3, 4, 5, 6, 7, 8, 9, 10, 11, 12, 2, 1, 0], rfl⟩ ?_
  exact G _ _ (lowN_lt (by decide)) (lowN_lt (by decide))
set_option maxHeartbeats 4000000 in
set_option maxRecDepth 100000 in
theorem lw_k3 {cy : Nat → ClassId} {X : kX} (hR : xR X = room_1) (C : kC X 17 RL cL_law wsL_law cy) {w : va_W} {ce sl : Nat} (hcs : ce ≤ 600130 ∧ sl ≤ 7301080) {sb : Nat} {e : Nat → Nat} {b0 i : Nat} {x y : Int32} (G : ∀ (j : Nat) (v : Int32), j < 2 → kG X 17 ce sl w 454 [(0, .ref sb), (1, .ref b0), (2, .ref (e 0)), (3, .ref (e 1)), (4, .ref (e 2)), (5, .ref (e 3)), (6, .ref (e 4)), (7, .ref (e 5)), (8, .int (nI i)), (9, .int x), (11, .int 3), (12, .int (nI j)), (13, .int v)] []) : kG X 17 ce sl w 227 [(11, .int 3), (0, .ref sb), (1, .ref b0), (2, .ref (e 0)), (3, .ref (e 1)), (4, .ref (e 2)), (5, .ref (e 3)), (6, .ref (e 4)), (7, .ref (e 5)), (8, .int (nI i)), (9, .int x), (10, .int y)] [] := by
  refine k_iload (q := 229) C 0 dL_law_227 rfl rfl ?_
  refine k_if_ne (tgt := 264) (q := 232) C dL_law_229 (by decide) rfl (fun _ => ?_) (fun h => absurd h (by decide +kernel))
  refine k_iload (q := 266) C 0 dL_law_264 rfl rfl ?_
  refine k_iconst (q := 267) (v := 5) C dL_law_266 (by decide +kernel) rfl ?_
  refine k_icmp_ne (tgt := 279) (q := 270) C dL_law_267 (by decide) rfl (fun _ => ?_) (fun h => absurd h (by decide +kernel))
  refine k_iload (q := 281) C 0 dL_law_279 rfl rfl ?_
  refine k_bipush (q := 283) (v := 6) C dL_law_281 (by decide +kernel) rfl ?_
  refine k_icmp_ne (tgt := 296) (q := 286) C dL_law_283 (by decide) rfl (fun _ => ?_) (fun h => absurd h (by decide +kernel))
  refine k_iload (q := 298) C 0 dL_law_296 rfl rfl ?_
  refine k_bipush (q := 300) (v := 7) C dL_law_298 (by decide +kernel) rfl ?_
  refine k_icmp_ne (tgt := 315) (q := 303) C dL_law_300 (by decide) rfl (fun _ => ?_) (fun h => absurd h (by decide +kernel))
  refine k_iload (q := 317) C 11 dL_law_315 rfl rfl ?_
  refine k_iconst (q := 318) (v := 2) C dL_law_317 (by decide +kernel) rfl ?_
  refine lw_low hR C (q := 321) hcs 2 (by decide +kernel) (by decide) (by decide) (Nat.le_of_ble_eq_true rfl) dL_law_318 rfl ?_
  refine k_istore (q := 323) (fr2 := [(12, .int (nI (lowN y 2))), (11, .int 3), (0, .ref sb), (1, .ref b0), (2, .ref (e 0)), (3, .ref (e 1)), (4, .ref (e 2)), (5, .ref (e 3)), (6, .ref (e 4)), (7, .ref (e 5)), (8, .int (nI i)), (9, .int x), (10, .int y)]) C dL_law_321 (by decide) rfl rfl ?_
  refine k_iload (q := 325) C 1 dL_law_323 rfl rfl ?_
  refine k_if_ne (tgt := 343) (q := 328) C dL_law_325 (by decide) rfl (fun _ => ?_) (fun h => absurd h (by decide +kernel))
  refine k_iload (q := 345) C 1 dL_law_343 rfl rfl ?_
  refine k_iconst (q := 346) (v := 1) C dL_law_345 (by decide +kernel) rfl ?_
  refine k_icmp_ne (tgt := 364) (q := 349) C dL_law_346 (by decide) rfl (fun _ => ?_) (fun h => absurd h (by decide +kernel))
  refine k_iload (q := 366) C 1 dL_law_364 rfl rfl ?_
  refine k_iconst (q := 367) (v := 2) C dL_law_366 (by decide +kernel) rfl ?_
  refine k_icmp_ne (tgt := 382) (q := 370) C dL_law_367 (by decide) rfl (fun _ => ?_) (fun h => absurd h (by decide +kernel))
  exact lw_v hR C hcs (fun v => G _ v (lowN_lt (by decide)))
set_option maxHeartbeats 4000000 in
set_option maxRecDepth 100000 in
theorem lw_k4 {cy : Nat → ClassId} {X : kX} (hR : xR X = room_1) (C : kC X 17 RL cL_law wsL_law cy) {w : va_W} {ce sl : Nat} (hcs : ce ≤ 600130 ∧ sl ≤ 7301080) {sb : Nat} {e : Nat → Nat} {b0 i : Nat} {x y : Int32} (G : ∀ (j : Nat) (v : Int32), j < 2 → kG X 17 ce sl w 454 [(0, .ref sb), (1, .ref b0), (2, .ref (e 0)), (3, .ref (e 1)), (4, .ref (e 2)), (5, .ref (e 3)), (6, .ref (e 4)), (7, .ref (e 5)), (8, .int (nI i)), (9, .int x), (11, .int 4), (12, .int (nI j)), (13, .int v)] []) : kG X 17 ce sl w 227 [(11, .int 4), (0, .ref sb), (1, .ref b0), (2, .ref (e 0)), (3, .ref (e 1)), (4, .ref (e 2)), (5, .ref (e 3)), (6, .ref (e 4)), (7, .ref (e 5)), (8, .int (nI i)), (9, .int x), (10, .int y)] [] := by
  refine k_iload (q := 229) C 0 dL_law_227 rfl rfl ?_
  refine k_if_ne (tgt := 264) (q := 232) C dL_law_229 (by decide) rfl (fun _ => ?_) (fun h => absurd h (by decide +kernel))
  refine k_iload (q := 266) C 0 dL_law_264 rfl rfl ?_
  refine k_iconst (q := 267) (v := 5) C dL_law_266 (by decide +kernel) rfl ?_
  refine k_icmp_ne (tgt := 279) (q := 270) C dL_law_267 (by decide) rfl (fun _ => ?_) (fun h => absurd h (by decide +kernel))
  refine k_iload (q := 281) C 0 dL_law_279 rfl rfl ?_
  refine k_bipush (q := 283) (v := 6) C dL_law_281 (by decide +kernel) rfl ?_
  refine k_icmp_ne (tgt := 296) (q := 286) C dL_law_283 (by decide) rfl (fun _ => ?_) (fun h => absurd h (by decide +kernel))
  refine k_iload (q := 298) C 0 dL_law_296 rfl rfl ?_
  refine k_bipush (q := 300) (v := 7) C dL_law_298 (by decide +kernel) rfl ?_
  refine k_icmp_ne (tgt := 315) (q := 303) C dL_law_300 (by decide) rfl (fun _ => ?_) (fun h => absurd h (by decide +kernel))
  refine k_iload (q := 317) C 11 dL_law_315 rfl rfl ?_
  refine k_iconst (q := 318) (v := 2) C dL_law_317 (by decide +kernel) rfl ?_
  refine lw_low hR C (q := 321) hcs 2 (by decide +kernel) (by decide) (by decide) (Nat.le_of_ble_eq_true rfl) dL_law_318 rfl ?_
  refine k_istore (q := 323) (fr2 := [(12, .int (nI (lowN y 2))), (11, .int 4), (0, .ref sb), (1, .ref b0), (2, .ref (e 0)), (3, .ref (e 1)), (4, .ref (e 2)), (5, .ref (e 3)), (6, .ref (e 4)), (7, .ref (e 5)), (8, .int (nI i)), (9, .int x), (10, .int y)]) C dL_law_321 (by decide) rfl rfl ?_
  refine k_iload (q := 325) C 1 dL_law_323 rfl rfl ?_
  refine k_if_ne (tgt := 343) (q := 328) C dL_law_325 (by decide) rfl (fun _ => ?_) (fun h => absurd h (by decide +kernel))
  refine k_iload (q := 345) C 1 dL_law_343 rfl rfl ?_
  refine k_iconst (q := 346) (v := 1) C dL_law_345 (by decide +kernel) rfl ?_
  refine k_icmp_ne (tgt := 364) (q := 349) C dL_law_346 (by decide) rfl (fun _ => ?_) (fun h => absurd h (by decide +kernel))
  refine k_iload (q := 366) C 1 dL_law_364 rfl rfl ?_
  refine k_iconst (q := 367) (v := 2) C dL_law_366 (by decide +kernel) rfl ?_
  refine k_icmp_ne (tgt := 382) (q := 370) C dL_law_367 (by decide) rfl (fun _ => ?_) (fun h => absurd h (by decide +kernel))
  exact lw_v hR C hcs (fun v => G _ v (lowN_lt (by decide)))
set_option maxHeartbeats 4000000 in
set_option maxRecDepth 100000 in
theorem lw_k6 {cy : Nat → ClassId} {X : kX} (hR : xR X = room_1) (C : kC X 17 RL cL_law wsL_law cy) {w : va_W} {ce sl : Nat} (hcs : ce ≤ 600130 ∧ sl ≤ 7301080) {sb : Nat} {e : Nat → Nat} {b0 i : Nat} {x y : Int32} (G : ∀ (j : Nat) (v : Int32), j < 6 → kG X 17 ce sl w 454 [(0, .ref sb), (1, .ref b0), (2, .ref (e 0)), (3, .ref (e 1)), (4, .ref (e 2)), (5, .ref (e 3)), (6, .ref (e 4)), (7, .ref (e 5)), (8, .int (nI i)), (9, .int x), (11, .int 6), (12, .int (nI j)), (13, .int v)] []) : kG X 17 ce sl w 227 [(11, .int 6), (0, .ref sb), (1, .ref b0), (2, .ref (e 0)), (3, .ref (e 1)), (4, .ref (e 2)), (5, .ref (e 3)), (6, .ref (e 4)), (7, .ref (e 5)), (8, .int (nI i)), (9, .int x), (10, .int y)] [] := by
  refine k_iload (q := 229) C 0 dL_law_227 rfl rfl ?_
  refine k_if_ne (tgt := 264) (q := 232) C dL_law_229 (by decide) rfl (fun _ => ?_) (fun h => absurd h (by decide +kernel))
  refine k_iload (q := 266) C 0 dL_law_264 rfl rfl ?_
  refine k_iconst (q := 267) (v := 5) C dL_law_266 (by decide +kernel) rfl ?_
  refine k_icmp_ne (tgt := 279) (q := 270) C dL_law_267 (by decide) rfl (fun _ => ?_) (fun h => absurd h (by decide +kernel))
  refine k_iload (q := 281) C 0 dL_law_279 rfl rfl ?_
  refine k_bipush (q := 283) (v := 6) C dL_law_281 (by decide +kernel) rfl ?_
  refine k_icmp_ne (tgt := 296) (q := 286) C dL_law_283 (by decide) rfl (fun h => absurd h (by decide +kernel)) (fun _ => ?_)
  refine k_iload (q := 288) C 11 dL_law_286 rfl rfl ?_
  refine k_bipush (q := 290) (v := 6) C dL_law_288 (by decide +kernel) rfl ?_
  refine lw_low hR C (q := 293) hcs 6 (by decide +kernel) (by decide) (by decide) (Nat.le_of_ble_eq_true rfl) dL_law_290 rfl ?_
  refine k_goto (q := 321) C dL_law_293 (by decide) ?_
  refine k_istore (q := 323) (fr2 := [(12, .int (nI (lowN y 6))), (11, .int 6), (0, .ref sb), (1, .ref b0), (2, .ref (e 0)), (3, .ref (e 1)), (4, .ref (e 2)), (5, .ref (e 3)), (6, .ref (e 4)), (7, .ref (e 5)), (8, .int (nI i)), (9, .int x), (10, .int y)]) C dL_law_321 (by decide) rfl rfl ?_
  refine k_iload (q := 325) C 1 dL_law_323 rfl rfl ?_
  refine k_if_ne (tgt := 343) (q := 328) C dL_law_325 (by decide) rfl (fun _ => ?_) (fun h => absurd h (by decide +kernel))
  refine k_iload (q := 345) C 1 dL_law_343 rfl rfl ?_
  refine k_iconst (q := 346) (v := 1) C dL_law_345 (by decide +kernel) rfl ?_
  refine k_icmp_ne (tgt := 364) (q := 349) C dL_law_346 (by decide) rfl (fun _ => ?_) (fun h => absurd h (by decide +kernel))
  refine k_iload (q := 366) C 1 dL_law_364 rfl rfl ?_
  refine k_iconst (q := 367) (v := 2) C dL_law_366 (by decide +kernel) rfl ?_
  refine k_icmp_ne (tgt := 382) (q := 370) C dL_law_367 (by decide) rfl (fun _ => ?_) (fun h => absurd h (by decide +kernel))
  exact lw_v hR C hcs (fun v => G _ v (lowN_lt (by decide)))
set_option maxHeartbeats 4000000 in
set_option maxRecDepth 100000 in
theorem lw_k7 {cy : Nat → ClassId} {X : kX} (hR : xR X = room_1) (C : kC X 17 RL cL_law wsL_law cy) {w : va_W} {ce sl : Nat} (hcs : ce ≤ 600130 ∧ sl ≤ 7301080) {sb : Nat} {e : Nat → Nat} {b0 i : Nat} {x y : Int32} (G : ∀ (u v : Int32), (1 ≤ u ∧ u ≤ 100) → kG X 17 ce sl w 454 [(0, .ref sb), (1, .ref b0), (2, .ref (e 0)), (3, .ref (e 1)), (4, .ref (e 2)), (5, .ref (e 3)), (6, .ref (e 4)), (7, .ref (e 5)), (8, .int (nI i)), (9, .int x), (11, .int 7), (12, .int u), (13, .int v)] []) : kG X 17 ce sl w 227 [(11, .int 7), (0, .ref sb), (1, .ref b0), (2, .ref (e 0)), (3, .ref (e 1)), (4, .ref (e 2)), (5, .ref (e 3)), (6, .ref (e 4)), (7, .ref (e 5)), (8, .int (nI i)), (9, .int x), (10, .int y)] [] := by
  refine k_iload (q := 229) C 0 dL_law_227 rfl rfl ?_
  refine k_if_ne (tgt := 264) (q := 232) C dL_law_229 (by decide) rfl (fun _ => ?_) (fun h => absurd h (by decide +kernel))
  refine k_iload (q := 266) C 0 dL_law_264 rfl rfl ?_
  refine k_iconst (q := 267) (v := 5) C dL_law_266 (by decide +kernel) rfl ?_
  refine k_icmp_ne (tgt := 279) (q := 270) C dL_law_267 (by decide) rfl (fun _ => ?_) (fun h => absurd h (by decide +kernel))
  refine k_iload (q := 281) C 0 dL_law_279 rfl rfl ?_
  refine k_bipush (q := 283) (v := 6) C dL_law_281 (by decide +kernel) rfl ?_
  refine k_icmp_ne (tgt := 296) (q := 286) C dL_law_283 (by decide) rfl (fun _ => ?_) (fun h => absurd h (by decide +kernel))
  refine k_iload (q := 298) C 0 dL_law_296 rfl rfl ?_
  refine k_bipush (q := 300) (v := 7) C dL_law_298 (by decide +kernel) rfl ?_
  refine k_icmp_ne (tgt := 315) (q := 303) C dL_law_300 (by decide) rfl (fun h => absurd h (by decide +kernel)) (fun _ => ?_)
  refine k_iconst (q := 304) (v := 1) C dL_law_303 (by decide +kernel) rfl ?_
  refine k_iload (q := 306) C 11 dL_law_304 rfl rfl ?_
  refine k_bipush (q := 308) (v := 30) C dL_law_306 (by decide +kernel) rfl ?_
  refine lw_low hR C (q := 311) hcs 30 (by decide +kernel) (by decide) (by decide) (Nat.le_of_ble_eq_true rfl) dL_law_308 rfl ?_
  refine k_iadd (q := 312) C dL_law_311 rfl ?_
  refine k_goto (q := 321) C dL_law_312 (by decide) ?_
  refine k_istore (q := 323) (fr2 := [(12, .int ((1 : Int32) + (nI (lowN y 30)))), (11, .int 7), (0, .ref sb), (1, .ref b0), (2, .ref (e 0)), (3, .ref (e 1)), (4, .ref (e 2)), (5, .ref (e 3)), (6, .ref (e 4)), (7, .ref (e 5)), (8, .int (nI i)), (9, .int x), (10, .int y)]) C dL_law_321 (by decide) rfl rfl ?_
  refine k_iload (q := 325) C 1 dL_law_323 rfl rfl ?_
  refine k_if_ne (tgt := 343) (q := 328) C dL_law_325 (by decide) rfl (fun _ => ?_) (fun h => absurd h (by decide +kernel))
  refine k_iload (q := 345) C 1 dL_law_343 rfl rfl ?_
  refine k_iconst (q := 346) (v := 1) C dL_law_345 (by decide +kernel) rfl ?_
  refine k_icmp_ne (tgt := 364) (q := 349) C dL_law_346 (by decide) rfl (fun _ => ?_) (fun h => absurd h (by decide +kernel))
  refine k_iload (q := 366) C 1 dL_law_364 rfl rfl ?_
  refine k_iconst (q := 367) (v := 2) C dL_law_366 (by decide +kernel) rfl ?_
  refine k_icmp_ne (tgt := 382) (q := 370) C dL_law_367 (by decide) rfl (fun _ => ?_) (fun h => absurd h (by decide +kernel))
  exact lw_v hR C hcs (fun v => G _ v (lw_bd (k := 1 + lowN y 30) (lo := 1) (hi := 100) (nI_add 1 _) (by decide +kernel) (by decide +kernel) (by have := lowN_lt (v := y) (m := 30) (by decide); omega) (by decide)))
set_option maxHeartbeats 4000000 in
set_option maxRecDepth 100000 in
theorem lw_k5 {cy : Nat → ClassId} {X : kX} (hR : xR X = room_1) (C : kC X 17 RL cL_law wsL_law cy) {w : va_W} {ce sl : Nat} (hcs : ce ≤ 600130 ∧ sl ≤ 7301080) {sb : Nat} {e : Nat → Nat} {b0 i : Nat} {x y : Int32} (G : ∀ (j : Nat) (v : Int32), j < 4 → (mLeast j ≤ v ∧ v ≤ mMost j) → kG X 17 ce sl w 454 [(0, .ref sb), (1, .ref b0), (2, .ref (e 0)), (3, .ref (e 1)), (4, .ref (e 2)), (5, .ref (e 3)), (6, .ref (e 4)), (7, .ref (e 5)), (8, .int (nI i)), (9, .int x), (11, .int 5), (12, .int (nI j)), (13, .int v)] []) : kG X 17 ce sl w 227 [(11, .int 5), (0, .ref sb), (1, .ref b0), (2, .ref (e 0)), (3, .ref (e 1)), (4, .ref (e 2)), (5, .ref (e 3)), (6, .ref (e 4)), (7, .ref (e 5)), (8, .int (nI i)), (9, .int x), (10, .int y)] [] := by
  refine k_iload (q := 229) C 0 dL_law_227 rfl rfl ?_
  refine k_if_ne (tgt := 264) (q := 232) C dL_law_229 (by decide) rfl (fun _ => ?_) (fun h => absurd h (by decide +kernel))
  refine k_iload (q := 266) C 0 dL_law_264 rfl rfl ?_
  refine k_iconst (q := 267) (v := 5) C dL_law_266 (by decide +kernel) rfl ?_
  refine k_icmp_ne (tgt := 279) (q := 270) C dL_law_267 (by decide) rfl (fun h => absurd h (by decide +kernel)) (fun _ => ?_)
  refine k_iload (q := 272) C 11 dL_law_270 rfl rfl ?_
  refine k_iconst (q := 273) (v := 4) C dL_law_272 (by decide +kernel) rfl ?_
  refine lw_low hR C (q := 276) hcs 4 (by decide +kernel) (by decide) (by decide) (Nat.le_of_ble_eq_true rfl) dL_law_273 rfl ?_
  refine k_goto (q := 321) C dL_law_276 (by decide) ?_
  refine k_istore (q := 323) (fr2 := [(12, .int (nI (lowN y 4))), (11, .int 5), (0, .ref sb), (1, .ref b0), (2, .ref (e 0)), (3, .ref (e 1)), (4, .ref (e 2)), (5, .ref (e 3)), (6, .ref (e 4)), (7, .ref (e 5)), (8, .int (nI i)), (9, .int x), (10, .int y)]) C dL_law_321 (by decide) rfl rfl ?_
  have hj : lowN y 4 < 4 := lowN_lt (by decide)
  generalize lowN y 4 = j at hj ⊢
  rcases (show j = 0 ∨ j = 1 ∨ j = 2 ∨ j = 3 by omega) with rfl | rfl | rfl | rfl
  · skip
    refine k_iload (q := 325) C 1 dL_law_323 rfl rfl ?_
    refine k_if_ne (tgt := 343) (q := 328) C dL_law_325 (by decide) rfl (fun _ => ?_) (fun h => absurd h (by decide +kernel))
    refine k_iload (q := 345) C 1 dL_law_343 rfl rfl ?_
    refine k_iconst (q := 346) (v := 1) C dL_law_345 (by decide +kernel) rfl ?_
    refine k_icmp_ne (tgt := 364) (q := 349) C dL_law_346 (by decide) rfl (fun _ => ?_) (fun h => absurd h (by decide +kernel))
    refine k_iload (q := 366) C 1 dL_law_364 rfl rfl ?_
    refine k_iconst (q := 367) (v := 2) C dL_law_366 (by decide +kernel) rfl ?_
    refine k_icmp_ne (tgt := 382) (q := 370) C dL_law_367 (by decide) rfl (fun _ => ?_) (fun h => absurd h (by decide +kernel))
    refine k_iload (q := 384) C 0 dL_law_382 rfl rfl ?_
    refine k_if_ne (tgt := 403) (q := 387) C dL_law_384 (by decide) rfl (fun h => absurd h (by decide +kernel)) (fun _ => ?_)
    refine k_bipush (q := 389) (v := 50) C dL_law_387 (by decide +kernel) rfl ?_
    refine k_iload (q := 391) C 12 dL_law_389 rfl rfl ?_
    refine k_iconst (q := 392) (v := 3) C dL_law_391 (by decide +kernel) rfl ?_
    refine k_ishr (q := 393) C dL_law_392 rfl ?_
    refine k_sipush (q := 396) (v := 951) C dL_law_393 (by decide +kernel) rfl ?_
    refine lw_low hR C (q := 399) hcs 951 (by decide +kernel) (by decide) (by decide) (Nat.le_of_ble_eq_true rfl) dL_law_396 rfl ?_
    refine k_iadd (q := 400) C dL_law_399 rfl ?_
    refine k_goto (q := 452) C dL_law_400 (by decide) ?_
    refine k_istore (q := 454) (fr2 := [(13, .int ((50 : Int32) + (nI (lowN (y >>> (3 &&& 31)) 951)))), (12, .int (nI 0)), (11, .int 5), (0, .ref sb), (1, .ref b0), (2, .ref (e 0)), (3, .ref (e 1)), (4, .ref (e 2)), (5, .ref (e 3)), (6, .ref (e 4)), (7, .ref (e 5)), (8, .int (nI i)), (9, .int x), (10, .int y)]) C dL_law_452 (by decide) rfl rfl ?_
    refine k_fr (fr2 := [(0, .ref sb), (1, .ref b0), (2, .ref (e 0)), (3, .ref (e 1)), (4, .ref (e 2)), (5, .ref (e 3)), (6, .ref (e 4)), (7, .ref (e 5)), (8, .int (nI i)), (9, .int x), (11, .int 5), (12, .int (nI 0)), (13, .int ((50 : Int32) + (nI (lowN (y >>> (3 &&& 31)) 951))))]) ⟨[3, 4, 5, 6, 7, 8, 9, 10, 11, 12, 2, 1, 0], rfl⟩ ?_
    exact G 0 _ (by decide) (show (50 : Int32) ≤ _ ∧ _ ≤ (1000 : Int32) from (lw_bd (k := 50 + lowN (y >>> (3 &&& 31)) 951) (lo := 50) (hi := 1000) (nI_add 50 _) (by decide +kernel) (by decide +kernel) (by have := lowN_lt (v := (y >>> (3 &&& 31))) (m := 951) (by decide); omega) (by decide)))
  · skip
    refine k_iload (q := 325) C 1 dL_law_323 rfl rfl ?_
    refine k_if_ne (tgt := 343) (q := 328) C dL_law_325 (by decide) rfl (fun _ => ?_) (fun h => absurd h (by decide +kernel))
    refine k_iload (q := 345) C 1 dL_law_343 rfl rfl ?_
    refine k_iconst (q := 346) (v := 1) C dL_law_345 (by decide +kernel) rfl ?_
    refine k_icmp_ne (tgt := 364) (q := 349) C dL_law_346 (by decide) rfl (fun _ => ?_) (fun h => absurd h (by decide +kernel))
    refine k_iload (q := 366) C 1 dL_law_364 rfl rfl ?_
    refine k_iconst (q := 367) (v := 2) C dL_law_366 (by decide +kernel) rfl ?_
    refine k_icmp_ne (tgt := 382) (q := 370) C dL_law_367 (by decide) rfl (fun _ => ?_) (fun h => absurd h (by decide +kernel))
    refine k_iload (q := 384) C 0 dL_law_382 rfl rfl ?_
    refine k_if_ne (tgt := 403) (q := 387) C dL_law_384 (by decide) rfl (fun _ => ?_) (fun h => absurd h (by decide +kernel))
    refine k_iload (q := 405) C 0 dL_law_403 rfl rfl ?_
    refine k_iconst (q := 406) (v := 1) C dL_law_405 (by decide +kernel) rfl ?_
    refine k_icmp_ne (tgt := 422) (q := 409) C dL_law_406 (by decide) rfl (fun h => absurd h (by decide +kernel)) (fun _ => ?_)
    refine k_iload (q := 411) C 12 dL_law_409 rfl rfl ?_
    refine k_iconst (q := 412) (v := 3) C dL_law_411 (by decide +kernel) rfl ?_
    refine k_ishr (q := 413) C dL_law_412 rfl ?_
    refine k_sipush (q := 416) (v := 1001) C dL_law_413 (by decide +kernel) rfl ?_
    refine lw_low hR C (q := 419) hcs 1001 (by decide +kernel) (by decide) (by decide) (Nat.le_of_ble_eq_true rfl) dL_law_416 rfl ?_
    refine k_goto (q := 452) C dL_law_419 (by decide) ?_
    refine k_istore (q := 454) (fr2 := [(13, .int (nI (lowN (y >>> (3 &&& 31)) 1001))), (12, .int (nI 1)), (11, .int 5), (0, .ref sb), (1, .ref b0), (2, .ref (e 0)), (3, .ref (e 1)), (4, .ref (e 2)), (5, .ref (e 3)), (6, .ref (e 4)), (7, .ref (e 5)), (8, .int (nI i)), (9, .int x), (10, .int y)]) C dL_law_452 (by decide) rfl rfl ?_
    refine k_fr (fr2 := [(0, .ref sb), (1, .ref b0), (2, .ref (e 0)), (3, .ref (e 1)), (4, .ref (e 2)), (5, .ref (e 3)), (6, .ref (e 4)), (7, .ref (e 5)), (8, .int (nI i)), (9, .int x), (11, .int 5), (12, .int (nI 1)), (13, .int (nI (lowN (y >>> (3 &&& 31)) 1001)))]) ⟨[3, 4, 5, 6, 7, 8, 9, 10, 11, 12, 2, 1, 0], rfl⟩ ?_
    exact G 1 _ (by decide) (show (0 : Int32) ≤ _ ∧ _ ≤ (1000 : Int32) from (lw_bd (k := lowN (y >>> (3 &&& 31)) 1001) (lo := 0) (hi := 1000) rfl (by decide +kernel) (by decide +kernel) (by have := lowN_lt (v := (y >>> (3 &&& 31))) (m := 1001) (by decide); omega) (by decide)))
  · skip
    refine k_iload (q := 325) C 1 dL_law_323 rfl rfl ?_
    refine k_if_ne (tgt := 343) (q := 328) C dL_law_325 (by decide) rfl (fun _ => ?_) (fun h => absurd h (by decide +kernel))
    refine k_iload (q := 345) C 1 dL_law_343 rfl rfl ?_
    refine k_iconst (q := 346) (v := 1) C dL_law_345 (by decide +kernel) rfl ?_
    refine k_icmp_ne (tgt := 364) (q := 349) C dL_law_346 (by decide) rfl (fun _ => ?_) (fun h => absurd h (by decide +kernel))
    refine k_iload (q := 366) C 1 dL_law_364 rfl rfl ?_
    refine k_iconst (q := 367) (v := 2) C dL_law_366 (by decide +kernel) rfl ?_
    refine k_icmp_ne (tgt := 382) (q := 370) C dL_law_367 (by decide) rfl (fun _ => ?_) (fun h => absurd h (by decide +kernel))
    refine k_iload (q := 384) C 0 dL_law_382 rfl rfl ?_
    refine k_if_ne (tgt := 403) (q := 387) C dL_law_384 (by decide) rfl (fun _ => ?_) (fun h => absurd h (by decide +kernel))
    refine k_iload (q := 405) C 0 dL_law_403 rfl rfl ?_
    refine k_iconst (q := 406) (v := 1) C dL_law_405 (by decide +kernel) rfl ?_
    refine k_icmp_ne (tgt := 422) (q := 409) C dL_law_406 (by decide) rfl (fun _ => ?_) (fun h => absurd h (by decide +kernel))
    refine k_iload (q := 424) C 0 dL_law_422 rfl rfl ?_
    refine k_iconst (q := 425) (v := 2) C dL_law_424 (by decide +kernel) rfl ?_
    refine k_icmp_ne (tgt := 443) (q := 428) C dL_law_425 (by decide) rfl (fun h => absurd h (by decide +kernel)) (fun _ => ?_)
    refine k_iconst (q := 429) (v := 1) C dL_law_428 (by decide +kernel) rfl ?_
    refine k_iload (q := 431) C 12 dL_law_429 rfl rfl ?_
    refine k_iconst (q := 432) (v := 3) C dL_law_431 (by decide +kernel) rfl ?_
    refine k_ishr (q := 433) C dL_law_432 rfl ?_
    refine k_sipush (q := 436) (v := 200) C dL_law_433 (by decide +kernel) rfl ?_
    refine lw_low hR C (q := 439) hcs 200 (by decide +kernel) (by decide) (by decide) (Nat.le_of_ble_eq_true rfl) dL_law_436 rfl ?_
    refine k_iadd (q := 440) C dL_law_439 rfl ?_
    refine k_goto (q := 452) C dL_law_440 (by decide) ?_
    refine k_istore (q := 454) (fr2 := [(13, .int ((1 : Int32) + (nI (lowN (y >>> (3 &&& 31)) 200)))), (12, .int (nI 2)), (11, .int 5), (0, .ref sb), (1, .ref b0), (2, .ref (e 0)), (3, .ref (e 1)), (4, .ref (e 2)), (5, .ref (e 3)), (6, .ref (e 4)), (7, .ref (e 5)), (8, .int (nI i)), (9, .int x), (10, .int y)]) C dL_law_452 (by decide) rfl rfl ?_
    refine k_fr (fr2 := [(0, .ref sb), (1, .ref b0), (2, .ref (e 0)), (3, .ref (e 1)), (4, .ref (e 2)), (5, .ref (e 3)), (6, .ref (e 4)), (7, .ref (e 5)), (8, .int (nI i)), (9, .int x), (11, .int 5), (12, .int (nI 2)), (13, .int ((1 : Int32) + (nI (lowN (y >>> (3 &&& 31)) 200))))]) ⟨[3, 4, 5, 6, 7, 8, 9, 10, 11, 12, 2, 1, 0], rfl⟩ ?_
    exact G 2 _ (by decide) (show (1 : Int32) ≤ _ ∧ _ ≤ (500 : Int32) from (lw_bd (k := 1 + lowN (y >>> (3 &&& 31)) 200) (lo := 1) (hi := 500) (nI_add 1 _) (by decide +kernel) (by decide +kernel) (by have := lowN_lt (v := (y >>> (3 &&& 31))) (m := 200) (by decide); omega) (by decide)))
  · skip
    refine k_iload (q := 325) C 1 dL_law_323 rfl rfl ?_
    refine k_if_ne (tgt := 343) (q := 328) C dL_law_325 (by decide) rfl (fun _ => ?_) (fun h => absurd h (by decide +kernel))
    refine k_iload (q := 345) C 1 dL_law_343 rfl rfl ?_
    refine k_iconst (q := 346) (v := 1) C dL_law_345 (by decide +kernel) rfl ?_
    refine k_icmp_ne (tgt := 364) (q := 349) C dL_law_346 (by decide) rfl (fun _ => ?_) (fun h => absurd h (by decide +kernel))
    refine k_iload (q := 366) C 1 dL_law_364 rfl rfl ?_
    refine k_iconst (q := 367) (v := 2) C dL_law_366 (by decide +kernel) rfl ?_
    refine k_icmp_ne (tgt := 382) (q := 370) C dL_law_367 (by decide) rfl (fun _ => ?_) (fun h => absurd h (by decide +kernel))
    refine k_iload (q := 384) C 0 dL_law_382 rfl rfl ?_
    refine k_if_ne (tgt := 403) (q := 387) C dL_law_384 (by decide) rfl (fun _ => ?_) (fun h => absurd h (by decide +kernel))
    refine k_iload (q := 405) C 0 dL_law_403 rfl rfl ?_
    refine k_iconst (q := 406) (v := 1) C dL_law_405 (by decide +kernel) rfl ?_
    refine k_icmp_ne (tgt := 422) (q := 409) C dL_law_406 (by decide) rfl (fun _ => ?_) (fun h => absurd h (by decide +kernel))
    refine k_iload (q := 424) C 0 dL_law_422 rfl rfl ?_
    refine k_iconst (q := 425) (v := 2) C dL_law_424 (by decide +kernel) rfl ?_
    refine k_icmp_ne (tgt := 443) (q := 428) C dL_law_425 (by decide) rfl (fun _ => ?_) (fun h => absurd h (by decide +kernel))
    refine k_iload (q := 445) C 12 dL_law_443 rfl rfl ?_
    refine k_iconst (q := 446) (v := 3) C dL_law_445 (by decide +kernel) rfl ?_
    refine k_ishr (q := 447) C dL_law_446 rfl ?_
    refine k_bipush (q := 449) (v := 101) C dL_law_447 (by decide +kernel) rfl ?_
    refine lw_low hR C (q := 452) hcs 101 (by decide +kernel) (by decide) (by decide) (Nat.le_of_ble_eq_true rfl) dL_law_449 rfl ?_
    refine k_istore (q := 454) (fr2 := [(13, .int (nI (lowN (y >>> (3 &&& 31)) 101))), (12, .int (nI 3)), (11, .int 5), (0, .ref sb), (1, .ref b0), (2, .ref (e 0)), (3, .ref (e 1)), (4, .ref (e 2)), (5, .ref (e 3)), (6, .ref (e 4)), (7, .ref (e 5)), (8, .int (nI i)), (9, .int x), (10, .int y)]) C dL_law_452 (by decide) rfl rfl ?_
    refine k_fr (fr2 := [(0, .ref sb), (1, .ref b0), (2, .ref (e 0)), (3, .ref (e 1)), (4, .ref (e 2)), (5, .ref (e 3)), (6, .ref (e 4)), (7, .ref (e 5)), (8, .int (nI i)), (9, .int x), (11, .int 5), (12, .int (nI 3)), (13, .int (nI (lowN (y >>> (3 &&& 31)) 101)))]) ⟨[3, 4, 5, 6, 7, 8, 9, 10, 11, 12, 2, 1, 0], rfl⟩ ?_
    exact G 3 _ (by decide) (show (0 : Int32) ≤ _ ∧ _ ≤ (100 : Int32) from (lw_bd (k := lowN (y >>> (3 &&& 31)) 101) (lo := 0) (hi := 100) rfl (by decide +kernel) (by decide +kernel) (by have := lowN_lt (v := (y >>> (3 &&& 31))) (m := 101) (by decide); omega) (by decide)))
set_option maxHeartbeats 4000000 in
set_option maxRecDepth 100000 in
theorem lw_step (cy : Nat → ClassId) (e a b : Nat → Nat) (r : Nat) (sk : Nat → Nat → Nat) (X : kX) (hR : xR X = room_1) (C : kC X 17 RL cL_law wsL_law cy) (Z : kZ (xA X) (xS X) (xS X).heap) (hst : (xL X).stackTraces = false) (s0 : State) (d0 : Drawn) (hs : xS X = s0.setDrawn d0) (hd0 : s0.drawn.sameBut d0 lw_cs) (sb i : Nat) (hi : i < 40) (x k9 u v : Int32) (ln : Nat) (ik : FI32) (bf : Nat → Nat) (kd hg nu dg : Nat) (ng tk : Bool) (M : SK) (bM rM : FI32) (ce sl ceE slE : Nat) (nx sn : Nat) (S : Nat → CK) (K : CK) (hnx : nx < 6) (hsn : sn ≤ 6) (hK : sRel K M) (hU : sUpw (kH M) (kN M)) (hSt : stepOk e cy a b r sk M k9 u v) (hce : ce + 66 ≤ ceE ∧ sl + 396 ≤ slE ∧ ceE ≤ 600130 ∧ slE ≤ 7301080) (E : ∀ d, s0.drawn.sameBut d lw_cs → lwE (kXs X (s0.setDrawn d)) cy e a b r sk sb (i + 1) ceE slE) : kG X 17 ce sl ((wLa e cy (qSt (kN M) (kO M) (kS M) (kGs M) (kK M) (kLo M) (kLf M)) (kH M) (kT2 M) (kNm M) bM rM) ++ ((wXo b cy (a 0) r nx sn ln (svOf sk) (kpOf sk) ik bf ++ wRd r kd hg nu dg ng tk) ++ (wSky a cy (qN K) (qLit K) (qH K) (qT K) (qS K) (qG K) (qK K) (qLo K) (qLf K) (qNm K) ++ wOth sk cy S))) 454 [(0, .ref sb), (1, .ref (b 0)), (2, .ref (e 0)), (3, .ref (e 1)), (4, .ref (e 2)), (5, .ref (e 3)), (6, .ref (e 4)), (7, .ref (e 5)), (8, .int (nI i)), (9, .int x), (11, .int k9), (12, .int u), (13, .int v)] [] := by
  rcases hSt rM with ⟨M1, rM1, ans, h1, h2, h3, h4⟩ | ⟨ans, h1, h2, h3⟩
  · exact law_ok cy e a b r sk X hR C Z hst s0 d0 hs hd0 sb i hi x k9 u v ans ln ik bf kd hg nu dg ng tk M M1 bM rM rM1 ce sl ceE slE nx sn S K hnx hsn hK h3 h1 h4 h2 hce E
  · exact law_no cy e a b r sk X hR C Z hst s0 d0 hs hd0 sb i hi x k9 u v ans ln ik bf kd hg nu dg ng tk M bM rM ce sl ceE slE nx sn S K hnx hsn hK hU h1 h3 h2 hce E
set_option maxHeartbeats 4000000 in
set_option maxRecDepth 100000 in
theorem lw_kd {a b : Nat → Nat} {r : Nat} {sk : Nat → Nat → Nat} {M : SK} {cy : Nat → ClassId} {X : kX} (hR : xR X = room_1) (C : kC X 17 RL cL_law wsL_law cy) {w : va_W} {ce sl : Nat} (hcs : ce ≤ 600130 ∧ sl ≤ 7301080) {sb : Nat} {e : Nat → Nat} {b0 i : Nat} {x y : Int32} (hI : kInv M) (hU : sUpw (kH M) (kN M)) (G : ∀ k9 u v : Int32, stepOk e cy a b r sk M k9 u v → kG X 17 ce sl w 454 [(0, .ref sb), (1, .ref b0), (2, .ref (e 0)), (3, .ref (e 1)), (4, .ref (e 2)), (5, .ref (e 3)), (6, .ref (e 4)), (7, .ref (e 5)), (8, .int (nI i)), (9, .int x), (11, .int k9), (12, .int u), (13, .int v)] []) {kk : Nat} (hk : kk < 8) : kG X 17 ce sl w 227 [(11, .int (nI kk)), (0, .ref sb), (1, .ref b0), (2, .ref (e 0)), (3, .ref (e 1)), (4, .ref (e 2)), (5, .ref (e 3)), (6, .ref (e 4)), (7, .ref (e 5)), (8, .int (nI i)), (9, .int x), (10, .int y)] [] := by
  rcases (show kk = 0 ∨ kk = 1 ∨ kk = 2 ∨ kk = 3 ∨ kk = 4 ∨ kk = 5 ∨ kk = 6 ∨ kk = 7 by omega) with rfl | rfl | rfl | rfl | rfl | rfl | rfl | rfl
  · exact lw_k0 hR C hcs (fun u v hu hv => G 0 u v (st_layer hI hU hu hv))
  · exact lw_k1 hR C hcs (fun j v hj hv => G 1 _ v (st_aim hI hU hj hv))
  · exact lw_k2 hR C hcs (fun j p hj hp => G 2 _ _ (st_scan hI hU hj hp))
  · exact lw_k3 hR C hcs (fun j v _ => G 3 _ v (st_log hI hU))
  · exact lw_k4 hR C hcs (fun j v hj => G 4 _ v (st_turn hI hU hj))
  · exact lw_k5 hR C hcs (fun j v hj hv => G 5 _ v (st_set hI hU hj hv))
  · exact lw_k6 hR C hcs (fun p v hp => G 6 _ v (st_clear hI hU hp))
  · exact lw_k7 hR C hcs (fun u v hu => G 7 u v (st_thin hI hU hu))
