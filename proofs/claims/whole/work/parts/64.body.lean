/-! the body of the law -/
theorem lx_0 : Cond.classLink RL 8 RX3 ∈ wsL_law := List.mem_of_getElem? (i := 0) (by decide +kernel)
theorem lx_1 : Cond.instantiable RX3 9 ∈ wsL_law := List.mem_of_getElem? (i := 1) (by decide +kernel)
theorem lx_2 : Cond.initialized RX3 ∈ wsL_law := List.mem_of_getElem? (i := 2) (by decide +kernel)
theorem lx_3 : Cond.classLink RL 77 RX4 ∈ wsL_law := List.mem_of_getElem? (i := 3) (by decide +kernel)
theorem lx_4 : Cond.instantiable RX4 15 ∈ wsL_law := List.mem_of_getElem? (i := 4) (by decide +kernel)
theorem lx_5 : Cond.initialized RX4 ∈ wsL_law := List.mem_of_getElem? (i := 5) (by decide +kernel)
theorem lx_6 : Cond.arrayClass .long ∈ wsL_law := List.mem_of_getElem? (i := 6) (by decide +kernel)
theorem lx_7 : Cond.methodLink RL 76 yX3_init ∈ wsL_law := List.mem_of_getElem? (i := 7) (by decide +kernel)
theorem lx_8 : Cond.instanceMethod yX3_init ∈ wsL_law := List.mem_of_getElem? (i := 8) (by decide +kernel)
theorem lx_9 : Cond.methodLink RL 79 yX4_init ∈ wsL_law := List.mem_of_getElem? (i := 51) (by decide +kernel)
theorem lx_10 : Cond.instanceMethod yX4_init ∈ wsL_law := List.mem_of_getElem? (i := 52) (by decide +kernel)
def F0s : FI32 := (upd (upd (upd (upd (upd (upd (upd (upd (fun _ => 0) 0 300) 1 100) 2 20) 3 10) 4 5) 5 (-5)) 6 1) 7 1)
/-- the reference's state at the start -/
def M0s : SK := mParts F0s 0 0
theorem M0s_ok : sRel cK0 M0s ∧ mStK M0s = F0s := rel_parts (f := F0s) sRel_0 (by decide +kernel)
theorem gR_0 : gR 0 0 0 (fun _ => 0) (fun _ => 0) cK0 (fun _ => cK0) 0 0 M0s (fun _ => 0) (fun _ => 0) (fun _ => 0) (fun _ => 0) :=
  ⟨M0s_ok.1, rfl, ⟨Nat.zero_le _, by decide, fun i hi => absurd hi (Nat.not_lt_zero i)⟩, fun j hj => ⟨rfl, fun h => absurd rfl h⟩, rfl, Nat.zero_le _, rfl, fun _ => Nat.zero_le _⟩
theorem ps_0 {o x y : va_W} : ((x ++ y) ++ o).Perm ((o ++ x) ++ y) := by
  rw [List.append_assoc o x y]
  exact List.perm_append_comm
set_option maxHeartbeats 4000000 in
set_option maxRecDepth 100000 in
theorem lw_body {cy : Nat → ClassId} (X : kX) (hR : xR X = room_1) (C : kC X 9 RL cL_law wsL_law cy) (Z : kZ (xA X) (xS X) (xS X).heap) (hst : (xL X).stackTraces = false) (hao : va_AO "CloudBeams$Sky" (xS X)) (s0 : State) (d0 : Drawn) (hs : xS X = s0.setDrawn d0) (hd0 : s0.drawn.sameBut d0 lw_cs) (sb L : Nat) (xs : Nat → Int32) (hX : va_X sb L xs (xS X) (xS X).heap) (hbl : sb < (xS X).heap.size) (hbA : ¬ (xA X) sb) (hL : L ≤ 2048)
    (Fin : ∀ (d : Drawn) (ce sl : Nat) (w : va_W) (fr : List (Nat × Value)), s0.drawn.sameBut d lw_cs → ce ≤ 620303 → sl ≤ 7235195 → kG (kXs X (s0.setDrawn d)) 9 ce sl w 1421 fr []) : kG X 9 0 0 [] 0 [(0, .ref sb)] [] := by
  refine k_new (q := 3) (ci := 3) (fs := [.null, .null, .int 0, .int 0, .null, .null, .null, .int 0, .null]) C inlX3 tyX3 tyX3_ok lx_0 lx_1 lx_2 rfl (fun j hj => by rcases (show j = 0 ∨ j = 1 ∨ j = 2 ∨ j = 3 ∨ j = 4 ∨ j = 5 ∨ j = 6 ∨ j = 7 ∨ j = 8 by omega) with rfl | rfl | rfl | rfl | rfl | rfl | rfl | rfl | rfl <;> rfl) (by rw [hR]; decide) dL_law_0 rfl (fun q0 => ?_)
  refine k_w (w2 := ([(q0, .inr (3, [.null, .null, .int 0, .int 0, .null, .null, .null, .int 0, .null]))] : va_W)) rfl ?_
  refine k_dup (q := 4) C dL_law_3 rfl rfl ?_
  refine k_callN (n := 0) (q := 7) (pre := ([] : va_W)) (post := ([] : va_W)) (w2 := fun u => ((wXo (fun k => if k = 0 then q0 else u.2.2.1 k) cy (u.2.1 0) u.2.2.2 0 0 0 (svOf u.1) (kpOf u.1) (fun _ => 0) (fun _ => 0) ++ wRd u.2.2.2 0 0 0 0 false false) ++ (wSkK u.2.1 cy cK0 ++ wOth u.1 cy (fun _ => cK0)))) (As := []) (rest := [.ref q0]) C hao (c_X3_init q0) gL_law_X3_init rfl rfl rfl lx_2 lx_7 lx_8 rfl (by decide +kernel) (by rw [hR]; decide) (by rw [hR]; decide) rfl rfl (Nat.le_of_ble_eq_true rfl) rfl (fun u => List.append_nil _) dL_law_4 rfl ?_
  rintro ⟨sk, a, b9, r⟩
  refine k_w (w2 := ((wXo (fun k => if k = 0 then q0 else b9 k) cy (a 0) r 0 0 0 (svOf sk) (kpOf sk) (fun _ => 0) (fun _ => 0) ++ wRd r 0 0 0 0 false false) ++ (wSkK a cy cK0 ++ wOth sk cy (fun _ => cK0)))) rfl ?_
  obtain ⟨w1, ew⟩ : ∃ w1 : va_W, w1 = ((wXo (fun k => if k = 0 then q0 else b9 k) cy (a 0) r 0 0 0 (svOf sk) (kpOf sk) (fun _ => 0) (fun _ => 0) ++ wRd r 0 0 0 0 false false) ++ (wSkK a cy cK0 ++ wOth sk cy (fun _ => cK0))) := ⟨_, rfl⟩
  refine k_w (w2 := w1) ew.symm ?_
  refine k_astore_n (q := 8) (fr2 := [(1, .ref q0), (0, .ref sb)]) C dL_law_7 (by decide) rfl rfl ?_
  refine k_new (q := 11) (ci := 4) (fs := [.int 0, .null, .null, .int 0, .null, .null, .null, .int 0, .int 0, .int 0, .int 0, .int 0, .null, .null, .null]) C inlX4 tyX4 tyX4_ok lx_3 lx_4 lx_5 rfl (fun j hj => by rcases (show j = 0 ∨ j = 1 ∨ j = 2 ∨ j = 3 ∨ j = 4 ∨ j = 5 ∨ j = 6 ∨ j = 7 ∨ j = 8 ∨ j = 9 ∨ j = 10 ∨ j = 11 ∨ j = 12 ∨ j = 13 ∨ j = 14 by omega) with rfl | rfl | rfl | rfl | rfl | rfl | rfl | rfl | rfl | rfl | rfl | rfl | rfl | rfl | rfl <;> rfl) (by rw [hR]; decide) dL_law_8 rfl (fun q8 => ?_)
  refine k_dup (q := 12) C dL_law_11 rfl rfl ?_
  refine k_callN (n := 0) (q := 15) (pre := w1) (post := ([] : va_W)) (w2 := fun u => w1 ++ ([(q8, .inr (4, [.int 0, .ref (u.1), .ref (u.2.1), .int 0, .ref (u.2.2.1), .ref (u.2.2.2.1), .ref (u.2.2.2.2.1), .int 0, .int 0, .int 0, .int 0, .int 0, .ref (u.2.2.2.2.2.1), .ref (u.2.2.2.2.2.2.1), .ref (u.2.2.2.2.2.2.2)])), ((u.1), .inl (cy 0, 56, .inl F0s)), ((u.2.1), .inl (cy 0, 336, .inl (fun _ => 0))), ((u.2.2.1), .inl (cy 0, 112, .inl (fun _ => 0))), ((u.2.2.2.1), .inl (cy 0, 2, .inl (fun _ => 0))), ((u.2.2.2.2.1), .inl (cy 0, 60, .inl (fun _ => 0))), ((u.2.2.2.2.2.1), .inl (cy 0, 12, .inl (fun _ => 0))), ((u.2.2.2.2.2.2.1), .inl (cy 0, 12, .inl (fun _ => 0))), ((u.2.2.2.2.2.2.2), .inl (cy 0, 4, .inl (fun _ => 0)))] : va_W)) (As := []) (rest := [.ref q8]) C hao (c_X4_init q8) gL_law_X4_init rfl rfl rfl lx_5 lx_9 lx_10 rfl (by decide +kernel) (by rw [hR]; decide) (by rw [hR]; decide) rfl rfl (Nat.le_of_ble_eq_true rfl) k_pre (fun u => k_pre.symm) dL_law_12 rfl ?_
  rintro ⟨u1, u2, u3, u4, u5, u6, u7, u8⟩
  refine k_w (w2 := w1 ++ ([(q8, .inr (4, [.int 0, .ref (u1), .ref (u2), .int 0, .ref (u3), .ref (u4), .ref (u5), .int 0, .int 0, .int 0, .int 0, .int 0, .ref (u6), .ref (u7), .ref (u8)])), ((u1), .inl (cy 0, 56, .inl F0s)), ((u2), .inl (cy 0, 336, .inl (fun _ => 0))), ((u3), .inl (cy 0, 112, .inl (fun _ => 0))), ((u4), .inl (cy 0, 2, .inl (fun _ => 0))), ((u5), .inl (cy 0, 60, .inl (fun _ => 0))), ((u6), .inl (cy 0, 12, .inl (fun _ => 0))), ((u7), .inl (cy 0, 12, .inl (fun _ => 0))), ((u8), .inl (cy 0, 4, .inl (fun _ => 0)))] : va_W)) rfl ?_
  refine k_astore_n (q := 16) (fr2 := [(2, .ref q8), (1, .ref q0), (0, .ref sb)]) C dL_law_15 (by decide) rfl rfl ?_
  refine k_iconst (q := 17) (v := 1) C dL_law_16 (by decide) rfl ?_
  refine k_newa (q := 19) (atype := .long) (cB := cy 4) (ty := .long) (a0 := (1, .inr (.inl (fun _ => 0)))) (N' := 1) C 4 rfl (fun _ h => h) lx_6 rfl (fun _ => rfl) (by decide) (by decide) (by decide) (by rw [hR]; decide) dL_law_17 rfl (fun ob => ?_)
  refine k_astore_n (q := 20) (fr2 := [(3, .ref ob), (2, .ref q8), (1, .ref q0), (0, .ref sb)]) C dL_law_19 (by decide) rfl rfl ?_
  refine k_iconst (q := 21) (v := 0) C dL_law_20 (by decide) rfl ?_
  refine k_istore (q := 23) (fr2 := [(4, .int (nI 0)), (3, .ref ob), (2, .ref q8), (1, .ref q0), (0, .ref sb)]) C dL_law_21 (by decide) rfl rfl ?_
  have key := lw_loop cy a (fun k => if k = 0 then q0 else b9 k) r sk ob (adr7 [q8, u1, u2, u3, u4, u5, u6, u7, u8]) X hR C Z hst s0 d0 hs sb L xs hX hbl hbA hL Fin 512 0 79 1244 (Nat.zero_le _) (by omega) (by decide) (by decide) d0 hd0
  rw [kXs_self hs] at key
  have key := key 0 0 0 (fun _ => cK0) (fun _ => 0) (fun _ => 0) 0 0 0 0 false false cK0 (fun _ => 0) 0 0 0 0 0 0 0 M0s (fun _ => 0) (fun _ => 0) (fun _ => 0) (fun _ => 0) (fun _ => 0) (fun _ => 0) (fun _ => 0) gR_0
  have e4 : wM (adr7 [q8, u1, u2, u3, u4, u5, u6, u7, u8]) cy 0 0 0 0 0 0 0 (mSt (kN M0s) (kO M0s) (kH M0s) (kT2 M0s) (kS M0s) (kGs M0s) (kK M0s) (kLo M0s) (kLf M0s) (kNm M0s)) (fun _ => 0) (fun _ => 0) (fun _ => 0) (fun _ => 0) (fun _ => 0) (fun _ => 0) (fun _ => 0) = ([(q8, .inr (4, [.int 0, .ref (u1), .ref (u2), .int 0, .ref (u3), .ref (u4), .ref (u5), .int 0, .int 0, .int 0, .int 0, .int 0, .ref (u6), .ref (u7), .ref (u8)])), ((u1), .inl (cy 0, 56, .inl F0s)), ((u2), .inl (cy 0, 336, .inl (fun _ => 0))), ((u3), .inl (cy 0, 112, .inl (fun _ => 0))), ((u4), .inl (cy 0, 2, .inl (fun _ => 0))), ((u5), .inl (cy 0, 60, .inl (fun _ => 0))), ((u6), .inl (cy 0, 12, .inl (fun _ => 0))), ((u7), .inl (cy 0, 12, .inl (fun _ => 0))), ((u8), .inl (cy 0, 4, .inl (fun _ => 0)))] : va_W) := by
    rw [show mSt (kN M0s) (kO M0s) (kH M0s) (kT2 M0s) (kS M0s) (kGs M0s) (kK M0s) (kLo M0s) (kLf M0s) (kNm M0s) = F0s from M0s_ok.2]
    rfl
  rw [e4] at key
  refine k_perm ps_0 ?_
  rw [ew]
  exact key
