abbrev rm_L_low : Room := { frames := 0, cells := 0, slots := 0, locals := 0 }
set_option maxHeartbeats 4000000 in
set_option maxRecDepth 100000 in
theorem c_L_low {cy : Nat → ClassId} (x : Int32) (m : Nat)  (hm : 0 < m) (hm2 : m < 2 ^ 31) : kI yL_low wsL_low rm_L_low cy [.int x, .int (nI m)] ([] : va_W) (nI (lowN x m)) ([] : va_W) := by
  refine kI_of (cc := cL_low) (maxL := 2) (rt := .int) (by decide) rfl (rfl) (Nat.le_of_ble_eq_true rfl) ?_
  intro X hR C E
  have C : kC X 2 RL cL_low wsL_low cy := C
  refine k_fr (fr2 := [(0, .int x), (1, .int (nI m))]) ⟨[0, 1], rfl⟩ ?_
  refine k_iload_n (q := 1) C 0 dL_low_0 rfl rfl ?_
  refine k_ldc (q := 3) (v := 2147483647) C (List.mem_of_getElem? (i := 1) rfl) dL_low_1 rfl ?_
  refine k_iand (q := 4) C dL_low_3 rfl ?_
  refine k_iload_n (q := 5) C 1 dL_low_4 rfl rfl ?_
  refine k_irem (q := 6) C dL_low_5 (nI_ne9 hm hm2) rfl ?_
  exact k_fin E dL_low_6 (low_eq x hm hm2) (rfl)
