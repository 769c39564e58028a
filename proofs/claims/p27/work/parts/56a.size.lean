abbrev rm_L_size : Room := { frames := 0, cells := 0, slots := 0, locals := 0 }
set_option maxHeartbeats 4000000 in
set_option maxRecDepth 100000 in
theorem c_L_size {cy : Nat → ClassId} (x : Int32)   : kI yL_size wsL_size rm_L_size cy [.int x] ([] : va_W) (mAbs x) ([] : va_W) := by
  refine kI_of (cc := cL_size) (maxL := 1) (rt := .int) (by decide) rfl (rfl) (Nat.le_of_ble_eq_true rfl) ?_
  intro X hR C E
  have C : kC X 1 RL cL_size wsL_size cy := C
  refine k_fr (fr2 := [(0, .int x)]) ⟨[0], rfl⟩ ?_
  refine k_iload_n (q := 1) C 0 dL_size_0 rfl rfl ?_
  refine k_if_ge (tgt := 9) (q := 4) C dL_size_1 (by decide) rfl ?_ ?_
  · intro c_1
    refine k_iload_n (q := 10) C 0 dL_size_9 rfl rfl ?_
    exact k_fin E dL_size_10 ((mAbs_sz x).2 (Int32.not_lt.mpr c_1)) (rfl)
  · intro c_1
    have c_1 := Int32.not_le.mp c_1
    refine k_iload_n (q := 5) C 0 dL_size_4 rfl rfl ?_
    refine k_ineg (q := 6) C dL_size_5 rfl ?_
    refine k_goto (q := 10) C dL_size_6 (by decide) ?_
    exact k_fin E dL_size_10 ((mAbs_sz x).1 c_1) (rfl)
