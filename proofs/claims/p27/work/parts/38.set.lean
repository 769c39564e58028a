abbrev rm_X3_set : Room := { frames := 5, cells := 0, slots := 0, locals := 115 }
theorem in0_X3_set : ∀ w ∈ wsX00, w ∈ wsX3_set := fun _ h => (List.mem_cons_of_mem _ (List.mem_append_left _ (List.mem_append_left _ (List.mem_append_right _ h))))
theorem in2_X3_set : ∀ w ∈ wsX20, w ∈ wsX3_set := fun _ h => (List.mem_cons_of_mem _ (List.mem_append_left _ (List.mem_append_left _ (List.mem_append_left _ (List.mem_append_right _ h)))))
theorem in3_X3_set : ∀ w ∈ wsX30, w ∈ wsX3_set := fun _ h => (List.mem_cons_of_mem _ (List.mem_append_left _ (List.mem_append_left _ (List.mem_append_left _ (List.mem_append_left _ (List.mem_append_right _ h))))))
set_option maxHeartbeats 4000000 in
set_option maxRecDepth 100000 in
theorem c_X3_set (cy : Nat → ClassId) (a : Nat → Nat) (b : Nat → Nat) (r : Nat) (nx : Nat) (sn : Nat) (ln : Nat) (sk : Nat → Nat → Nat) (S : Nat → CK) (ik : Nat → Int32) (bf : Nat → Nat) (kd : Nat) (hg : Nat) (nu : Nat) (dg : Nat) (ng : Bool) (tk : Bool) (n : Nat) (lit : Int32) (h : Nat → Int32) (t : Nat → Int32) (s : Nat → Int32) (g : Nat → Int32) (kn : Nat) (lo : Int32) (lf : Int32) (nm : Nat → Int32) (j : Nat) (y : Int32)  (hnx : nx < 6) (hsn : sn ≤ 6) (hj : j < 4) (hy : (mLeast j ≤ y ∧ y ≤ mMost j)) : kIz yX3_set wsX3_set rm_X3_set cy [.ref (b 0), .int (nI j), .int y] ((wXo b cy (a 0) r nx sn ln (svOf sk) (kpOf sk) ik bf ++ wRd r kd hg nu dg ng tk) ++ (wSky a cy n lit h t s g kn lo lf nm ++ wOth sk cy S)) (g j) ((wXo b cy (a 0) r ((nx + 1) % 6) (min (sn + 1) 6) ln (svOf sk) (kpOf sk) ik bf ++ wRd r kd hg nu dg ng tk) ++ (wSky a cy n lit h t s (upd g j y) kn lo lf nm ++ wOth sk cy (updS S nx (cLike (n, lit, h, t, s, g, kn, lo, lf, nm) (S nx))))) := by
  refine kIz_of (cc := cX3_set) (maxL := 4) (rt := .int) (by decide) rfl (rfl) (Nat.le_of_ble_eq_true rfl) ?_
  intro X hR C Z E
  obtain ⟨-, -, -, -, ⟨qa, zqa1, zqa2, zqa3, zqa4⟩, ⟨qb, zqb1, zqb2, zqb3, zqb4⟩, -⟩ := id Z
  have C : kC X 4 RX3 cX3_set wsX3_set cy := C
  refine k_fr (fr2 := [(0, .ref (b 0)), (1, .int (nI j)), (2, .int y)]) ⟨[0, 1, 2], rfl⟩ ?_
  refine k_iload_n (q := 1) C 1 dX3_set_0 rfl rfl ?_
  refine k_if_lt (tgt := 9) (q := 4) C dX3_set_1 (by decide) rfl ?_ ?_
  · exact fun c_1 => absurd c_1 (nI_pos (by omega))
  · intro c_1
    refine k_iload_n (q := 5) C 1 dX3_set_4 rfl rfl ?_
    refine k_iconst (q := 6) (v := 4) C dX3_set_5 (by decide) rfl ?_
    refine k_nicmp_lt (a := j) (b := 4)  (tgt := 19) (q := 9) C dX3_set_6 (by decide) rfl (by omega) (by decide) ?_ ?_
    · intro c_6
      refine k_iload_n (q := 20) C 2 dX3_set_19 rfl rfl ?_
      refine k_gets (q := 23) C zqa1 (List.mem_of_getElem? (i := 5) rfl) dX3_set_20 rfl ?_
      refine k_iload_n (q := 24) C 1 dX3_set_23 rfl rfl ?_
      refine k_sld (q := 25) C zqa2 zqa3 zqa4 (vp_in_nI (n := j) (by omega) (by decide)) dX3_set_24 rfl ?_
      refine k_st (st2 := (.int (mLeast j) :: _)) (congrArg (fun z => Value.int z :: _) (show mLeast (nI j).toNatClampNeg = mLeast j from congrArg mLeast (nI_clamp (n := j) (by omega)))) ?_
      refine k_icmp_lt (tgt := 37) (q := 28) C dX3_set_25 (by decide) rfl ?_ ?_
      · exact fun c_25 => absurd c_25 (Int32.not_lt.mpr hy.1)
      · intro c_25
        refine k_iload_n (q := 29) C 2 dX3_set_28 rfl rfl ?_
        refine k_gets (q := 32) C zqb1 (List.mem_of_getElem? (i := 6) rfl) dX3_set_29 rfl ?_
        refine k_iload_n (q := 33) C 1 dX3_set_32 rfl rfl ?_
        refine k_sld (q := 34) C zqb2 zqb3 zqb4 (vp_in_nI (n := j) (by omega) (by decide)) dX3_set_33 rfl ?_
        refine k_st (st2 := (.int (mMost j) :: _)) (congrArg (fun z => Value.int z :: _) (show mMost (nI j).toNatClampNeg = mMost j from congrArg mMost (nI_clamp (n := j) (by omega)))) ?_
        refine k_icmp_le (tgt := 47) (q := 37) C dX3_set_34 (by decide) rfl ?_ ?_
        · intro c_34
          refine k_aload_n (q := 48) C 0 dX3_set_47 rfl rfl ?_
          refine k_callVV (n := 0) (q := 51) (pre := ([] : va_W)) (post := ([] : va_W)) (w2 := ((wXo b cy (a 0) r ((nx + 1) % 6) (min (sn + 1) 6) ln (svOf sk) (kpOf sk) ik bf ++ wRd r kd hg nu dg ng tk) ++ (wSky a cy n lit h t s g kn lo lf nm ++ wOth sk cy (updS S nx (cLike (n, lit, h, t, s, g, kn, lo, lf, nm) (S nx)))))) (As := []) (rest := []) C (c_X3_saveState cy a b r nx sn ln sk S ik bf kd hg nu dg ng tk n lit h t s g kn lo lf nm hnx hsn) gX3_set_X3_saveState rfl rfl rfl (by decide +kernel) (k_room hR (by decide)) ⟨Nat.zero_le _, Nat.zero_le _⟩ (ci := 3) rfl 0 rfl rfl rfl (Nat.le_of_ble_eq_true rfl) ((List.append_nil _).symm) (List.append_nil _) dX3_set_48 rfl ?_
          refine k_aload_n (q := 52) C 0 dX3_set_51 rfl rfl ?_
          refine k_get (q := 55) (ci := 3) (v := .ref (a 0)) C 0 0 in3_X3_set rfl (List.mem_of_getElem? (i := 7) rfl) rfl rfl (by decide) rfl dX3_set_52 rfl ?_
          refine k_get (q := 58) (ci := 2) (v := .ref (a 4)) C 6 4 in2_X3_set rfl (List.mem_of_getElem? (i := 8) rfl) rfl rfl (by decide) rfl dX3_set_55 rfl ?_
          refine k_iload_n (q := 59) C 1 dX3_set_58 rfl rfl ?_
          refine k_iald (q := 60) C 10 rfl (vp_in_nI (n := j) (by omega) (by decide)) dX3_set_59 rfl ?_
          refine k_st (st2 := (.int (g j) :: _)) (congrArg (fun z => Value.int z :: _) (show g (nI j).toNatClampNeg = g j from congrArg g (nI_clamp (n := j) (by omega)))) ?_
          refine k_istore_n (q := 61) (fr2 := [(3, .int (g j)), (0, .ref (b 0)), (1, .int (nI j)), (2, .int y)]) C dX3_set_60 (by decide) rfl rfl ?_
          refine k_aload_n (q := 62) C 1 dX3_set_61 rfl rfl ?_
          refine k_get (q := 65) (ci := 3) (v := .ref (a 0)) C 0 0 in3_X3_set rfl (List.mem_of_getElem? (i := 7) rfl) rfl rfl (by decide) rfl dX3_set_62 rfl ?_
          refine k_get (q := 68) (ci := 2) (v := .ref (a 4)) C 6 4 in2_X3_set rfl (List.mem_of_getElem? (i := 8) rfl) rfl rfl (by decide) rfl dX3_set_65 rfl ?_
          refine k_iload_n (q := 69) C 2 dX3_set_68 rfl rfl ?_
          refine k_iload_n (q := 70) C 3 dX3_set_69 rfl rfl ?_
          refine k_iast (q := 71) (w2 := ((wXo b cy (a 0) r ((nx + 1) % 6) (min (sn + 1) 6) ln (svOf sk) (kpOf sk) ik bf ++ wRd r kd hg nu dg ng tk) ++ (wSky a cy n lit h t s (upd g j y) kn lo lf nm ++ wOth sk cy (updS S nx (cLike (n, lit, h, t, s, g, kn, lo, lf, nm) (S nx)))))) C 10 rfl (vp_in_nI (n := j) (by omega) (by decide)) (by rw [nI_clamp (n := j) (by omega)]; rfl) dX3_set_70 rfl ?_
          refine k_iload_n (q := 72) C 0 dX3_set_71 rfl rfl ?_
          exact k_fin E dX3_set_72 (rfl) (rfl)
        · exact fun c_34 => absurd hy.2 c_34
    · exact fun c_6 => absurd hj (Nat.not_lt.mpr c_6)
