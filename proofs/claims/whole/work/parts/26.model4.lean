abbrev rm_X4_tellsCount : Room := { frames := 5, cells := 0, slots := 0, locals := 109 }
theorem in4_X4_tellsCount : ∀ w ∈ wsX40, w ∈ wsX4_tellsCount := fun _ h => (List.mem_cons_of_mem _ (List.mem_append_right _ h))
set_option maxHeartbeats 4000000 in
set_option maxRecDepth 100000 in
theorem c_X4_tellsCount (cy : Nat → ClassId) (a : Nat → Nat) (th : Int32) (sm : Nat) (ln : Nat) (pt : Nat) (sg : Nat) (fi : Int32) (se : Int32) (n : Nat) (o : Nat → Int32) (h : Nat → Int32) (t : Nat → Int32) (s : Nat → Int32) (g : Nat → Int32) (kn : Nat) (lo : Int32) (lf : Int32) (nm : Nat → Int32) (sv : Nat → Int32) (sl : Nat → Int32) (ik : Nat → Int32) (bf : Nat → Nat) (co : Nat → Int32) (go : Nat → Int32) (fo : Nat → Int32) (w : Nat)  (hw : w ≤ 16) (hn : n ≤ 6) (ho : mBin o) (h0 : sOk (s 0)) (h1 : sOk (s 1)) : kIx yX4_tellsCount wsX4_tellsCount rm_X4_tellsCount cy [.ref (a 0), .int (nI w)] (wM a cy th sm ln pt sg fi se (mSt n o h t s g kn lo lf nm) sv sl ik bf co go fo) (mTc sm ln n o h t s g kn lo lf w) (fun (u : (Nat → Int32) × (Nat → Int32)) => (wM a cy th sm ln pt sg fi se (mSt n o h t s g kn lo lf nm) sv sl ik bf u.1 u.2 fo)) (fun (u : (Nat → Int32) × (Nat → Int32)) => True) := by
  refine kIx_of (cc := cX4_tellsCount) (maxL := 2) (rt := .int) (by decide) rfl (rfl) (Nat.le_of_ble_eq_true rfl) ?_
  intro X hR C E
  have C : kC X 2 RX4 cX4_tellsCount wsX4_tellsCount cy := C
  refine k_fr (fr2 := [(0, .ref (a 0)), (1, .int (nI w))]) ⟨[0, 1], rfl⟩ ?_
  refine k_aload_n (q := 1) C 0 dX4_tellsCount_0 rfl rfl ?_
  refine k_aload_n (q := 2) C 0 dX4_tellsCount_1 rfl rfl ?_
  refine k_get (q := 5) (ci := 4) (v := .ref (a 1)) C 0 1 in4_X4_tellsCount rfl (List.mem_of_getElem? (i := 1) rfl) rfl rfl (by decide) rfl dX4_tellsCount_2 rfl ?_
  refine k_iconst (q := 6) (v := 1) C dX4_tellsCount_5 (by decide) rfl ?_
  refine k_iald (q := 7) C 1 rfl (vp_in_nI (n := 1) (by decide) (by decide)) dX4_tellsCount_6 rfl ?_
  refine k_st (st2 := (.int ((mSt n o h t s g kn lo lf nm) 1) :: _)) (congrArg (fun z => Value.int z :: _) (show (mSt n o h t s g kn lo lf nm) (1 : Int32).toNatClampNeg = (mSt n o h t s g kn lo lf nm) 1 from congrArg (mSt n o h t s g kn lo lf nm) (nI_clamp (n := 1) (by decide)))) ?_
  refine k_st (st2 := (.int (g 1) :: _)) (congrArg (fun z => Value.int z :: _) (show (mSt n o h t s g kn lo lf nm) 1 = g 1 from mSt_g (k := 1) (by decide))) ?_
  refine k_callVVx (n := 1) (q := 10) (pre := ([] : va_W)) (post := ([] : va_W)) (w2 := (fun u => (wM a cy th sm ln pt sg fi se (mSt n o h t s g kn lo lf nm) sv sl ik bf (u.1) (u.2) fo))) (As := [.int (g 1)]) (rest := []) C (c_X4_lay cy a th sm ln pt sg fi se n o h t s g kn lo lf nm sv sl ik bf co go fo (g 1) hn) gX4_tellsCount_X4_lay rfl rfl rfl (by decide +kernel) (k_room hR (by decide)) ⟨Nat.zero_le _, Nat.zero_le _⟩ (ci := 4) rfl 0 rfl rfl rfl (Nat.le_of_ble_eq_true rfl) ((List.append_nil _).symm) (fun u => List.append_nil _) dX4_tellsCount_7 rfl ?_
  rintro ⟨co_7, go_7⟩ h_7
  try dsimp only at h_7
  refine k_iload_n (q := 11) C 1 dX4_tellsCount_10 rfl rfl ?_
  by_cases s_11_0 : w = 0
  · refine k_tabIn (q := 76) (off := 65) C dX4_tellsCount_11 (by rw [s_11_0]; decide +kernel) (by rw [s_11_0]; decide +kernel) (by rw [s_11_0]; decide +kernel) (by decide) ?_
    subst s_11_0
    refine k_aload_n (q := 77) C 0 dX4_tellsCount_76 rfl rfl ?_
    refine k_get (q := 80) (ci := 4) (v := .ref (a 1)) C 0 1 in4_X4_tellsCount rfl (List.mem_of_getElem? (i := 1) rfl) rfl rfl (by decide) rfl dX4_tellsCount_77 rfl ?_
    refine k_bipush (q := 82) (v := 8) C dX4_tellsCount_80 (by decide +kernel) rfl ?_
    refine k_iald (q := 83) C 1 rfl (vp_in_nI (n := 8) (by decide) (by decide)) dX4_tellsCount_82 rfl ?_
    refine k_st (st2 := (.int ((mSt n o h t s g kn lo lf nm) 8) :: _)) (congrArg (fun z => Value.int z :: _) (show (mSt n o h t s g kn lo lf nm) (8 : Int32).toNatClampNeg = (mSt n o h t s g kn lo lf nm) 8 from congrArg (mSt n o h t s g kn lo lf nm) (nI_clamp (n := 8) (by decide)))) ?_
    refine k_st (st2 := (.int (nI n) :: _)) (congrArg (fun z => Value.int z :: _) (show (mSt n o h t s g kn lo lf nm) 8 = nI n from rfl)) ?_
    exact k_finx E (co_7, go_7) dX4_tellsCount_83 (by first | rfl | simp [mTc, s_11_0, s_11_1, s_11_2, s_11_3, s_11_4, s_11_5, s_11_6, s_11_7, s_11_8, s_11_9, s_11_10, s_11_11, s_11_12]) (rfl) (trivial)
  by_cases s_11_1 : w = 1
  · refine k_tabIn (q := 84) (off := 73) C dX4_tellsCount_11 (by rw [s_11_1]; decide +kernel) (by rw [s_11_1]; decide +kernel) (by rw [s_11_1]; decide +kernel) (by decide) ?_
    subst s_11_1
    refine k_aload_n (q := 85) C 0 dX4_tellsCount_84 rfl rfl ?_
    refine k_get (q := 88) (ci := 4) (v := .ref (a 1)) C 0 1 in4_X4_tellsCount rfl (List.mem_of_getElem? (i := 1) rfl) rfl rfl (by decide) rfl dX4_tellsCount_85 rfl ?_
    refine k_iconst (q := 89) (v := 4) C dX4_tellsCount_88 (by decide) rfl ?_
    refine k_iload_n (q := 90) C 1 dX4_tellsCount_89 rfl rfl ?_
    refine k_iadd (q := 91) C dX4_tellsCount_90 rfl ?_
    refine k_st (st2 := (.int 5 :: _)) (congrArg (fun z => Value.int z :: _) (show 4 + (nI 1) = 5 from rfl)) ?_
    refine k_iconst (q := 92) (v := 1) C dX4_tellsCount_91 (by decide) rfl ?_
    refine k_isub (q := 93) C dX4_tellsCount_92 rfl ?_
    refine k_st (st2 := (.int 4 :: _)) (congrArg (fun z => Value.int z :: _) (show 5 - 1 = 4 from by decide)) ?_
    refine k_iald (q := 94) C 1 rfl (vp_in_nI (n := 4) (by decide) (by decide)) dX4_tellsCount_93 rfl ?_
    refine k_st (st2 := (.int ((mSt n o h t s g kn lo lf nm) 4) :: _)) (congrArg (fun z => Value.int z :: _) (show (mSt n o h t s g kn lo lf nm) (4 : Int32).toNatClampNeg = (mSt n o h t s g kn lo lf nm) 4 from congrArg (mSt n o h t s g kn lo lf nm) (nI_clamp (n := 4) (by decide)))) ?_
    refine k_st (st2 := (.int (s 0) :: _)) (congrArg (fun z => Value.int z :: _) (show (mSt n o h t s g kn lo lf nm) 4 = s 0 from mSt_s (k := 0) (by decide))) ?_
    exact k_finx E (co_7, go_7) dX4_tellsCount_94 (by first | rfl | simp [mTc, s_11_0, s_11_1, s_11_2, s_11_3, s_11_4, s_11_5, s_11_6, s_11_7, s_11_8, s_11_9, s_11_10, s_11_11, s_11_12]) (rfl) (trivial)
  by_cases s_11_2 : w = 2
  · refine k_tabIn (q := 84) (off := 73) C dX4_tellsCount_11 (by rw [s_11_2]; decide +kernel) (by rw [s_11_2]; decide +kernel) (by rw [s_11_2]; decide +kernel) (by decide) ?_
    subst s_11_2
    refine k_aload_n (q := 85) C 0 dX4_tellsCount_84 rfl rfl ?_
    refine k_get (q := 88) (ci := 4) (v := .ref (a 1)) C 0 1 in4_X4_tellsCount rfl (List.mem_of_getElem? (i := 1) rfl) rfl rfl (by decide) rfl dX4_tellsCount_85 rfl ?_
    refine k_iconst (q := 89) (v := 4) C dX4_tellsCount_88 (by decide) rfl ?_
    refine k_iload_n (q := 90) C 1 dX4_tellsCount_89 rfl rfl ?_
    refine k_iadd (q := 91) C dX4_tellsCount_90 rfl ?_
    refine k_st (st2 := (.int 6 :: _)) (congrArg (fun z => Value.int z :: _) (show 4 + (nI 2) = 6 from rfl)) ?_
    refine k_iconst (q := 92) (v := 1) C dX4_tellsCount_91 (by decide) rfl ?_
    refine k_isub (q := 93) C dX4_tellsCount_92 rfl ?_
    refine k_st (st2 := (.int 5 :: _)) (congrArg (fun z => Value.int z :: _) (show 6 - 1 = 5 from by decide)) ?_
    refine k_iald (q := 94) C 1 rfl (vp_in_nI (n := 5) (by decide) (by decide)) dX4_tellsCount_93 rfl ?_
    refine k_st (st2 := (.int ((mSt n o h t s g kn lo lf nm) 5) :: _)) (congrArg (fun z => Value.int z :: _) (show (mSt n o h t s g kn lo lf nm) (5 : Int32).toNatClampNeg = (mSt n o h t s g kn lo lf nm) 5 from congrArg (mSt n o h t s g kn lo lf nm) (nI_clamp (n := 5) (by decide)))) ?_
    refine k_st (st2 := (.int (s 1) :: _)) (congrArg (fun z => Value.int z :: _) (show (mSt n o h t s g kn lo lf nm) 5 = s 1 from mSt_s (k := 1) (by decide))) ?_
    exact k_finx E (co_7, go_7) dX4_tellsCount_94 (by first | rfl | simp [mTc, s_11_0, s_11_1, s_11_2, s_11_3, s_11_4, s_11_5, s_11_6, s_11_7, s_11_8, s_11_9, s_11_10, s_11_11, s_11_12]) (rfl) (trivial)
  by_cases s_11_3 : w = 3
  · refine k_tabIn (q := 95) (off := 84) C dX4_tellsCount_11 (by rw [s_11_3]; decide +kernel) (by rw [s_11_3]; decide +kernel) (by rw [s_11_3]; decide +kernel) (by decide) ?_
    subst s_11_3
    refine k_aload_n (q := 96) C 0 dX4_tellsCount_95 rfl rfl ?_
    refine k_get (q := 99) (ci := 4) (v := .ref (a 1)) C 0 1 in4_X4_tellsCount rfl (List.mem_of_getElem? (i := 1) rfl) rfl rfl (by decide) rfl dX4_tellsCount_96 rfl ?_
    refine k_bipush (q := 101) (v := 6) C dX4_tellsCount_99 (by decide +kernel) rfl ?_
    refine k_iald (q := 102) C 1 rfl (vp_in_nI (n := 6) (by decide) (by decide)) dX4_tellsCount_101 rfl ?_
    refine k_st (st2 := (.int ((mSt n o h t s g kn lo lf nm) 6) :: _)) (congrArg (fun z => Value.int z :: _) (show (mSt n o h t s g kn lo lf nm) (6 : Int32).toNatClampNeg = (mSt n o h t s g kn lo lf nm) 6 from congrArg (mSt n o h t s g kn lo lf nm) (nI_clamp (n := 6) (by decide)))) ?_
    refine k_st (st2 := (.int (o 0) :: _)) (congrArg (fun z => Value.int z :: _) (show (mSt n o h t s g kn lo lf nm) 6 = o 0 from mSt_o (k := 0) (by decide))) ?_
    refine k_iconst (q := 103) (v := 2) C dX4_tellsCount_102 (by decide) rfl ?_
    refine k_aload_n (q := 104) C 0 dX4_tellsCount_103 rfl rfl ?_
    refine k_get (q := 107) (ci := 4) (v := .ref (a 1)) C 0 1 in4_X4_tellsCount rfl (List.mem_of_getElem? (i := 1) rfl) rfl rfl (by decide) rfl dX4_tellsCount_104 rfl ?_
    refine k_bipush (q := 109) (v := 7) C dX4_tellsCount_107 (by decide +kernel) rfl ?_
    refine k_iald (q := 110) C 1 rfl (vp_in_nI (n := 7) (by decide) (by decide)) dX4_tellsCount_109 rfl ?_
    refine k_st (st2 := (.int ((mSt n o h t s g kn lo lf nm) 7) :: _)) (congrArg (fun z => Value.int z :: _) (show (mSt n o h t s g kn lo lf nm) (7 : Int32).toNatClampNeg = (mSt n o h t s g kn lo lf nm) 7 from congrArg (mSt n o h t s g kn lo lf nm) (nI_clamp (n := 7) (by decide)))) ?_
    refine k_st (st2 := (.int (o 1) :: _)) (congrArg (fun z => Value.int z :: _) (show (mSt n o h t s g kn lo lf nm) 7 = o 1 from mSt_o (k := 1) (by decide))) ?_
    refine k_imul (q := 111) C dX4_tellsCount_110 rfl ?_
    refine k_iadd (q := 112) C dX4_tellsCount_111 rfl ?_
    exact k_finx E (co_7, go_7) dX4_tellsCount_112 (by first | rfl | simp [mTc, s_11_0, s_11_1, s_11_2, s_11_3, s_11_4, s_11_5, s_11_6, s_11_7, s_11_8, s_11_9, s_11_10, s_11_11, s_11_12]) (rfl) (trivial)
  by_cases s_11_4 : w = 4
  · refine k_tabIn (q := 113) (off := 102) C dX4_tellsCount_11 (by rw [s_11_4]; decide +kernel) (by rw [s_11_4]; decide +kernel) (by rw [s_11_4]; decide +kernel) (by decide) ?_
    subst s_11_4
    refine k_aload_n (q := 114) C 0 dX4_tellsCount_113 rfl rfl ?_
    refine k_callVI (n := 0) (q := 117) (pre := ([] : va_W)) (post := ([] : va_W)) (w2 := (wM a cy th sm ln pt sg fi se (mSt n o h t s g kn lo lf nm) sv sl ik bf co_7 go_7 fo)) (As := []) (rest := []) C (c_X4_meeting cy a th sm ln pt sg fi se n o h t s g kn lo lf nm sv sl ik bf co_7 go_7 fo h0 h1) gX4_tellsCount_X4_meeting rfl rfl rfl (by decide +kernel) (k_room hR (by decide)) ⟨Nat.zero_le _, Nat.zero_le _⟩ (ci := 4) rfl 0 rfl rfl rfl (Nat.le_of_ble_eq_true rfl) ((List.append_nil _).symm) (List.append_nil _) dX4_tellsCount_114 rfl ?_
    exact k_finx E (co_7, go_7) dX4_tellsCount_117 (by first | rfl | simp [mTc, s_11_0, s_11_1, s_11_2, s_11_3, s_11_4, s_11_5, s_11_6, s_11_7, s_11_8, s_11_9, s_11_10, s_11_11, s_11_12]) (rfl) (trivial)
  by_cases s_11_5 : w = 5
  · refine k_tabIn (q := 118) (off := 107) C dX4_tellsCount_11 (by rw [s_11_5]; decide +kernel) (by rw [s_11_5]; decide +kernel) (by rw [s_11_5]; decide +kernel) (by decide) ?_
    subst s_11_5
    refine k_aload_n (q := 119) C 0 dX4_tellsCount_118 rfl rfl ?_
    refine k_callVI (n := 0) (q := 122) (pre := ([] : va_W)) (post := ([] : va_W)) (w2 := (wM a cy th sm ln pt sg fi se (mSt n o h t s g kn lo lf nm) sv sl ik bf co_7 go_7 fo)) (As := []) (rest := []) C (c_X4_seenSpots cy a th sm ln pt sg fi se n o h t s g kn lo lf nm sv sl ik bf co_7 go_7 fo (g 1) hn h_7) gX4_tellsCount_X4_seenSpots rfl rfl rfl (by decide +kernel) (k_room hR (by decide)) ⟨Nat.zero_le _, Nat.zero_le _⟩ (ci := 4) rfl 0 rfl rfl rfl (Nat.le_of_ble_eq_true rfl) ((List.append_nil _).symm) (List.append_nil _) dX4_tellsCount_119 rfl ?_
    exact k_finx E (co_7, go_7) dX4_tellsCount_122 (by first | rfl | simp [mTc, s_11_0, s_11_1, s_11_2, s_11_3, s_11_4, s_11_5, s_11_6, s_11_7, s_11_8, s_11_9, s_11_10, s_11_11, s_11_12]) (rfl) (trivial)
  by_cases s_11_6 : w = 6
  · refine k_tabIn (q := 123) (off := 112) C dX4_tellsCount_11 (by rw [s_11_6]; decide +kernel) (by rw [s_11_6]; decide +kernel) (by rw [s_11_6]; decide +kernel) (by decide) ?_
    subst s_11_6
    refine k_aload_n (q := 124) C 0 dX4_tellsCount_123 rfl rfl ?_
    refine k_iload_n (q := 125) C 1 dX4_tellsCount_124 rfl rfl ?_
    refine k_bipush (q := 127) (v := 7) C dX4_tellsCount_125 (by decide +kernel) rfl ?_
    refine k_nicmp_ne (a := 6) (b := 7)  (tgt := 134) (q := 130) C dX4_tellsCount_127 (by decide) rfl (by decide) (by decide) ?_ ?_
    · intro c_127
      refine k_iconst (q := 135) (v := 0) C dX4_tellsCount_134 (by decide) rfl ?_
      refine k_callVI (n := 1) (q := 138) (pre := ([] : va_W)) (post := ([] : va_W)) (w2 := (wM a cy th sm ln pt sg fi se (mSt n o h t s g kn lo lf nm) sv sl ik bf co_7 go_7 fo)) (As := [.int 0]) (rest := []) C (c_X4_pairs cy a th sm ln pt sg fi se n o h t s g kn lo lf nm sv sl ik bf co_7 go_7 fo false hn ho h_7) gX4_tellsCount_X4_pairs rfl rfl rfl (by decide +kernel) (k_room hR (by decide)) ⟨Nat.zero_le _, Nat.zero_le _⟩ (ci := 4) rfl 0 rfl rfl rfl (Nat.le_of_ble_eq_true rfl) ((List.append_nil _).symm) (List.append_nil _) dX4_tellsCount_135 rfl ?_
      exact k_finx E (co_7, go_7) dX4_tellsCount_138 (by first | rfl | simp [mTc, s_11_0, s_11_1, s_11_2, s_11_3, s_11_4, s_11_5, s_11_6, s_11_7, s_11_8, s_11_9, s_11_10, s_11_11, s_11_12]) (rfl) (trivial)
    · exact fun c_127 => absurd c_127 (by decide)
  by_cases s_11_7 : w = 7
  · refine k_tabIn (q := 123) (off := 112) C dX4_tellsCount_11 (by rw [s_11_7]; decide +kernel) (by rw [s_11_7]; decide +kernel) (by rw [s_11_7]; decide +kernel) (by decide) ?_
    subst s_11_7
    refine k_aload_n (q := 124) C 0 dX4_tellsCount_123 rfl rfl ?_
    refine k_iload_n (q := 125) C 1 dX4_tellsCount_124 rfl rfl ?_
    refine k_bipush (q := 127) (v := 7) C dX4_tellsCount_125 (by decide +kernel) rfl ?_
    refine k_nicmp_ne (a := 7) (b := 7)  (tgt := 134) (q := 130) C dX4_tellsCount_127 (by decide) rfl (by decide) (by decide) ?_ ?_
    · exact fun c_127 => absurd c_127 (by decide)
    · intro c_127
      refine k_iconst (q := 131) (v := 1) C dX4_tellsCount_130 (by decide) rfl ?_
      refine k_goto (q := 135) C dX4_tellsCount_131 (by decide) ?_
      refine k_callVI (n := 1) (q := 138) (pre := ([] : va_W)) (post := ([] : va_W)) (w2 := (wM a cy th sm ln pt sg fi se (mSt n o h t s g kn lo lf nm) sv sl ik bf co_7 go_7 fo)) (As := [.int 1]) (rest := []) C (c_X4_pairs cy a th sm ln pt sg fi se n o h t s g kn lo lf nm sv sl ik bf co_7 go_7 fo true hn ho h_7) gX4_tellsCount_X4_pairs rfl rfl rfl (by decide +kernel) (k_room hR (by decide)) ⟨Nat.zero_le _, Nat.zero_le _⟩ (ci := 4) rfl 0 rfl rfl rfl (Nat.le_of_ble_eq_true rfl) ((List.append_nil _).symm) (List.append_nil _) dX4_tellsCount_135 rfl ?_
      exact k_finx E (co_7, go_7) dX4_tellsCount_138 (by first | rfl | simp [mTc, s_11_0, s_11_1, s_11_2, s_11_3, s_11_4, s_11_5, s_11_6, s_11_7, s_11_8, s_11_9, s_11_10, s_11_11, s_11_12]) (rfl) (trivial)
  by_cases s_11_8 : w = 8
  · refine k_tabIn (q := 139) (off := 128) C dX4_tellsCount_11 (by rw [s_11_8]; decide +kernel) (by rw [s_11_8]; decide +kernel) (by rw [s_11_8]; decide +kernel) (by decide) ?_
    subst s_11_8
    refine k_aload_n (q := 140) C 0 dX4_tellsCount_139 rfl rfl ?_
    refine k_get (q := 143) (ci := 4) (v := .ref (a 1)) C 0 1 in4_X4_tellsCount rfl (List.mem_of_getElem? (i := 1) rfl) rfl rfl (by decide) rfl dX4_tellsCount_140 rfl ?_
    refine k_bipush (q := 145) (v := 9) C dX4_tellsCount_143 (by decide +kernel) rfl ?_
    refine k_iload_n (q := 146) C 1 dX4_tellsCount_145 rfl rfl ?_
    refine k_iadd (q := 147) C dX4_tellsCount_146 rfl ?_
    refine k_st (st2 := (.int 17 :: _)) (congrArg (fun z => Value.int z :: _) (show 9 + (nI 8) = 17 from rfl)) ?_
    refine k_bipush (q := 149) (v := 8) C dX4_tellsCount_147 (by decide +kernel) rfl ?_
    refine k_isub (q := 150) C dX4_tellsCount_149 rfl ?_
    refine k_st (st2 := (.int 9 :: _)) (congrArg (fun z => Value.int z :: _) (show 17 - 8 = 9 from by decide)) ?_
    refine k_iald (q := 151) C 1 rfl (vp_in_nI (n := 9) (by decide) (by decide)) dX4_tellsCount_150 rfl ?_
    refine k_st (st2 := (.int ((mSt n o h t s g kn lo lf nm) 9) :: _)) (congrArg (fun z => Value.int z :: _) (show (mSt n o h t s g kn lo lf nm) (9 : Int32).toNatClampNeg = (mSt n o h t s g kn lo lf nm) 9 from congrArg (mSt n o h t s g kn lo lf nm) (nI_clamp (n := 9) (by decide)))) ?_
    refine k_st (st2 := (.int (nI kn) :: _)) (congrArg (fun z => Value.int z :: _) (show (mSt n o h t s g kn lo lf nm) 9 = nI kn from rfl)) ?_
    exact k_finx E (co_7, go_7) dX4_tellsCount_151 (by first | rfl | simp [mTc, s_11_0, s_11_1, s_11_2, s_11_3, s_11_4, s_11_5, s_11_6, s_11_7, s_11_8, s_11_9, s_11_10, s_11_11, s_11_12]) (rfl) (trivial)
  by_cases s_11_9 : w = 9
  · refine k_tabIn (q := 139) (off := 128) C dX4_tellsCount_11 (by rw [s_11_9]; decide +kernel) (by rw [s_11_9]; decide +kernel) (by rw [s_11_9]; decide +kernel) (by decide) ?_
    subst s_11_9
    refine k_aload_n (q := 140) C 0 dX4_tellsCount_139 rfl rfl ?_
    refine k_get (q := 143) (ci := 4) (v := .ref (a 1)) C 0 1 in4_X4_tellsCount rfl (List.mem_of_getElem? (i := 1) rfl) rfl rfl (by decide) rfl dX4_tellsCount_140 rfl ?_
    refine k_bipush (q := 145) (v := 9) C dX4_tellsCount_143 (by decide +kernel) rfl ?_
    refine k_iload_n (q := 146) C 1 dX4_tellsCount_145 rfl rfl ?_
    refine k_iadd (q := 147) C dX4_tellsCount_146 rfl ?_
    refine k_st (st2 := (.int 18 :: _)) (congrArg (fun z => Value.int z :: _) (show 9 + (nI 9) = 18 from rfl)) ?_
    refine k_bipush (q := 149) (v := 8) C dX4_tellsCount_147 (by decide +kernel) rfl ?_
    refine k_isub (q := 150) C dX4_tellsCount_149 rfl ?_
    refine k_st (st2 := (.int 10 :: _)) (congrArg (fun z => Value.int z :: _) (show 18 - 8 = 10 from by decide)) ?_
    refine k_iald (q := 151) C 1 rfl (vp_in_nI (n := 10) (by decide) (by decide)) dX4_tellsCount_150 rfl ?_
    refine k_st (st2 := (.int ((mSt n o h t s g kn lo lf nm) 10) :: _)) (congrArg (fun z => Value.int z :: _) (show (mSt n o h t s g kn lo lf nm) (10 : Int32).toNatClampNeg = (mSt n o h t s g kn lo lf nm) 10 from congrArg (mSt n o h t s g kn lo lf nm) (nI_clamp (n := 10) (by decide)))) ?_
    refine k_st (st2 := (.int lo :: _)) (congrArg (fun z => Value.int z :: _) (show (mSt n o h t s g kn lo lf nm) 10 = lo from rfl)) ?_
    exact k_finx E (co_7, go_7) dX4_tellsCount_151 (by first | rfl | simp [mTc, s_11_0, s_11_1, s_11_2, s_11_3, s_11_4, s_11_5, s_11_6, s_11_7, s_11_8, s_11_9, s_11_10, s_11_11, s_11_12]) (rfl) (trivial)
  by_cases s_11_10 : w = 10
  · refine k_tabIn (q := 139) (off := 128) C dX4_tellsCount_11 (by rw [s_11_10]; decide +kernel) (by rw [s_11_10]; decide +kernel) (by rw [s_11_10]; decide +kernel) (by decide) ?_
    subst s_11_10
    refine k_aload_n (q := 140) C 0 dX4_tellsCount_139 rfl rfl ?_
    refine k_get (q := 143) (ci := 4) (v := .ref (a 1)) C 0 1 in4_X4_tellsCount rfl (List.mem_of_getElem? (i := 1) rfl) rfl rfl (by decide) rfl dX4_tellsCount_140 rfl ?_
    refine k_bipush (q := 145) (v := 9) C dX4_tellsCount_143 (by decide +kernel) rfl ?_
    refine k_iload_n (q := 146) C 1 dX4_tellsCount_145 rfl rfl ?_
    refine k_iadd (q := 147) C dX4_tellsCount_146 rfl ?_
    refine k_st (st2 := (.int 19 :: _)) (congrArg (fun z => Value.int z :: _) (show 9 + (nI 10) = 19 from rfl)) ?_
    refine k_bipush (q := 149) (v := 8) C dX4_tellsCount_147 (by decide +kernel) rfl ?_
    refine k_isub (q := 150) C dX4_tellsCount_149 rfl ?_
    refine k_st (st2 := (.int 11 :: _)) (congrArg (fun z => Value.int z :: _) (show 19 - 8 = 11 from by decide)) ?_
    refine k_iald (q := 151) C 1 rfl (vp_in_nI (n := 11) (by decide) (by decide)) dX4_tellsCount_150 rfl ?_
    refine k_st (st2 := (.int ((mSt n o h t s g kn lo lf nm) 11) :: _)) (congrArg (fun z => Value.int z :: _) (show (mSt n o h t s g kn lo lf nm) (11 : Int32).toNatClampNeg = (mSt n o h t s g kn lo lf nm) 11 from congrArg (mSt n o h t s g kn lo lf nm) (nI_clamp (n := 11) (by decide)))) ?_
    refine k_st (st2 := (.int lf :: _)) (congrArg (fun z => Value.int z :: _) (show (mSt n o h t s g kn lo lf nm) 11 = lf from rfl)) ?_
    exact k_finx E (co_7, go_7) dX4_tellsCount_151 (by first | rfl | simp [mTc, s_11_0, s_11_1, s_11_2, s_11_3, s_11_4, s_11_5, s_11_6, s_11_7, s_11_8, s_11_9, s_11_10, s_11_11, s_11_12]) (rfl) (trivial)
  by_cases s_11_11 : w = 11
  · refine k_tabIn (q := 152) (off := 141) C dX4_tellsCount_11 (by rw [s_11_11]; decide +kernel) (by rw [s_11_11]; decide +kernel) (by rw [s_11_11]; decide +kernel) (by decide) ?_
    subst s_11_11
    refine k_aload_n (q := 153) C 0 dX4_tellsCount_152 rfl rfl ?_
    refine k_get (q := 156) (ci := 4) (v := .int (nI sm)) C 0 3 in4_X4_tellsCount rfl (List.mem_of_getElem? (i := 2) rfl) rfl rfl (by decide) rfl dX4_tellsCount_153 rfl ?_
    exact k_finx E (co_7, go_7) dX4_tellsCount_156 (by first | rfl | simp [mTc, s_11_0, s_11_1, s_11_2, s_11_3, s_11_4, s_11_5, s_11_6, s_11_7, s_11_8, s_11_9, s_11_10, s_11_11, s_11_12]) (rfl) (trivial)
  by_cases s_11_12 : w = 12
  · refine k_tabIn (q := 157) (off := 146) C dX4_tellsCount_11 (by rw [s_11_12]; decide +kernel) (by rw [s_11_12]; decide +kernel) (by rw [s_11_12]; decide +kernel) (by decide) ?_
    subst s_11_12
    refine k_aload_n (q := 158) C 0 dX4_tellsCount_157 rfl rfl ?_
    refine k_get (q := 161) (ci := 4) (v := .int (nI ln)) C 0 7 in4_X4_tellsCount rfl (List.mem_of_getElem? (i := 3) rfl) rfl rfl (by decide) rfl dX4_tellsCount_158 rfl ?_
    exact k_finx E (co_7, go_7) dX4_tellsCount_161 (by first | rfl | simp [mTc, s_11_0, s_11_1, s_11_2, s_11_3, s_11_4, s_11_5, s_11_6, s_11_7, s_11_8, s_11_9, s_11_10, s_11_11, s_11_12]) (rfl) (trivial)
  have n_11_0 : ¬ nI w = 0 := fun q => s_11_0 ((nI_eq (a := w) (b := 0) (by omega) (by decide)).mp q)
  have n_11_1 : ¬ nI w = 1 := fun q => s_11_1 ((nI_eq (a := w) (b := 1) (by omega) (by decide)).mp q)
  have n_11_2 : ¬ nI w = 2 := fun q => s_11_2 ((nI_eq (a := w) (b := 2) (by omega) (by decide)).mp q)
  have n_11_3 : ¬ nI w = 3 := fun q => s_11_3 ((nI_eq (a := w) (b := 3) (by omega) (by decide)).mp q)
  have n_11_4 : ¬ nI w = 4 := fun q => s_11_4 ((nI_eq (a := w) (b := 4) (by omega) (by decide)).mp q)
  have n_11_5 : ¬ nI w = 5 := fun q => s_11_5 ((nI_eq (a := w) (b := 5) (by omega) (by decide)).mp q)
  have n_11_6 : ¬ nI w = 6 := fun q => s_11_6 ((nI_eq (a := w) (b := 6) (by omega) (by decide)).mp q)
  have n_11_7 : ¬ nI w = 7 := fun q => s_11_7 ((nI_eq (a := w) (b := 7) (by omega) (by decide)).mp q)
  have n_11_8 : ¬ nI w = 8 := fun q => s_11_8 ((nI_eq (a := w) (b := 8) (by omega) (by decide)).mp q)
  have n_11_9 : ¬ nI w = 9 := fun q => s_11_9 ((nI_eq (a := w) (b := 9) (by omega) (by decide)).mp q)
  have n_11_10 : ¬ nI w = 10 := fun q => s_11_10 ((nI_eq (a := w) (b := 10) (by omega) (by decide)).mp q)
  have n_11_11 : ¬ nI w = 11 := fun q => s_11_11 ((nI_eq (a := w) (b := 11) (by omega) (by decide)).mp q)
  have n_11_12 : ¬ nI w = 12 := fun q => s_11_12 ((nI_eq (a := w) (b := 12) (by omega) (by decide)).mp q)
  refine k_tabOut (q := 162) C dX4_tellsCount_11 (by have t_0 := lv_neT (a := 0) n_11_0 (by decide +kernel); have t_1 := lv_neT (a := 1) n_11_1 (by decide +kernel); have t_2 := lv_neT (a := 2) n_11_2 (by decide +kernel); have t_3 := lv_neT (a := 3) n_11_3 (by decide +kernel); have t_4 := lv_neT (a := 4) n_11_4 (by decide +kernel); have t_5 := lv_neT (a := 5) n_11_5 (by decide +kernel); have t_6 := lv_neT (a := 6) n_11_6 (by decide +kernel); have t_7 := lv_neT (a := 7) n_11_7 (by decide +kernel); have t_8 := lv_neT (a := 8) n_11_8 (by decide +kernel); have t_9 := lv_neT (a := 9) n_11_9 (by decide +kernel); have t_10 := lv_neT (a := 10) n_11_10 (by decide +kernel); have t_11 := lv_neT (a := 11) n_11_11 (by decide +kernel); have t_12 := lv_neT (a := 12) n_11_12 (by decide +kernel); omega) (by decide) ?_
  refine k_aload_n (q := 163) C 0 dX4_tellsCount_162 rfl rfl ?_
  refine k_get (q := 166) (ci := 4) (v := .ref (a 1)) C 0 1 in4_X4_tellsCount rfl (List.mem_of_getElem? (i := 1) rfl) rfl rfl (by decide) rfl dX4_tellsCount_163 rfl ?_
  refine k_iconst (q := 167) (v := 0) C dX4_tellsCount_166 (by decide) rfl ?_
  refine k_iload_n (q := 168) C 1 dX4_tellsCount_167 rfl rfl ?_
  refine k_iadd (q := 169) C dX4_tellsCount_168 rfl ?_
  refine k_st (st2 := (.int (nI (0 + w)) :: _)) (congrArg (fun z => Value.int z :: _) (show 0 + (nI w) = nI (0 + w) from nI_add 0 w)) ?_
  refine k_bipush (q := 171) (v := 13) C dX4_tellsCount_169 (by decide +kernel) rfl ?_
  refine k_isub (q := 172) C dX4_tellsCount_171 rfl ?_
  refine k_st (st2 := (.int (nI (0 + w - 13)) :: _)) (congrArg (fun z => Value.int z :: _) (show (nI (0 + w)) - 13 = nI (0 + w - 13) from pk_sub (a := 0 + w) (b := 13) (by omega))) ?_
  refine k_st (st2 := (.int (nI (w - 13)) :: _)) (congrArg (fun z => Value.int z :: _) (show nI (0 + w - 13) = nI (w - 13) from congrArg nI (by omega))) ?_
  refine k_iald (q := 173) C 1 rfl (vp_in_nI (n := w - 13) (by omega) (by decide)) dX4_tellsCount_172 rfl ?_
  refine k_st (st2 := (.int ((mSt n o h t s g kn lo lf nm) (w - 13)) :: _)) (congrArg (fun z => Value.int z :: _) (show (mSt n o h t s g kn lo lf nm) (nI (w - 13)).toNatClampNeg = (mSt n o h t s g kn lo lf nm) (w - 13) from congrArg (mSt n o h t s g kn lo lf nm) (nI_clamp (n := w - 13) (by omega)))) ?_
  refine k_st (st2 := (.int (g (w - 13)) :: _)) (congrArg (fun z => Value.int z :: _) (show (mSt n o h t s g kn lo lf nm) (w - 13) = g (w - 13) from mSt_g (k := w - 13) (by omega))) ?_
  exact k_finx E (co_7, go_7) dX4_tellsCount_173 (by first | rfl | simp [mTc, s_11_0, s_11_1, s_11_2, s_11_3, s_11_4, s_11_5, s_11_6, s_11_7, s_11_8, s_11_9, s_11_10, s_11_11, s_11_12]) (rfl) (trivial)
abbrev rm_X4_count : Room := { frames := 6, cells := 0, slots := 0, locals := 130 }
theorem in4_X4_count : ∀ w ∈ wsX40, w ∈ wsX4_count := fun _ h => (List.mem_cons_of_mem _ (List.mem_append_right _ h))
set_option maxHeartbeats 4000000 in
set_option maxRecDepth 100000 in
theorem c_X4_count_e (cy : Nat → ClassId) (a : Nat → Nat) (th : Int32) (sm : Nat) (ln : Nat) (pt : Nat) (sg : Nat) (fi : Int32) (se : Int32) (n : Nat) (o : Nat → Int32) (h : Nat → Int32) (t : Nat → Int32) (s : Nat → Int32) (g : Nat → Int32) (kn : Nat) (lo : Int32) (lf : Int32) (nm : Nat → Int32) (sv : Nat → Int32) (sl : Nat → Int32) (ik : Nat → Int32) (bf : Nat → Nat) (co : Nat → Int32) (go : Nat → Int32) (fo : Nat → Int32) (x : Int32)  (hx : ¬ (0 ≤ x ∧ x ≤ 16)) : kI yX4_count wsX4_count rm_X4_count cy [.ref (a 0), .int x] (wM a cy th sm ln pt sg fi se (mSt n o h t s g kn lo lf nm) sv sl ik bf co go fo) 0 (wM a cy 1 sm ln pt sg fi se (mSt n o h t s g kn lo lf nm) sv sl ik bf co go fo) := by
  refine kI_of (cc := cX4_count) (maxL := 2) (rt := .int) (by decide) rfl (rfl) (Nat.le_of_ble_eq_true rfl) ?_
  intro X hR C E
  have C : kC X 2 RX4 cX4_count wsX4_count cy := C
  refine k_fr (fr2 := [(0, .ref (a 0)), (1, .int x)]) ⟨[0, 1], rfl⟩ ?_
  refine k_aload_n (q := 1) C 0 dX4_count_0 rfl rfl ?_
  refine k_iconst (q := 2) (v := 0) C dX4_count_1 (by decide) rfl ?_
  refine k_put (q := 5) (ci := 4) (v := .int 0) (w2 := (wM a cy 0 sm ln pt sg fi se (mSt n o h t s g kn lo lf nm) sv sl ik bf co go fo)) C 0 0 in4_X4_count rfl (List.mem_of_getElem? (i := 1) rfl) rfl tyX4 tyX4_ok nmX4 rfl (rfl) (rfl) rfl (by decide) (Nat.le_of_ble_eq_true rfl) (rfl) dX4_count_2 rfl ?_
  refine k_iload_n (q := 6) C 1 dX4_count_5 rfl rfl ?_
  refine k_iconst (q := 7) (v := 0) C dX4_count_6 (by decide) rfl ?_
  refine k_bipush (q := 9) (v := 16) C dX4_count_7 (by decide +kernel) rfl ?_
  refine k_callSI (n := 3) (q := 12) (pre := ([] : va_W)) (post := (wM a cy 0 sm ln pt sg fi se (mSt n o h t s g kn lo lf nm) sv sl ik bf co go fo)) (w2 := (wM a cy 0 sm ln pt sg fi se (mSt n o h t s g kn lo lf nm) sv sl ik bf co go fo)) (As := [.int x, .int 0, .int 16]) (rest := []) C (c_X4_within x 0 16) gX4_count_X4_within rfl rfl rfl (by decide +kernel) (k_room hR (by decide)) ⟨Nat.zero_le _, Nat.zero_le _⟩  rfl rfl (Nat.le_of_ble_eq_true rfl) (rfl) (rfl) dX4_count_9 rfl ?_
  refine k_ifB_eq (tgt := 23) (q := 15) C dX4_count_12 (by decide) rfl ?_ ?_
  · intro c_12
    refine k_aload_n (q := 24) C 0 dX4_count_23 rfl rfl ?_
    refine k_iconst (q := 25) (v := 1) C dX4_count_24 (by decide) rfl ?_
    refine k_callVI (n := 1) (q := 28) (pre := ([] : va_W)) (post := ([] : va_W)) (w2 := (wM a cy 1 sm ln pt sg fi se (mSt n o h t s g kn lo lf nm) sv sl ik bf co go fo)) (As := [.int 1]) (rest := []) C (c_X4_fails cy a 0 sm ln pt sg fi se n o h t s g kn lo lf nm sv sl ik bf co go fo 1) gX4_count_X4_fails rfl rfl rfl (by decide +kernel) (k_room hR (by decide)) ⟨Nat.zero_le _, Nat.zero_le _⟩ (ci := 4) rfl 0 rfl rfl rfl (Nat.le_of_ble_eq_true rfl) ((List.append_nil _).symm) (List.append_nil _) dX4_count_25 rfl ?_
    exact k_fin E dX4_count_28 (rfl) (rfl)
  · exact fun c_12 => absurd c_12 hx
set_option maxHeartbeats 4000000 in
set_option maxRecDepth 100000 in
theorem c_X4_count (cy : Nat → ClassId) (a : Nat → Nat) (th : Int32) (sm : Nat) (ln : Nat) (pt : Nat) (sg : Nat) (fi : Int32) (se : Int32) (n : Nat) (o : Nat → Int32) (h : Nat → Int32) (t : Nat → Int32) (s : Nat → Int32) (g : Nat → Int32) (kn : Nat) (lo : Int32) (lf : Int32) (nm : Nat → Int32) (sv : Nat → Int32) (sl : Nat → Int32) (ik : Nat → Int32) (bf : Nat → Nat) (co : Nat → Int32) (go : Nat → Int32) (fo : Nat → Int32) (w : Nat)  (hw : w ≤ 16) (hn : n ≤ 6) (ho : mBin o) (h0 : sOk (s 0)) (h1 : sOk (s 1)) : kIx yX4_count wsX4_count rm_X4_count cy [.ref (a 0), .int (nI w)] (wM a cy th sm ln pt sg fi se (mSt n o h t s g kn lo lf nm) sv sl ik bf co go fo) (mTc sm ln n o h t s g kn lo lf w) (fun (u : (Nat → Int32) × (Nat → Int32)) => (wM a cy 0 sm ln pt sg fi se (mSt n o h t s g kn lo lf nm) sv sl ik bf u.1 u.2 fo)) (fun (u : (Nat → Int32) × (Nat → Int32)) => True) := by
  refine kIx_of (cc := cX4_count) (maxL := 2) (rt := .int) (by decide) rfl (rfl) (Nat.le_of_ble_eq_true rfl) ?_
  intro X hR C E
  have C : kC X 2 RX4 cX4_count wsX4_count cy := C
  refine k_fr (fr2 := [(0, .ref (a 0)), (1, .int (nI w))]) ⟨[0, 1], rfl⟩ ?_
  refine k_aload_n (q := 1) C 0 dX4_count_0 rfl rfl ?_
  refine k_iconst (q := 2) (v := 0) C dX4_count_1 (by decide) rfl ?_
  refine k_put (q := 5) (ci := 4) (v := .int 0) (w2 := (wM a cy 0 sm ln pt sg fi se (mSt n o h t s g kn lo lf nm) sv sl ik bf co go fo)) C 0 0 in4_X4_count rfl (List.mem_of_getElem? (i := 1) rfl) rfl tyX4 tyX4_ok nmX4 rfl (rfl) (rfl) rfl (by decide) (Nat.le_of_ble_eq_true rfl) (rfl) dX4_count_2 rfl ?_
  refine k_iload_n (q := 6) C 1 dX4_count_5 rfl rfl ?_
  refine k_iconst (q := 7) (v := 0) C dX4_count_6 (by decide) rfl ?_
  refine k_bipush (q := 9) (v := 16) C dX4_count_7 (by decide +kernel) rfl ?_
  refine k_callSI (n := 3) (q := 12) (pre := ([] : va_W)) (post := (wM a cy 0 sm ln pt sg fi se (mSt n o h t s g kn lo lf nm) sv sl ik bf co go fo)) (w2 := (wM a cy 0 sm ln pt sg fi se (mSt n o h t s g kn lo lf nm) sv sl ik bf co go fo)) (As := [.int (nI w), .int 0, .int 16]) (rest := []) C (c_X4_within (nI w) 0 16) gX4_count_X4_within rfl rfl rfl (by decide +kernel) (k_room hR (by decide)) ⟨Nat.zero_le _, Nat.zero_le _⟩  rfl rfl (Nat.le_of_ble_eq_true rfl) (rfl) (rfl) dX4_count_9 rfl ?_
  refine k_ifB_eq (tgt := 23) (q := 15) C dX4_count_12 (by decide) rfl ?_ ?_
  · exact fun c_12 => absurd ⟨nI_pos' (by omega), (nI_leI (b := 16) (by omega) (by decide)).mpr hw⟩ c_12
  · intro c_12
    refine k_aload_n (q := 16) C 0 dX4_count_15 rfl rfl ?_
    refine k_iload_n (q := 17) C 1 dX4_count_16 rfl rfl ?_
    refine k_callVIx (n := 1) (q := 20) (pre := ([] : va_W)) (post := ([] : va_W)) (w2 := (fun u => (wM a cy 0 sm ln pt sg fi se (mSt n o h t s g kn lo lf nm) sv sl ik bf (u.1) (u.2) fo))) (As := [.int (nI w)]) (rest := []) C (c_X4_tellsCount cy a 0 sm ln pt sg fi se n o h t s g kn lo lf nm sv sl ik bf co go fo w hw hn ho h0 h1) gX4_count_X4_tellsCount rfl rfl rfl (by decide +kernel) (k_room hR (by decide)) ⟨Nat.zero_le _, Nat.zero_le _⟩ (ci := 4) rfl 0 rfl rfl rfl (Nat.le_of_ble_eq_true rfl) ((List.append_nil _).symm) (fun u => List.append_nil _) dX4_count_17 rfl ?_
    rintro ⟨co_17, go_17⟩ h_17
    try dsimp only at h_17
    refine k_goto (q := 28) C dX4_count_20 (by decide) ?_
    exact k_finx E (co_17, go_17) dX4_count_28 (rfl) (rfl) (trivial)
abbrev rm_X4_nearest : Room := { frames := 4, cells := 0, slots := 0, locals := 93 }
theorem in4_X4_nearest : ∀ w ∈ wsX40, w ∈ wsX4_nearest := fun _ h => (List.mem_cons_of_mem _ (List.mem_append_right _ h))
set_option maxHeartbeats 4000000 in
set_option maxRecDepth 100000 in
theorem c_X4_nearest_e (cy : Nat → ClassId) (a : Nat → Nat) (th : Int32) (sm : Nat) (ln : Nat) (pt : Nat) (sg : Nat) (fi : Int32) (se : Int32) (n : Nat) (o : Nat → Int32) (h : Nat → Int32) (t : Nat → Int32) (s : Nat → Int32) (g : Nat → Int32) (kn : Nat) (lo : Int32) (lf : Int32) (nm : Nat → Int32) (sv : Nat → Int32) (sl : Nat → Int32) (ik : Nat → Int32) (bf : Nat → Nat) (co : Nat → Int32) (go : Nat → Int32) (fo : Nat → Int32) (x : Int32) (y : Int32) (z : Int32)  (hn : n ≤ 6) (hx : ¬ ((0 ≤ x ∧ x ≤ 1) ∧ (0 ≤ y ∧ y < nI n))) : kI yX4_nearest wsX4_nearest rm_X4_nearest cy [.ref (a 0), .int x, .int y, .int z] (wM a cy th sm ln pt sg fi se (mSt n o h t s g kn lo lf nm) sv sl ik bf co go fo) 0 (wM a cy 1 sm ln pt sg fi se (mSt n o h t s g kn lo lf nm) sv sl ik bf co go fo) := by
  refine kI_of (cc := cX4_nearest) (maxL := 4) (rt := .int) (by decide) rfl (rfl) (Nat.le_of_ble_eq_true rfl) ?_
  intro X hR C E
  have C : kC X 4 RX4 cX4_nearest wsX4_nearest cy := C
  refine k_fr (fr2 := [(0, .ref (a 0)), (1, .int x), (2, .int y), (3, .int z)]) ⟨[0, 1, 2, 3], rfl⟩ ?_
  refine k_aload_n (q := 1) C 0 dX4_nearest_0 rfl rfl ?_
  refine k_iconst (q := 2) (v := 0) C dX4_nearest_1 (by decide) rfl ?_
  refine k_put (q := 5) (ci := 4) (v := .int 0) (w2 := (wM a cy 0 sm ln pt sg fi se (mSt n o h t s g kn lo lf nm) sv sl ik bf co go fo)) C 0 0 in4_X4_nearest rfl (List.mem_of_getElem? (i := 1) rfl) rfl tyX4 tyX4_ok nmX4 rfl (rfl) (rfl) rfl (by decide) (Nat.le_of_ble_eq_true rfl) (rfl) dX4_nearest_2 rfl ?_
  refine k_iload_n (q := 6) C 1 dX4_nearest_5 rfl rfl ?_
  refine k_callSI (n := 1) (q := 9) (pre := ([] : va_W)) (post := (wM a cy 0 sm ln pt sg fi se (mSt n o h t s g kn lo lf nm) sv sl ik bf co go fo)) (w2 := (wM a cy 0 sm ln pt sg fi se (mSt n o h t s g kn lo lf nm) sv sl ik bf co go fo)) (As := [.int x]) (rest := []) C (c_X4_isLight x) gX4_nearest_X4_isLight rfl rfl rfl (by decide +kernel) (k_room hR (by decide)) ⟨Nat.zero_le _, Nat.zero_le _⟩  rfl rfl (Nat.le_of_ble_eq_true rfl) (rfl) (rfl) dX4_nearest_6 rfl ?_
  refine k_ifB_eq (tgt := 20) (q := 12) C dX4_nearest_9 (by decide) rfl ?_ ?_
  · intro c_9
    refine k_aload_n (q := 21) C 0 dX4_nearest_20 rfl rfl ?_
    refine k_iconst (q := 22) (v := 1) C dX4_nearest_21 (by decide) rfl ?_
    refine k_callVI (n := 1) (q := 25) (pre := ([] : va_W)) (post := ([] : va_W)) (w2 := (wM a cy 1 sm ln pt sg fi se (mSt n o h t s g kn lo lf nm) sv sl ik bf co go fo)) (As := [.int 1]) (rest := []) C (c_X4_fails cy a 0 sm ln pt sg fi se n o h t s g kn lo lf nm sv sl ik bf co go fo 1) gX4_nearest_X4_fails rfl rfl rfl (by decide +kernel) (k_room hR (by decide)) ⟨Nat.zero_le _, Nat.zero_le _⟩ (ci := 4) rfl 0 rfl rfl rfl (Nat.le_of_ble_eq_true rfl) ((List.append_nil _).symm) (List.append_nil _) dX4_nearest_22 rfl ?_
    exact k_fin E dX4_nearest_25 (rfl) (rfl)
  · intro c_9
    refine k_aload_n (q := 13) C 0 dX4_nearest_12 rfl rfl ?_
    refine k_iload_n (q := 14) C 2 dX4_nearest_13 rfl rfl ?_
    refine k_callVI (n := 1) (q := 17) (pre := ([] : va_W)) (post := ([] : va_W)) (w2 := (wM a cy 0 sm ln pt sg fi se (mSt n o h t s g kn lo lf nm) sv sl ik bf co go fo)) (As := [.int y]) (rest := []) C (c_X4_isLayer cy a 0 sm ln pt sg fi se n o h t s g kn lo lf nm sv sl ik bf co go fo y (by omega)) gX4_nearest_X4_isLayer rfl rfl rfl (by decide +kernel) (k_room hR (by decide)) ⟨Nat.zero_le _, Nat.zero_le _⟩ (ci := 4) rfl 0 rfl rfl rfl (Nat.le_of_ble_eq_true rfl) ((List.append_nil _).symm) (List.append_nil _) dX4_nearest_14 rfl ?_
    refine k_ifB_ne (tgt := 26) (q := 20) C dX4_nearest_17 (by decide) rfl ?_ ?_
    · exact fun c_17 => absurd ⟨c_9, c_17⟩ hx
    · intro c_17
      refine k_aload_n (q := 21) C 0 dX4_nearest_20 rfl rfl ?_
      refine k_iconst (q := 22) (v := 1) C dX4_nearest_21 (by decide) rfl ?_
      refine k_callVI (n := 1) (q := 25) (pre := ([] : va_W)) (post := ([] : va_W)) (w2 := (wM a cy 1 sm ln pt sg fi se (mSt n o h t s g kn lo lf nm) sv sl ik bf co go fo)) (As := [.int 1]) (rest := []) C (c_X4_fails cy a 0 sm ln pt sg fi se n o h t s g kn lo lf nm sv sl ik bf co go fo 1) gX4_nearest_X4_fails rfl rfl rfl (by decide +kernel) (k_room hR (by decide)) ⟨Nat.zero_le _, Nat.zero_le _⟩ (ci := 4) rfl 0 rfl rfl rfl (Nat.le_of_ble_eq_true rfl) ((List.append_nil _).symm) (List.append_nil _) dX4_nearest_22 rfl ?_
      exact k_fin E dX4_nearest_25 (rfl) (rfl)
set_option maxHeartbeats 4000000 in
set_option maxRecDepth 100000 in
theorem c_X4_nearest_e2 (cy : Nat → ClassId) (a : Nat → Nat) (th : Int32) (sm : Nat) (ln : Nat) (pt : Nat) (sg : Nat) (fi : Int32) (se : Int32) (n : Nat) (o : Nat → Int32) (h : Nat → Int32) (t : Nat → Int32) (s : Nat → Int32) (g : Nat → Int32) (kn : Nat) (lo : Int32) (lf : Int32) (nm : Nat → Int32) (sv : Nat → Int32) (sl : Nat → Int32) (ik : Nat → Int32) (bf : Nat → Nat) (co : Nat → Int32) (go : Nat → Int32) (fo : Nat → Int32) (j : Nat) (p : Nat) (z : Int32)  (hn : n ≤ 6) (hj : j < 2) (hp : p < n) (hz : ¬ (0 ≤ z ∧ z ≤ 1)) : kI yX4_nearest wsX4_nearest rm_X4_nearest cy [.ref (a 0), .int (nI j), .int (nI p), .int z] (wM a cy th sm ln pt sg fi se (mSt n o h t s g kn lo lf nm) sv sl ik bf co go fo) 0 (wM a cy 2 sm ln pt sg fi se (mSt n o h t s g kn lo lf nm) sv sl ik bf co go fo) := by
  refine kI_of (cc := cX4_nearest) (maxL := 4) (rt := .int) (by decide) rfl (rfl) (Nat.le_of_ble_eq_true rfl) ?_
  intro X hR C E
  have C : kC X 4 RX4 cX4_nearest wsX4_nearest cy := C
  refine k_fr (fr2 := [(0, .ref (a 0)), (1, .int (nI j)), (2, .int (nI p)), (3, .int z)]) ⟨[0, 1, 2, 3], rfl⟩ ?_
  refine k_aload_n (q := 1) C 0 dX4_nearest_0 rfl rfl ?_
  refine k_iconst (q := 2) (v := 0) C dX4_nearest_1 (by decide) rfl ?_
  refine k_put (q := 5) (ci := 4) (v := .int 0) (w2 := (wM a cy 0 sm ln pt sg fi se (mSt n o h t s g kn lo lf nm) sv sl ik bf co go fo)) C 0 0 in4_X4_nearest rfl (List.mem_of_getElem? (i := 1) rfl) rfl tyX4 tyX4_ok nmX4 rfl (rfl) (rfl) rfl (by decide) (Nat.le_of_ble_eq_true rfl) (rfl) dX4_nearest_2 rfl ?_
  refine k_iload_n (q := 6) C 1 dX4_nearest_5 rfl rfl ?_
  refine k_callSI (n := 1) (q := 9) (pre := ([] : va_W)) (post := (wM a cy 0 sm ln pt sg fi se (mSt n o h t s g kn lo lf nm) sv sl ik bf co go fo)) (w2 := (wM a cy 0 sm ln pt sg fi se (mSt n o h t s g kn lo lf nm) sv sl ik bf co go fo)) (As := [.int (nI j)]) (rest := []) C (c_X4_isLight (nI j)) gX4_nearest_X4_isLight rfl rfl rfl (by decide +kernel) (k_room hR (by decide)) ⟨Nat.zero_le _, Nat.zero_le _⟩  rfl rfl (Nat.le_of_ble_eq_true rfl) (rfl) (rfl) dX4_nearest_6 rfl ?_
  refine k_ifB_eq (tgt := 20) (q := 12) C dX4_nearest_9 (by decide) rfl ?_ ?_
  · exact fun c_9 => absurd (mSlot hj) c_9
  · intro c_9
    refine k_aload_n (q := 13) C 0 dX4_nearest_12 rfl rfl ?_
    refine k_iload_n (q := 14) C 2 dX4_nearest_13 rfl rfl ?_
    refine k_callVI (n := 1) (q := 17) (pre := ([] : va_W)) (post := ([] : va_W)) (w2 := (wM a cy 0 sm ln pt sg fi se (mSt n o h t s g kn lo lf nm) sv sl ik bf co go fo)) (As := [.int (nI p)]) (rest := []) C (c_X4_isLayer cy a 0 sm ln pt sg fi se n o h t s g kn lo lf nm sv sl ik bf co go fo (nI p) (by omega)) gX4_nearest_X4_isLayer rfl rfl rfl (by decide +kernel) (k_room hR (by decide)) ⟨Nat.zero_le _, Nat.zero_le _⟩ (ci := 4) rfl 0 rfl rfl rfl (Nat.le_of_ble_eq_true rfl) ((List.append_nil _).symm) (List.append_nil _) dX4_nearest_14 rfl ?_
    refine k_ifB_ne (tgt := 26) (q := 20) C dX4_nearest_17 (by decide) rfl ?_ ?_
    · intro c_17
      refine k_iload_n (q := 27) C 3 dX4_nearest_26 rfl rfl ?_
      refine k_iconst (q := 28) (v := 0) C dX4_nearest_27 (by decide) rfl ?_
      refine k_iconst (q := 29) (v := 1) C dX4_nearest_28 (by decide) rfl ?_
      refine k_callSI (n := 3) (q := 32) (pre := ([] : va_W)) (post := (wM a cy 0 sm ln pt sg fi se (mSt n o h t s g kn lo lf nm) sv sl ik bf co go fo)) (w2 := (wM a cy 0 sm ln pt sg fi se (mSt n o h t s g kn lo lf nm) sv sl ik bf co go fo)) (As := [.int z, .int 0, .int 1]) (rest := []) C (c_X4_within z 0 1) gX4_nearest_X4_within rfl rfl rfl (by decide +kernel) (k_room hR (by decide)) ⟨Nat.zero_le _, Nat.zero_le _⟩  rfl rfl (Nat.le_of_ble_eq_true rfl) (rfl) (rfl) dX4_nearest_29 rfl ?_
      refine k_ifB_eq (tgt := 47) (q := 35) C dX4_nearest_32 (by decide) rfl ?_ ?_
      · intro c_32
        refine k_aload_n (q := 48) C 0 dX4_nearest_47 rfl rfl ?_
        refine k_iconst (q := 49) (v := 2) C dX4_nearest_48 (by decide) rfl ?_
        refine k_callVI (n := 1) (q := 52) (pre := ([] : va_W)) (post := ([] : va_W)) (w2 := (wM a cy 2 sm ln pt sg fi se (mSt n o h t s g kn lo lf nm) sv sl ik bf co go fo)) (As := [.int 2]) (rest := []) C (c_X4_fails cy a 0 sm ln pt sg fi se n o h t s g kn lo lf nm sv sl ik bf co go fo 2) gX4_nearest_X4_fails rfl rfl rfl (by decide +kernel) (k_room hR (by decide)) ⟨Nat.zero_le _, Nat.zero_le _⟩ (ci := 4) rfl 0 rfl rfl rfl (Nat.le_of_ble_eq_true rfl) ((List.append_nil _).symm) (List.append_nil _) dX4_nearest_49 rfl ?_
        exact k_fin E dX4_nearest_52 (rfl) (rfl)
      · exact fun c_32 => absurd c_32 hz
    · exact fun c_17 => absurd ⟨nI_pos' (by omega), nI_lt (by omega) (by omega)⟩ c_17
set_option maxHeartbeats 4000000 in
set_option maxRecDepth 100000 in
theorem c_X4_nearest (cy : Nat → ClassId) (a : Nat → Nat) (th : Int32) (sm : Nat) (ln : Nat) (pt : Nat) (sg : Nat) (fi : Int32) (se : Int32) (n : Nat) (o : Nat → Int32) (h : Nat → Int32) (t : Nat → Int32) (s : Nat → Int32) (g : Nat → Int32) (kn : Nat) (lo : Int32) (lf : Int32) (nm : Nat → Int32) (sv : Nat → Int32) (sl : Nat → Int32) (ik : Nat → Int32) (bf : Nat → Nat) (co : Nat → Int32) (go : Nat → Int32) (fo : Nat → Int32) (j : Nat) (p : Nat) (z : Int32)  (hn : n ≤ 6) (hj : j < 2) (hp : p < n) (hz : 0 ≤ z ∧ z ≤ 1) : kI yX4_nearest wsX4_nearest rm_X4_nearest cy [.ref (a 0), .int (nI j), .int (nI p), .int z] (wM a cy th sm ln pt sg fi se (mSt n o h t s g kn lo lf nm) sv sl ik bf co go fo) ((mB (sFar g h s j p) 61).1 + 100) (wM a cy 0 sm ln pt sg fi se (mSt n o h t s g kn lo lf nm) sv sl ik bf co go fo) := by
  refine kI_of (cc := cX4_nearest) (maxL := 4) (rt := .int) (by decide) rfl (rfl) (Nat.le_of_ble_eq_true rfl) ?_
  intro X hR C E
  have C : kC X 4 RX4 cX4_nearest wsX4_nearest cy := C
  refine k_fr (fr2 := [(0, .ref (a 0)), (1, .int (nI j)), (2, .int (nI p)), (3, .int z)]) ⟨[0, 1, 2, 3], rfl⟩ ?_
  refine k_aload_n (q := 1) C 0 dX4_nearest_0 rfl rfl ?_
  refine k_iconst (q := 2) (v := 0) C dX4_nearest_1 (by decide) rfl ?_
  refine k_put (q := 5) (ci := 4) (v := .int 0) (w2 := (wM a cy 0 sm ln pt sg fi se (mSt n o h t s g kn lo lf nm) sv sl ik bf co go fo)) C 0 0 in4_X4_nearest rfl (List.mem_of_getElem? (i := 1) rfl) rfl tyX4 tyX4_ok nmX4 rfl (rfl) (rfl) rfl (by decide) (Nat.le_of_ble_eq_true rfl) (rfl) dX4_nearest_2 rfl ?_
  refine k_iload_n (q := 6) C 1 dX4_nearest_5 rfl rfl ?_
  refine k_callSI (n := 1) (q := 9) (pre := ([] : va_W)) (post := (wM a cy 0 sm ln pt sg fi se (mSt n o h t s g kn lo lf nm) sv sl ik bf co go fo)) (w2 := (wM a cy 0 sm ln pt sg fi se (mSt n o h t s g kn lo lf nm) sv sl ik bf co go fo)) (As := [.int (nI j)]) (rest := []) C (c_X4_isLight (nI j)) gX4_nearest_X4_isLight rfl rfl rfl (by decide +kernel) (k_room hR (by decide)) ⟨Nat.zero_le _, Nat.zero_le _⟩  rfl rfl (Nat.le_of_ble_eq_true rfl) (rfl) (rfl) dX4_nearest_6 rfl ?_
  refine k_ifB_eq (tgt := 20) (q := 12) C dX4_nearest_9 (by decide) rfl ?_ ?_
  · exact fun c_9 => absurd (mSlot hj) c_9
  · intro c_9
    refine k_aload_n (q := 13) C 0 dX4_nearest_12 rfl rfl ?_
    refine k_iload_n (q := 14) C 2 dX4_nearest_13 rfl rfl ?_
    refine k_callVI (n := 1) (q := 17) (pre := ([] : va_W)) (post := ([] : va_W)) (w2 := (wM a cy 0 sm ln pt sg fi se (mSt n o h t s g kn lo lf nm) sv sl ik bf co go fo)) (As := [.int (nI p)]) (rest := []) C (c_X4_isLayer cy a 0 sm ln pt sg fi se n o h t s g kn lo lf nm sv sl ik bf co go fo (nI p) (by omega)) gX4_nearest_X4_isLayer rfl rfl rfl (by decide +kernel) (k_room hR (by decide)) ⟨Nat.zero_le _, Nat.zero_le _⟩ (ci := 4) rfl 0 rfl rfl rfl (Nat.le_of_ble_eq_true rfl) ((List.append_nil _).symm) (List.append_nil _) dX4_nearest_14 rfl ?_
    refine k_ifB_ne (tgt := 26) (q := 20) C dX4_nearest_17 (by decide) rfl ?_ ?_
    · intro c_17
      refine k_iload_n (q := 27) C 3 dX4_nearest_26 rfl rfl ?_
      refine k_iconst (q := 28) (v := 0) C dX4_nearest_27 (by decide) rfl ?_
      refine k_iconst (q := 29) (v := 1) C dX4_nearest_28 (by decide) rfl ?_
      refine k_callSI (n := 3) (q := 32) (pre := ([] : va_W)) (post := (wM a cy 0 sm ln pt sg fi se (mSt n o h t s g kn lo lf nm) sv sl ik bf co go fo)) (w2 := (wM a cy 0 sm ln pt sg fi se (mSt n o h t s g kn lo lf nm) sv sl ik bf co go fo)) (As := [.int z, .int 0, .int 1]) (rest := []) C (c_X4_within z 0 1) gX4_nearest_X4_within rfl rfl rfl (by decide +kernel) (k_room hR (by decide)) ⟨Nat.zero_le _, Nat.zero_le _⟩  rfl rfl (Nat.le_of_ble_eq_true rfl) (rfl) (rfl) dX4_nearest_29 rfl ?_
      refine k_ifB_eq (tgt := 47) (q := 35) C dX4_nearest_32 (by decide) rfl ?_ ?_
      · exact fun c_32 => absurd hz c_32
      · intro c_32
        refine k_aload_n (q := 36) C 0 dX4_nearest_35 rfl rfl ?_
        refine k_iload_n (q := 37) C 1 dX4_nearest_36 rfl rfl ?_
        refine k_iload_n (q := 38) C 2 dX4_nearest_37 rfl rfl ?_
        refine k_callVI (n := 2) (q := 41) (pre := ([] : va_W)) (post := ([] : va_W)) (w2 := (wM a cy 0 sm ln pt sg fi se (mSt n o h t s g kn lo lf nm) sv sl ik bf co go fo)) (As := [.int (nI j), .int (nI p)]) (rest := []) C (c_X4_bestSlope cy a 0 sm ln pt sg fi se n o h t s g kn lo lf nm sv sl ik bf co go fo j p (by omega) (by omega)) gX4_nearest_X4_bestSlope rfl rfl rfl (by decide +kernel) (k_room hR (by decide)) ⟨Nat.zero_le _, Nat.zero_le _⟩ (ci := 4) rfl 0 rfl rfl rfl (Nat.le_of_ble_eq_true rfl) ((List.append_nil _).symm) (List.append_nil _) dX4_nearest_38 rfl ?_
        refine k_bipush (q := 43) (v := 100) C dX4_nearest_41 (by decide +kernel) rfl ?_
        refine k_iadd (q := 44) C dX4_nearest_43 rfl ?_
        refine k_goto (q := 52) C dX4_nearest_44 (by decide) ?_
        exact k_fin E dX4_nearest_52 (by simp [bI, hn, hj, hp, hz, c_9, c_17, c_32]) (rfl)
    · exact fun c_17 => absurd ⟨nI_pos' (by omega), nI_lt (by omega) (by omega)⟩ c_17
abbrev rm_X4_wouldScan : Room := { frames := 6, cells := 0, slots := 0, locals := 132 }
theorem in4_X4_wouldScan : ∀ w ∈ wsX40, w ∈ wsX4_wouldScan := fun _ h => (List.mem_cons_of_mem _ (List.mem_append_right _ h))
set_option maxHeartbeats 4000000 in
set_option maxRecDepth 100000 in
theorem lp_X4_wouldScan_27 (cy : Nat → ClassId) (a : Nat → Nat) (th : Int32) (sm : Nat) (ln : Nat) (pt : Nat) (sg : Nat) (fi : Int32) (se : Int32) (n : Nat) (o : Nat → Int32) (h : Nat → Int32) (t : Nat → Int32) (s : Nat → Int32) (g : Nat → Int32) (kn : Nat) (lo : Int32) (lf : Int32) (nm : Nat → Int32) (sv : Nat → Int32) (sl : Nat → Int32) (ik : Nat → Int32) (bf : Nat → Nat) (co : Nat → Int32) (go : Nat → Int32) (fo : Nat → Int32) (j : Nat) (w : Nat)  (hj : j < 2) (hw : w ≤ 3) (hn : n ≤ 6) (ho : mBin o) (h0 : sOk (s 0)) (h1 : sOk (s 1)) (X : kX) (hR : xR X = rm_X4_wouldScan) (C : kC X 9 RX4 cX4_wouldScan wsX4_wouldScan cy) (E : kEndx X 9 cX4_wouldScan (mWv (mWs (mIs o h t s g n j) (mF3 o h t s g n j) 61) w) (fun (u : (Nat → Int32) × (Nat → Int32) × (Nat → Int32)) => (wM a cy th sm ln pt sg fi se (mSt n o h t s g kn lo lf nm) sv sl ik bf u.1 u.2.1 u.2.2)) (fun (u : (Nat → Int32) × (Nat → Int32) × (Nat → Int32)) => True)) : ∀ (fu : Nat) (k : Nat) (s1 : Nat → Int32) (c1 : Nat → Int32) (g1 : Nat → Int32) (f1 : Nat → Int32), 61 - k < fu → (k ≤ 61) → (upd s1 j (s j) = s) → kG X 9 0 0 (wM a cy th sm ln pt sg fi se (mSt n o h t s1 g kn lo lf nm) sv sl ik bf c1 g1 f1) 27 [(0, .ref (a 0)), (1, .int (nI j)), (2, .int (nI w)), (3, .int (s j)), (4, .int (nI ((mWs (mIs o h t s g n j) (mF3 o h t s g n j) k).1))), (5, .int ((mWs (mIs o h t s g n j) (mF3 o h t s g n j) k).2.1)), (6, .int ((mWs (mIs o h t s g n j) (mF3 o h t s g n j) k).2.2.1)), (7, .int ((mWs (mIs o h t s g n j) (mF3 o h t s g n j) k).2.2.2)), (8, .int (iI (-30 + (k : Int))))] [] := by
  intro fu
  induction fu with
  | zero => intro k s1 c1 g1 f1 hfu; exact absurd hfu (Nat.not_lt_zero _)
  | succ fu ih =>
    intro k s1 c1 g1 f1 hfu hk hs
    have hwl := mWs_le (mIs o h t s g n j) (mF3 o h t s g n j) k
    refine k_iload (q := 29) C 8 dX4_wouldScan_27 rfl rfl ?_
    refine k_bipush (q := 31) (v := 30) C dX4_wouldScan_29 (by decide +kernel) rfl ?_
    refine k_icmp_gt (tgt := 97) (q := 34) C dX4_wouldScan_31 (by decide) rfl ?_ ?_
    · intro c_31
      have cc1 : 30 < -30 + (k : Int) := (iI_lt (a := 30) (by omega) (by omega)).mp c_31
      have hke : k = 61 := by omega
      obtain rfl : k = 61 := hke
      refine k_aload_n (q := 98) C 0 dX4_wouldScan_97 rfl rfl ?_
      refine k_get (q := 101) (ci := 4) (v := .ref (a 1)) C 0 1 in4_X4_wouldScan rfl (List.mem_of_getElem? (i := 1) rfl) rfl rfl (by decide) rfl dX4_wouldScan_98 rfl ?_
      refine k_iconst (q := 102) (v := 4) C dX4_wouldScan_101 (by decide) rfl ?_
      refine k_iload_n (q := 103) C 1 dX4_wouldScan_102 rfl rfl ?_
      refine k_iadd (q := 104) C dX4_wouldScan_103 rfl ?_
      refine k_st (st2 := (.int (nI (4 + j)) :: _)) (congrArg (fun z => Value.int z :: _) (show 4 + (nI j) = nI (4 + j) from nI_add 4 j)) ?_
      refine k_iload_n (q := 105) C 3 dX4_wouldScan_104 rfl rfl ?_
      refine k_iast (q := 106) (w2 := (wM a cy th sm ln pt sg fi se (mSt n o h t (upd s1 j (s j)) g kn lo lf nm) sv sl ik bf c1 g1 f1)) C 1 rfl (vp_in_nI (n := 4 + j) (by omega) (by decide)) (by rw [nI_clamp (n := 4 + j) (by omega)]; exact wM_st (mSt_ws (k := j) (by omega))) dX4_wouldScan_105 rfl ?_
      refine k_iload_n (q := 107) C 2 dX4_wouldScan_106 rfl rfl ?_
      refine k_nif_ne (a := w)  (tgt := 115) (q := 110) C dX4_wouldScan_107 (by decide) rfl (by omega) ?_ ?_
      · intro c_107
        refine k_iload_n (q := 116) C 2 dX4_wouldScan_115 rfl rfl ?_
        refine k_iconst (q := 117) (v := 1) C dX4_wouldScan_116 (by decide) rfl ?_
        refine k_nicmp_ne (a := w) (b := 1)  (tgt := 125) (q := 120) C dX4_wouldScan_117 (by decide) rfl (by omega) (by decide) ?_ ?_
        · intro c_117
          refine k_iload_n (q := 126) C 2 dX4_wouldScan_125 rfl rfl ?_
          refine k_iconst (q := 127) (v := 2) C dX4_wouldScan_126 (by decide) rfl ?_
          refine k_nicmp_ne (a := w) (b := 2)  (tgt := 135) (q := 130) C dX4_wouldScan_127 (by decide) rfl (by omega) (by decide) ?_ ?_
          · intro c_127
            refine k_iload (q := 137) C 7 dX4_wouldScan_135 rfl rfl ?_
            exact k_finx E (c1, g1, f1) dX4_wouldScan_137 (by first | (rw [mWv, if_pos (by omega)]; done) | (rw [mWv, if_neg (by omega), if_pos (by omega)]; done) | (rw [mWv, if_neg (by omega), if_neg (by omega), if_pos (by omega)]; done) | (rw [mWv, if_neg (by omega), if_neg (by omega), if_neg (by omega)]; done)) (by rw [hs]) (trivial)
          · intro c_127
            refine k_iload (q := 132) C 6 dX4_wouldScan_130 rfl rfl ?_
            refine k_goto (q := 137) C dX4_wouldScan_132 (by decide) ?_
            exact k_finx E (c1, g1, f1) dX4_wouldScan_137 (by first | (rw [mWv, if_pos (by omega)]; done) | (rw [mWv, if_neg (by omega), if_pos (by omega)]; done) | (rw [mWv, if_neg (by omega), if_neg (by omega), if_pos (by omega)]; done) | (rw [mWv, if_neg (by omega), if_neg (by omega), if_neg (by omega)]; done)) (by rw [hs]) (trivial)
        · intro c_117
          refine k_iload (q := 122) C 5 dX4_wouldScan_120 rfl rfl ?_
          refine k_goto (q := 137) C dX4_wouldScan_122 (by decide) ?_
          exact k_finx E (c1, g1, f1) dX4_wouldScan_137 (by first | (rw [mWv, if_pos (by omega)]; done) | (rw [mWv, if_neg (by omega), if_pos (by omega)]; done) | (rw [mWv, if_neg (by omega), if_neg (by omega), if_pos (by omega)]; done) | (rw [mWv, if_neg (by omega), if_neg (by omega), if_neg (by omega)]; done)) (by rw [hs]) (trivial)
      · intro c_107
        refine k_iload (q := 112) C 4 dX4_wouldScan_110 rfl rfl ?_
        refine k_goto (q := 137) C dX4_wouldScan_112 (by decide) ?_
        exact k_finx E (c1, g1, f1) dX4_wouldScan_137 (by first | (rw [mWv, if_pos (by omega)]; done) | (rw [mWv, if_neg (by omega), if_pos (by omega)]; done) | (rw [mWv, if_neg (by omega), if_neg (by omega), if_pos (by omega)]; done) | (rw [mWv, if_neg (by omega), if_neg (by omega), if_neg (by omega)]; done)) (by rw [hs]) (trivial)
    · intro c_31
      have cc1 : ¬ 30 < -30 + (k : Int) := fun q => c_31 ((iI_lt (a := 30) (by omega) (by omega)).mpr q)
      refine k_aload_n (q := 35) C 0 dX4_wouldScan_34 rfl rfl ?_
      refine k_get (q := 38) (ci := 4) (v := .ref (a 1)) C 0 1 in4_X4_wouldScan rfl (List.mem_of_getElem? (i := 1) rfl) rfl rfl (by decide) rfl dX4_wouldScan_35 rfl ?_
      refine k_iconst (q := 39) (v := 4) C dX4_wouldScan_38 (by decide) rfl ?_
      refine k_iload_n (q := 40) C 1 dX4_wouldScan_39 rfl rfl ?_
      refine k_iadd (q := 41) C dX4_wouldScan_40 rfl ?_
      refine k_st (st2 := (.int (nI (4 + j)) :: _)) (congrArg (fun z => Value.int z :: _) (show 4 + (nI j) = nI (4 + j) from nI_add 4 j)) ?_
      refine k_iload (q := 43) C 8 dX4_wouldScan_41 rfl rfl ?_
      refine k_iast (q := 44) (w2 := (wM a cy th sm ln pt sg fi se (mSt n o h t (upd s1 j (iI (-30 + (k : Int)))) g kn lo lf nm) sv sl ik bf c1 g1 f1)) C 1 rfl (vp_in_nI (n := 4 + j) (by omega) (by decide)) (by rw [nI_clamp (n := 4 + j) (by omega)]; exact wM_st (mSt_ws (k := j) (by omega))) dX4_wouldScan_43 rfl ?_
      refine k_w (w2 := (wM a cy th sm ln pt sg fi se (mSt n o h t (upd s j (iI (-30 + (k : Int)))) g kn lo lf nm) sv sl ik bf c1 g1 f1)) (by rw [upd_to hs]) ?_
      refine k_aload_n (q := 45) C 0 dX4_wouldScan_44 rfl rfl ?_
      refine k_callVIx (n := 0) (q := 48) (pre := ([] : va_W)) (post := ([] : va_W)) (w2 := (fun u => (wM a cy th sm ln pt sg fi se (mSt n o h t (upd s j (iI (-30 + (k : Int)))) g kn lo lf nm) sv sl ik bf (u.1) (u.2.1) (u.2.2)))) (As := []) (rest := []) C (c_X4_read cy a th sm ln pt sg fi se n o h t (upd s j (iI (-30 + (k : Int)))) g kn lo lf nm sv sl ik bf c1 g1 f1 hn ho (sOk_upd h0 (sOk_i (by omega))) (sOk_upd h1 (sOk_i (by omega)))) gX4_wouldScan_X4_read rfl rfl rfl (by decide +kernel) (k_room hR (by decide)) ⟨Nat.zero_le _, Nat.zero_le _⟩ (ci := 4) rfl 0 rfl rfl rfl (Nat.le_of_ble_eq_true rfl) ((List.append_nil _).symm) (fun u => List.append_nil _) dX4_wouldScan_45 rfl ?_
      rintro ⟨co_45, go_45, fo_45⟩ h_45
      try dsimp only at h_45
      refine k_ifB_eq (tgt := 91) (q := 51) C dX4_wouldScan_48 (by decide) rfl ?_ ?_
      · intro c_48
        refine k_iinc (q := 94) (v := iI (-30 + ((k + 1 : Nat) : Int))) (fr2 := [(8, .int (iI (-30 + ((k + 1 : Nat) : Int)))), (0, .ref (a 0)), (1, .int (nI j)), (2, .int (nI w)), (3, .int (s j)), (4, .int (nI ((mWs (mIs o h t s g n j) (mF3 o h t s g n j) k).1))), (5, .int ((mWs (mIs o h t s g n j) (mF3 o h t s g n j) k).2.1)), (6, .int ((mWs (mIs o h t s g n j) (mF3 o h t s g n j) k).2.2.1)), (7, .int ((mWs (mIs o h t s g n j) (mF3 o h t s g n j) k).2.2.2))]) C 8 dX4_wouldScan_91 rfl ((show iI (-30 + (k : Int)) + iI 1 = _ from by rw [iI_add]; congr 1; omega)) (by decide) rfl rfl ?_
        refine k_goto (q := 27) C dX4_wouldScan_94 (by decide) ?_
        refine k_fr (fr2 := [(0, .ref (a 0)), (1, .int (nI j)), (2, .int (nI w)), (3, .int (s j)), (4, .int (nI ((mWs (mIs o h t s g n j) (mF3 o h t s g n j) k).1))), (5, .int ((mWs (mIs o h t s g n j) (mF3 o h t s g n j) k).2.1)), (6, .int ((mWs (mIs o h t s g n j) (mF3 o h t s g n j) k).2.2.1)), (7, .int ((mWs (mIs o h t s g n j) (mF3 o h t s g n j) k).2.2.2)), (8, .int (iI (-30 + ((k + 1 : Nat) : Int))))]) ⟨[1, 2, 3, 4, 5, 6, 7, 8, 0], rfl⟩ ?_
        have K := ih (k + 1) (upd s j (iI (-30 + (k : Int)))) co_45 go_45 fo_45 (by omega) (by omega) (upd_back (upd_self s j))
        first | rw [mWs_n (fun q => c_48 (of_decide_eq_true q))] at K | rw [mWs_y (decide_eq_true c_48)] at K
        exact K
      · intro c_48
        obtain ⟨p, hp, ep⟩ := (mC_ex _ _ _).resolve_left c_48.2
        refine k_iinc (q := 54) (v := nI ((mWs (mIs o h t s g n j) (mF3 o h t s g n j) k).1 + 1)) (fr2 := [(4, .int (nI ((mWs (mIs o h t s g n j) (mF3 o h t s g n j) k).1 + 1))), (0, .ref (a 0)), (1, .int (nI j)), (2, .int (nI w)), (3, .int (s j)), (5, .int ((mWs (mIs o h t s g n j) (mF3 o h t s g n j) k).2.1)), (6, .int ((mWs (mIs o h t s g n j) (mF3 o h t s g n j) k).2.2.1)), (7, .int ((mWs (mIs o h t s g n j) (mF3 o h t s g n j) k).2.2.2)), (8, .int (iI (-30 + (k : Int))))]) C 4 dX4_wouldScan_51 rfl (nI_add ((mWs (mIs o h t s g n j) (mF3 o h t s g n j) k).1) 1) (by decide) rfl rfl ?_
        refine k_iload (q := 56) C 5 dX4_wouldScan_54 rfl rfl ?_
        refine k_aload_n (q := 57) C 1 dX4_wouldScan_56 rfl rfl ?_
        refine k_get (q := 60) (ci := 4) (v := .ref (a 8)) C 0 14 in4_X4_wouldScan rfl (List.mem_of_getElem? (i := 3) rfl) rfl rfl (by decide) rfl dX4_wouldScan_57 rfl ?_
        refine k_iconst (q := 61) (v := 3) C dX4_wouldScan_60 (by decide) rfl ?_
        refine k_iald (q := 62) C 8 rfl (vp_in_nI (n := 3) (by decide) (by decide)) dX4_wouldScan_61 rfl ?_
        refine k_st (st2 := (.int (fo_45 3) :: _)) (congrArg (fun z => Value.int z :: _) (show fo_45 (3 : Int32).toNatClampNeg = fo_45 3 from congrArg fo_45 (nI_clamp (n := 3) (by decide)))) ?_
        refine k_st (st2 := (.int (mF3 o h t s g n j k) :: _)) (congrArg (fun z => Value.int z :: _) (show fo_45 3 = mF3 o h t s g n j k from mFo (w := 3) (by decide) hp hn c_48.1 ep h_45)) ?_
        refine k_iadd (q := 63) C dX4_wouldScan_62 rfl ?_
        refine k_istore (q := 65) (fr2 := [(5, .int (((mWs (mIs o h t s g n j) (mF3 o h t s g n j) k).2.1) + (mF3 o h t s g n j k))), (4, .int (nI ((mWs (mIs o h t s g n j) (mF3 o h t s g n j) k).1 + 1))), (0, .ref (a 0)), (1, .int (nI j)), (2, .int (nI w)), (3, .int (s j)), (6, .int ((mWs (mIs o h t s g n j) (mF3 o h t s g n j) k).2.2.1)), (7, .int ((mWs (mIs o h t s g n j) (mF3 o h t s g n j) k).2.2.2)), (8, .int (iI (-30 + (k : Int))))]) C dX4_wouldScan_63 (by decide) rfl rfl ?_
        refine k_iload (q := 67) C 6 dX4_wouldScan_65 rfl rfl ?_
        refine k_ldc (q := 69) (v := -99999) C (List.mem_of_getElem? (i := 2) rfl) dX4_wouldScan_67 rfl ?_
        refine k_icmp_ne (tgt := 80) (q := 72) C dX4_wouldScan_69 (by decide) rfl ?_ ?_
        · intro c_69
          refine k_iload (q := 82) C 6 dX4_wouldScan_80 rfl rfl ?_
          refine k_st (st2 := (.int (if (mWs (mIs o h t s g n j) (mF3 o h t s g n j) k).2.2.1 = -99999 then iI (-30 + (k : Int)) + 100 else (mWs (mIs o h t s g n j) (mF3 o h t s g n j) k).2.2.1) :: _)) (congrArg (fun z => Value.int z :: _) (show (mWs (mIs o h t s g n j) (mF3 o h t s g n j) k).2.2.1 = if (mWs (mIs o h t s g n j) (mF3 o h t s g n j) k).2.2.1 = -99999 then iI (-30 + (k : Int)) + 100 else (mWs (mIs o h t s g n j) (mF3 o h t s g n j) k).2.2.1 from by first | rw [if_neg c_69] | rw [if_pos c_69])) ?_
          refine k_istore (q := 84) (fr2 := [(6, .int (if (mWs (mIs o h t s g n j) (mF3 o h t s g n j) k).2.2.1 = -99999 then iI (-30 + (k : Int)) + 100 else (mWs (mIs o h t s g n j) (mF3 o h t s g n j) k).2.2.1)), (5, .int (((mWs (mIs o h t s g n j) (mF3 o h t s g n j) k).2.1) + (mF3 o h t s g n j k))), (4, .int (nI ((mWs (mIs o h t s g n j) (mF3 o h t s g n j) k).1 + 1))), (0, .ref (a 0)), (1, .int (nI j)), (2, .int (nI w)), (3, .int (s j)), (7, .int ((mWs (mIs o h t s g n j) (mF3 o h t s g n j) k).2.2.2)), (8, .int (iI (-30 + (k : Int))))]) C dX4_wouldScan_82 (by decide) rfl rfl ?_
          refine k_iload (q := 86) C 8 dX4_wouldScan_84 rfl rfl ?_
          refine k_bipush (q := 88) (v := 100) C dX4_wouldScan_86 (by decide +kernel) rfl ?_
          refine k_iadd (q := 89) C dX4_wouldScan_88 rfl ?_
          refine k_istore (q := 91) (fr2 := [(7, .int ((iI (-30 + (k : Int))) + 100)), (6, .int (if (mWs (mIs o h t s g n j) (mF3 o h t s g n j) k).2.2.1 = -99999 then iI (-30 + (k : Int)) + 100 else (mWs (mIs o h t s g n j) (mF3 o h t s g n j) k).2.2.1)), (5, .int (((mWs (mIs o h t s g n j) (mF3 o h t s g n j) k).2.1) + (mF3 o h t s g n j k))), (4, .int (nI ((mWs (mIs o h t s g n j) (mF3 o h t s g n j) k).1 + 1))), (0, .ref (a 0)), (1, .int (nI j)), (2, .int (nI w)), (3, .int (s j)), (8, .int (iI (-30 + (k : Int))))]) C dX4_wouldScan_89 (by decide) rfl rfl ?_
          refine k_iinc (q := 94) (v := iI (-30 + ((k + 1 : Nat) : Int))) (fr2 := [(8, .int (iI (-30 + ((k + 1 : Nat) : Int)))), (7, .int ((iI (-30 + (k : Int))) + 100)), (6, .int (if (mWs (mIs o h t s g n j) (mF3 o h t s g n j) k).2.2.1 = -99999 then iI (-30 + (k : Int)) + 100 else (mWs (mIs o h t s g n j) (mF3 o h t s g n j) k).2.2.1)), (5, .int (((mWs (mIs o h t s g n j) (mF3 o h t s g n j) k).2.1) + (mF3 o h t s g n j k))), (4, .int (nI ((mWs (mIs o h t s g n j) (mF3 o h t s g n j) k).1 + 1))), (0, .ref (a 0)), (1, .int (nI j)), (2, .int (nI w)), (3, .int (s j))]) C 8 dX4_wouldScan_91 rfl ((show iI (-30 + (k : Int)) + iI 1 = _ from by rw [iI_add]; congr 1; omega)) (by decide) rfl rfl ?_
          refine k_goto (q := 27) C dX4_wouldScan_94 (by decide) ?_
          refine k_fr (fr2 := [(0, .ref (a 0)), (1, .int (nI j)), (2, .int (nI w)), (3, .int (s j)), (4, .int (nI ((mWs (mIs o h t s g n j) (mF3 o h t s g n j) k).1 + 1))), (5, .int (((mWs (mIs o h t s g n j) (mF3 o h t s g n j) k).2.1) + (mF3 o h t s g n j k))), (6, .int (if (mWs (mIs o h t s g n j) (mF3 o h t s g n j) k).2.2.1 = -99999 then iI (-30 + (k : Int)) + 100 else (mWs (mIs o h t s g n j) (mF3 o h t s g n j) k).2.2.1)), (7, .int ((iI (-30 + (k : Int))) + 100)), (8, .int (iI (-30 + ((k + 1 : Nat) : Int))))]) ⟨[5, 6, 7, 8, 4, 3, 2, 1, 0], rfl⟩ ?_
          have K := ih (k + 1) (upd s j (iI (-30 + (k : Int)))) co_45 go_45 fo_45 (by omega) (by omega) (upd_back (upd_self s j))
          first | rw [mWs_n (fun q => c_48 (of_decide_eq_true q))] at K | rw [mWs_y (decide_eq_true c_48)] at K
          exact K
        · intro c_69
          refine k_iload (q := 74) C 8 dX4_wouldScan_72 rfl rfl ?_
          refine k_bipush (q := 76) (v := 100) C dX4_wouldScan_74 (by decide +kernel) rfl ?_
          refine k_iadd (q := 77) C dX4_wouldScan_76 rfl ?_
          refine k_goto (q := 82) C dX4_wouldScan_77 (by decide) ?_
          refine k_st (st2 := (.int (if (mWs (mIs o h t s g n j) (mF3 o h t s g n j) k).2.2.1 = -99999 then iI (-30 + (k : Int)) + 100 else (mWs (mIs o h t s g n j) (mF3 o h t s g n j) k).2.2.1) :: _)) (congrArg (fun z => Value.int z :: _) (show (iI (-30 + (k : Int))) + 100 = if (mWs (mIs o h t s g n j) (mF3 o h t s g n j) k).2.2.1 = -99999 then iI (-30 + (k : Int)) + 100 else (mWs (mIs o h t s g n j) (mF3 o h t s g n j) k).2.2.1 from by first | rw [if_neg c_69] | rw [if_pos c_69])) ?_
          refine k_istore (q := 84) (fr2 := [(6, .int (if (mWs (mIs o h t s g n j) (mF3 o h t s g n j) k).2.2.1 = -99999 then iI (-30 + (k : Int)) + 100 else (mWs (mIs o h t s g n j) (mF3 o h t s g n j) k).2.2.1)), (5, .int (((mWs (mIs o h t s g n j) (mF3 o h t s g n j) k).2.1) + (mF3 o h t s g n j k))), (4, .int (nI ((mWs (mIs o h t s g n j) (mF3 o h t s g n j) k).1 + 1))), (0, .ref (a 0)), (1, .int (nI j)), (2, .int (nI w)), (3, .int (s j)), (7, .int ((mWs (mIs o h t s g n j) (mF3 o h t s g n j) k).2.2.2)), (8, .int (iI (-30 + (k : Int))))]) C dX4_wouldScan_82 (by decide) rfl rfl ?_
          refine k_iload (q := 86) C 8 dX4_wouldScan_84 rfl rfl ?_
          refine k_bipush (q := 88) (v := 100) C dX4_wouldScan_86 (by decide +kernel) rfl ?_
          refine k_iadd (q := 89) C dX4_wouldScan_88 rfl ?_
          refine k_istore (q := 91) (fr2 := [(7, .int ((iI (-30 + (k : Int))) + 100)), (6, .int (if (mWs (mIs o h t s g n j) (mF3 o h t s g n j) k).2.2.1 = -99999 then iI (-30 + (k : Int)) + 100 else (mWs (mIs o h t s g n j) (mF3 o h t s g n j) k).2.2.1)), (5, .int (((mWs (mIs o h t s g n j) (mF3 o h t s g n j) k).2.1) + (mF3 o h t s g n j k))), (4, .int (nI ((mWs (mIs o h t s g n j) (mF3 o h t s g n j) k).1 + 1))), (0, .ref (a 0)), (1, .int (nI j)), (2, .int (nI w)), (3, .int (s j)), (8, .int (iI (-30 + (k : Int))))]) C dX4_wouldScan_89 (by decide) rfl rfl ?_
          refine k_iinc (q := 94) (v := iI (-30 + ((k + 1 : Nat) : Int))) (fr2 := [(8, .int (iI (-30 + ((k + 1 : Nat) : Int)))), (7, .int ((iI (-30 + (k : Int))) + 100)), (6, .int (if (mWs (mIs o h t s g n j) (mF3 o h t s g n j) k).2.2.1 = -99999 then iI (-30 + (k : Int)) + 100 else (mWs (mIs o h t s g n j) (mF3 o h t s g n j) k).2.2.1)), (5, .int (((mWs (mIs o h t s g n j) (mF3 o h t s g n j) k).2.1) + (mF3 o h t s g n j k))), (4, .int (nI ((mWs (mIs o h t s g n j) (mF3 o h t s g n j) k).1 + 1))), (0, .ref (a 0)), (1, .int (nI j)), (2, .int (nI w)), (3, .int (s j))]) C 8 dX4_wouldScan_91 rfl ((show iI (-30 + (k : Int)) + iI 1 = _ from by rw [iI_add]; congr 1; omega)) (by decide) rfl rfl ?_
          refine k_goto (q := 27) C dX4_wouldScan_94 (by decide) ?_
          refine k_fr (fr2 := [(0, .ref (a 0)), (1, .int (nI j)), (2, .int (nI w)), (3, .int (s j)), (4, .int (nI ((mWs (mIs o h t s g n j) (mF3 o h t s g n j) k).1 + 1))), (5, .int (((mWs (mIs o h t s g n j) (mF3 o h t s g n j) k).2.1) + (mF3 o h t s g n j k))), (6, .int (if (mWs (mIs o h t s g n j) (mF3 o h t s g n j) k).2.2.1 = -99999 then iI (-30 + (k : Int)) + 100 else (mWs (mIs o h t s g n j) (mF3 o h t s g n j) k).2.2.1)), (7, .int ((iI (-30 + (k : Int))) + 100)), (8, .int (iI (-30 + ((k + 1 : Nat) : Int))))]) ⟨[5, 6, 7, 8, 4, 3, 2, 1, 0], rfl⟩ ?_
          have K := ih (k + 1) (upd s j (iI (-30 + (k : Int)))) co_45 go_45 fo_45 (by omega) (by omega) (upd_back (upd_self s j))
          first | rw [mWs_n (fun q => c_48 (of_decide_eq_true q))] at K | rw [mWs_y (decide_eq_true c_48)] at K
          exact K
set_option maxHeartbeats 4000000 in
set_option maxRecDepth 100000 in
theorem c_X4_wouldScan (cy : Nat → ClassId) (a : Nat → Nat) (th : Int32) (sm : Nat) (ln : Nat) (pt : Nat) (sg : Nat) (fi : Int32) (se : Int32) (n : Nat) (o : Nat → Int32) (h : Nat → Int32) (t : Nat → Int32) (s : Nat → Int32) (g : Nat → Int32) (kn : Nat) (lo : Int32) (lf : Int32) (nm : Nat → Int32) (sv : Nat → Int32) (sl : Nat → Int32) (ik : Nat → Int32) (bf : Nat → Nat) (co : Nat → Int32) (go : Nat → Int32) (fo : Nat → Int32) (j : Nat) (w : Nat)  (hj : j < 2) (hw : w ≤ 3) (hn : n ≤ 6) (ho : mBin o) (h0 : sOk (s 0)) (h1 : sOk (s 1)) : kIx yX4_wouldScan wsX4_wouldScan rm_X4_wouldScan cy [.ref (a 0), .int (nI j), .int (nI w)] (wM a cy th sm ln pt sg fi se (mSt n o h t s g kn lo lf nm) sv sl ik bf co go fo) (mWv (mWs (mIs o h t s g n j) (mF3 o h t s g n j) 61) w) (fun (u : (Nat → Int32) × (Nat → Int32) × (Nat → Int32)) => (wM a cy th sm ln pt sg fi se (mSt n o h t s g kn lo lf nm) sv sl ik bf u.1 u.2.1 u.2.2)) (fun (u : (Nat → Int32) × (Nat → Int32) × (Nat → Int32)) => True) := by
  refine kIx_of (cc := cX4_wouldScan) (maxL := 9) (rt := .int) (by decide) rfl (rfl) (Nat.le_of_ble_eq_true rfl) ?_
  intro X hR C E
  have C : kC X 9 RX4 cX4_wouldScan wsX4_wouldScan cy := C
  refine k_fr (fr2 := [(0, .ref (a 0)), (1, .int (nI j)), (2, .int (nI w))]) ⟨[0, 1, 2], rfl⟩ ?_
  refine k_aload_n (q := 1) C 0 dX4_wouldScan_0 rfl rfl ?_
  refine k_get (q := 4) (ci := 4) (v := .ref (a 1)) C 0 1 in4_X4_wouldScan rfl (List.mem_of_getElem? (i := 1) rfl) rfl rfl (by decide) rfl dX4_wouldScan_1 rfl ?_
  refine k_iconst (q := 5) (v := 4) C dX4_wouldScan_4 (by decide) rfl ?_
  refine k_iload_n (q := 6) C 1 dX4_wouldScan_5 rfl rfl ?_
  refine k_iadd (q := 7) C dX4_wouldScan_6 rfl ?_
  refine k_st (st2 := (.int (nI (4 + j)) :: _)) (congrArg (fun z => Value.int z :: _) (show 4 + (nI j) = nI (4 + j) from nI_add 4 j)) ?_
  refine k_iald (q := 8) C 1 rfl (vp_in_nI (n := 4 + j) (by omega) (by decide)) dX4_wouldScan_7 rfl ?_
  refine k_st (st2 := (.int ((mSt n o h t s g kn lo lf nm) (4 + j)) :: _)) (congrArg (fun z => Value.int z :: _) (show (mSt n o h t s g kn lo lf nm) (nI (4 + j)).toNatClampNeg = (mSt n o h t s g kn lo lf nm) (4 + j) from congrArg (mSt n o h t s g kn lo lf nm) (nI_clamp (n := 4 + j) (by omega)))) ?_
  refine k_st (st2 := (.int (s j) :: _)) (congrArg (fun z => Value.int z :: _) (show (mSt n o h t s g kn lo lf nm) (4 + j) = s j from mSt_s (k := j) (by omega))) ?_
  refine k_istore_n (q := 9) (fr2 := [(3, .int (s j)), (0, .ref (a 0)), (1, .int (nI j)), (2, .int (nI w))]) C dX4_wouldScan_8 (by decide) rfl rfl ?_
  refine k_iconst (q := 10) (v := 0) C dX4_wouldScan_9 (by decide) rfl ?_
  refine k_istore (q := 12) (fr2 := [(4, .int 0), (3, .int (s j)), (0, .ref (a 0)), (1, .int (nI j)), (2, .int (nI w))]) C dX4_wouldScan_10 (by decide) rfl rfl ?_
  refine k_iconst (q := 13) (v := 0) C dX4_wouldScan_12 (by decide) rfl ?_
  refine k_istore (q := 15) (fr2 := [(5, .int 0), (4, .int 0), (3, .int (s j)), (0, .ref (a 0)), (1, .int (nI j)), (2, .int (nI w))]) C dX4_wouldScan_13 (by decide) rfl rfl ?_
  refine k_ldc (q := 17) (v := -99999) C (List.mem_of_getElem? (i := 2) rfl) dX4_wouldScan_15 rfl ?_
  refine k_istore (q := 19) (fr2 := [(6, .int (-99999)), (5, .int 0), (4, .int 0), (3, .int (s j)), (0, .ref (a 0)), (1, .int (nI j)), (2, .int (nI w))]) C dX4_wouldScan_17 (by decide) rfl rfl ?_
  refine k_ldc (q := 21) (v := -99999) C (List.mem_of_getElem? (i := 2) rfl) dX4_wouldScan_19 rfl ?_
  refine k_istore (q := 23) (fr2 := [(7, .int (-99999)), (6, .int (-99999)), (5, .int 0), (4, .int 0), (3, .int (s j)), (0, .ref (a 0)), (1, .int (nI j)), (2, .int (nI w))]) C dX4_wouldScan_21 (by decide) rfl rfl ?_
  refine k_bipush (q := 25) (v := -30) C dX4_wouldScan_23 (by decide +kernel) rfl ?_
  refine k_istore (q := 27) (fr2 := [(8, .int (-30)), (7, .int (-99999)), (6, .int (-99999)), (5, .int 0), (4, .int 0), (3, .int (s j)), (0, .ref (a 0)), (1, .int (nI j)), (2, .int (nI w))]) C dX4_wouldScan_25 (by decide) rfl rfl ?_
  refine k_fr (fr2 := [(0, .ref (a 0)), (1, .int (nI j)), (2, .int (nI w)), (3, .int (s j)), (4, .int 0), (5, .int 0), (6, .int (-99999)), (7, .int (-99999)), (8, .int (-30))]) ⟨[6, 7, 8, 5, 4, 3, 2, 1, 0], rfl⟩ ?_
  exact lp_X4_wouldScan_27 cy a th sm ln pt sg fi se n o h t s g kn lo lf nm sv sl ik bf co go fo j w hj hw hn ho h0 h1 X hR C E _ 0 s co go fo (Nat.lt_succ_self _) (by omega) (upd_self s j)
abbrev rm_X4_ifScanned : Room := { frames := 7, cells := 0, slots := 0, locals := 160 }
theorem in4_X4_ifScanned : ∀ w ∈ wsX40, w ∈ wsX4_ifScanned := fun _ h => (List.mem_cons_of_mem _ (List.mem_append_right _ h))
set_option maxHeartbeats 4000000 in
set_option maxRecDepth 100000 in
theorem c_X4_ifScanned_e (cy : Nat → ClassId) (a : Nat → Nat) (th : Int32) (sm : Nat) (ln : Nat) (pt : Nat) (sg : Nat) (fi : Int32) (se : Int32) (n : Nat) (o : Nat → Int32) (h : Nat → Int32) (t : Nat → Int32) (s : Nat → Int32) (g : Nat → Int32) (kn : Nat) (lo : Int32) (lf : Int32) (nm : Nat → Int32) (sv : Nat → Int32) (sl : Nat → Int32) (ik : Nat → Int32) (bf : Nat → Nat) (co : Nat → Int32) (go : Nat → Int32) (fo : Nat → Int32) (x : Int32) (y : Int32)  (hx : ¬ (0 ≤ x ∧ x ≤ 1)) : kI yX4_ifScanned wsX4_ifScanned rm_X4_ifScanned cy [.ref (a 0), .int x, .int y] (wM a cy th sm ln pt sg fi se (mSt n o h t s g kn lo lf nm) sv sl ik bf co go fo) 0 (wM a cy 1 sm ln pt sg fi se (mSt n o h t s g kn lo lf nm) sv sl ik bf co go fo) := by
  refine kI_of (cc := cX4_ifScanned) (maxL := 3) (rt := .int) (by decide) rfl (rfl) (Nat.le_of_ble_eq_true rfl) ?_
  intro X hR C E
  have C : kC X 3 RX4 cX4_ifScanned wsX4_ifScanned cy := C
  refine k_fr (fr2 := [(0, .ref (a 0)), (1, .int x), (2, .int y)]) ⟨[0, 1, 2], rfl⟩ ?_
  refine k_aload_n (q := 1) C 0 dX4_ifScanned_0 rfl rfl ?_
  refine k_iconst (q := 2) (v := 0) C dX4_ifScanned_1 (by decide) rfl ?_
  refine k_put (q := 5) (ci := 4) (v := .int 0) (w2 := (wM a cy 0 sm ln pt sg fi se (mSt n o h t s g kn lo lf nm) sv sl ik bf co go fo)) C 0 0 in4_X4_ifScanned rfl (List.mem_of_getElem? (i := 1) rfl) rfl tyX4 tyX4_ok nmX4 rfl (rfl) (rfl) rfl (by decide) (Nat.le_of_ble_eq_true rfl) (rfl) dX4_ifScanned_2 rfl ?_
  refine k_iload_n (q := 6) C 1 dX4_ifScanned_5 rfl rfl ?_
  refine k_callSI (n := 1) (q := 9) (pre := ([] : va_W)) (post := (wM a cy 0 sm ln pt sg fi se (mSt n o h t s g kn lo lf nm) sv sl ik bf co go fo)) (w2 := (wM a cy 0 sm ln pt sg fi se (mSt n o h t s g kn lo lf nm) sv sl ik bf co go fo)) (As := [.int x]) (rest := []) C (c_X4_isLight x) gX4_ifScanned_X4_isLight rfl rfl rfl (by decide +kernel) (k_room hR (by decide)) ⟨Nat.zero_le _, Nat.zero_le _⟩  rfl rfl (Nat.le_of_ble_eq_true rfl) (rfl) (rfl) dX4_ifScanned_6 rfl ?_
  refine k_ifB_ne (tgt := 18) (q := 12) C dX4_ifScanned_9 (by decide) rfl ?_ ?_
  · exact fun c_9 => absurd c_9 hx
  · intro c_9
    refine k_aload_n (q := 13) C 0 dX4_ifScanned_12 rfl rfl ?_
    refine k_iconst (q := 14) (v := 1) C dX4_ifScanned_13 (by decide) rfl ?_
    refine k_callVI (n := 1) (q := 17) (pre := ([] : va_W)) (post := ([] : va_W)) (w2 := (wM a cy 1 sm ln pt sg fi se (mSt n o h t s g kn lo lf nm) sv sl ik bf co go fo)) (As := [.int 1]) (rest := []) C (c_X4_fails cy a 0 sm ln pt sg fi se n o h t s g kn lo lf nm sv sl ik bf co go fo 1) gX4_ifScanned_X4_fails rfl rfl rfl (by decide +kernel) (k_room hR (by decide)) ⟨Nat.zero_le _, Nat.zero_le _⟩ (ci := 4) rfl 0 rfl rfl rfl (Nat.le_of_ble_eq_true rfl) ((List.append_nil _).symm) (List.append_nil _) dX4_ifScanned_14 rfl ?_
    exact k_fin E dX4_ifScanned_17 (rfl) (rfl)
set_option maxHeartbeats 4000000 in
set_option maxRecDepth 100000 in
theorem c_X4_ifScanned_e2 (cy : Nat → ClassId) (a : Nat → Nat) (th : Int32) (sm : Nat) (ln : Nat) (pt : Nat) (sg : Nat) (fi : Int32) (se : Int32) (n : Nat) (o : Nat → Int32) (h : Nat → Int32) (t : Nat → Int32) (s : Nat → Int32) (g : Nat → Int32) (kn : Nat) (lo : Int32) (lf : Int32) (nm : Nat → Int32) (sv : Nat → Int32) (sl : Nat → Int32) (ik : Nat → Int32) (bf : Nat → Nat) (co : Nat → Int32) (go : Nat → Int32) (fo : Nat → Int32) (j : Nat) (y : Int32)  (hj : j < 2) (hy : ¬ (0 ≤ y ∧ y ≤ 3)) : kI yX4_ifScanned wsX4_ifScanned rm_X4_ifScanned cy [.ref (a 0), .int (nI j), .int y] (wM a cy th sm ln pt sg fi se (mSt n o h t s g kn lo lf nm) sv sl ik bf co go fo) 0 (wM a cy 2 sm ln pt sg fi se (mSt n o h t s g kn lo lf nm) sv sl ik bf co go fo) := by
  refine kI_of (cc := cX4_ifScanned) (maxL := 3) (rt := .int) (by decide) rfl (rfl) (Nat.le_of_ble_eq_true rfl) ?_
  intro X hR C E
  have C : kC X 3 RX4 cX4_ifScanned wsX4_ifScanned cy := C
  refine k_fr (fr2 := [(0, .ref (a 0)), (1, .int (nI j)), (2, .int y)]) ⟨[0, 1, 2], rfl⟩ ?_
  refine k_aload_n (q := 1) C 0 dX4_ifScanned_0 rfl rfl ?_
  refine k_iconst (q := 2) (v := 0) C dX4_ifScanned_1 (by decide) rfl ?_
  refine k_put (q := 5) (ci := 4) (v := .int 0) (w2 := (wM a cy 0 sm ln pt sg fi se (mSt n o h t s g kn lo lf nm) sv sl ik bf co go fo)) C 0 0 in4_X4_ifScanned rfl (List.mem_of_getElem? (i := 1) rfl) rfl tyX4 tyX4_ok nmX4 rfl (rfl) (rfl) rfl (by decide) (Nat.le_of_ble_eq_true rfl) (rfl) dX4_ifScanned_2 rfl ?_
  refine k_iload_n (q := 6) C 1 dX4_ifScanned_5 rfl rfl ?_
  refine k_callSI (n := 1) (q := 9) (pre := ([] : va_W)) (post := (wM a cy 0 sm ln pt sg fi se (mSt n o h t s g kn lo lf nm) sv sl ik bf co go fo)) (w2 := (wM a cy 0 sm ln pt sg fi se (mSt n o h t s g kn lo lf nm) sv sl ik bf co go fo)) (As := [.int (nI j)]) (rest := []) C (c_X4_isLight (nI j)) gX4_ifScanned_X4_isLight rfl rfl rfl (by decide +kernel) (k_room hR (by decide)) ⟨Nat.zero_le _, Nat.zero_le _⟩  rfl rfl (Nat.le_of_ble_eq_true rfl) (rfl) (rfl) dX4_ifScanned_6 rfl ?_
  refine k_ifB_ne (tgt := 18) (q := 12) C dX4_ifScanned_9 (by decide) rfl ?_ ?_
  · intro c_9
    refine k_iload_n (q := 19) C 2 dX4_ifScanned_18 rfl rfl ?_
    refine k_iconst (q := 20) (v := 0) C dX4_ifScanned_19 (by decide) rfl ?_
    refine k_iconst (q := 21) (v := 3) C dX4_ifScanned_20 (by decide) rfl ?_
    refine k_callSI (n := 3) (q := 24) (pre := ([] : va_W)) (post := (wM a cy 0 sm ln pt sg fi se (mSt n o h t s g kn lo lf nm) sv sl ik bf co go fo)) (w2 := (wM a cy 0 sm ln pt sg fi se (mSt n o h t s g kn lo lf nm) sv sl ik bf co go fo)) (As := [.int y, .int 0, .int 3]) (rest := []) C (c_X4_within y 0 3) gX4_ifScanned_X4_within rfl rfl rfl (by decide +kernel) (k_room hR (by decide)) ⟨Nat.zero_le _, Nat.zero_le _⟩  rfl rfl (Nat.le_of_ble_eq_true rfl) (rfl) (rfl) dX4_ifScanned_21 rfl ?_
    refine k_ifB_eq (tgt := 36) (q := 27) C dX4_ifScanned_24 (by decide) rfl ?_ ?_
    · intro c_24
      refine k_aload_n (q := 37) C 0 dX4_ifScanned_36 rfl rfl ?_
      refine k_iconst (q := 38) (v := 2) C dX4_ifScanned_37 (by decide) rfl ?_
      refine k_callVI (n := 1) (q := 41) (pre := ([] : va_W)) (post := ([] : va_W)) (w2 := (wM a cy 2 sm ln pt sg fi se (mSt n o h t s g kn lo lf nm) sv sl ik bf co go fo)) (As := [.int 2]) (rest := []) C (c_X4_fails cy a 0 sm ln pt sg fi se n o h t s g kn lo lf nm sv sl ik bf co go fo 2) gX4_ifScanned_X4_fails rfl rfl rfl (by decide +kernel) (k_room hR (by decide)) ⟨Nat.zero_le _, Nat.zero_le _⟩ (ci := 4) rfl 0 rfl rfl rfl (Nat.le_of_ble_eq_true rfl) ((List.append_nil _).symm) (List.append_nil _) dX4_ifScanned_38 rfl ?_
      exact k_fin E dX4_ifScanned_41 (rfl) (rfl)
    · exact fun c_24 => absurd c_24 hy
  · exact fun c_9 => absurd (mSlot hj) c_9
set_option maxHeartbeats 4000000 in
set_option maxRecDepth 100000 in
theorem c_X4_ifScanned (cy : Nat → ClassId) (a : Nat → Nat) (th : Int32) (sm : Nat) (ln : Nat) (pt : Nat) (sg : Nat) (fi : Int32) (se : Int32) (n : Nat) (o : Nat → Int32) (h : Nat → Int32) (t : Nat → Int32) (s : Nat → Int32) (g : Nat → Int32) (kn : Nat) (lo : Int32) (lf : Int32) (nm : Nat → Int32) (sv : Nat → Int32) (sl : Nat → Int32) (ik : Nat → Int32) (bf : Nat → Nat) (co : Nat → Int32) (go : Nat → Int32) (fo : Nat → Int32) (j : Nat) (w : Nat)  (hj : j < 2) (hw : w ≤ 3) (hn : n ≤ 6) (ho : mBin o) (h0 : sOk (s 0)) (h1 : sOk (s 1)) : kIx yX4_ifScanned wsX4_ifScanned rm_X4_ifScanned cy [.ref (a 0), .int (nI j), .int (nI w)] (wM a cy th sm ln pt sg fi se (mSt n o h t s g kn lo lf nm) sv sl ik bf co go fo) (mWv (mWs (mIs o h t s g n j) (mF3 o h t s g n j) 61) w) (fun (u : (Nat → Int32) × (Nat → Int32) × (Nat → Int32)) => (wM a cy 0 sm ln pt sg fi se (mSt n o h t s g kn lo lf nm) sv sl ik bf u.1 u.2.1 u.2.2)) (fun (u : (Nat → Int32) × (Nat → Int32) × (Nat → Int32)) => True) := by
  refine kIx_of (cc := cX4_ifScanned) (maxL := 3) (rt := .int) (by decide) rfl (rfl) (Nat.le_of_ble_eq_true rfl) ?_
  intro X hR C E
  have C : kC X 3 RX4 cX4_ifScanned wsX4_ifScanned cy := C
  refine k_fr (fr2 := [(0, .ref (a 0)), (1, .int (nI j)), (2, .int (nI w))]) ⟨[0, 1, 2], rfl⟩ ?_
  refine k_aload_n (q := 1) C 0 dX4_ifScanned_0 rfl rfl ?_
  refine k_iconst (q := 2) (v := 0) C dX4_ifScanned_1 (by decide) rfl ?_
  refine k_put (q := 5) (ci := 4) (v := .int 0) (w2 := (wM a cy 0 sm ln pt sg fi se (mSt n o h t s g kn lo lf nm) sv sl ik bf co go fo)) C 0 0 in4_X4_ifScanned rfl (List.mem_of_getElem? (i := 1) rfl) rfl tyX4 tyX4_ok nmX4 rfl (rfl) (rfl) rfl (by decide) (Nat.le_of_ble_eq_true rfl) (rfl) dX4_ifScanned_2 rfl ?_
  refine k_iload_n (q := 6) C 1 dX4_ifScanned_5 rfl rfl ?_
  refine k_callSI (n := 1) (q := 9) (pre := ([] : va_W)) (post := (wM a cy 0 sm ln pt sg fi se (mSt n o h t s g kn lo lf nm) sv sl ik bf co go fo)) (w2 := (wM a cy 0 sm ln pt sg fi se (mSt n o h t s g kn lo lf nm) sv sl ik bf co go fo)) (As := [.int (nI j)]) (rest := []) C (c_X4_isLight (nI j)) gX4_ifScanned_X4_isLight rfl rfl rfl (by decide +kernel) (k_room hR (by decide)) ⟨Nat.zero_le _, Nat.zero_le _⟩  rfl rfl (Nat.le_of_ble_eq_true rfl) (rfl) (rfl) dX4_ifScanned_6 rfl ?_
  refine k_ifB_ne (tgt := 18) (q := 12) C dX4_ifScanned_9 (by decide) rfl ?_ ?_
  · intro c_9
    refine k_iload_n (q := 19) C 2 dX4_ifScanned_18 rfl rfl ?_
    refine k_iconst (q := 20) (v := 0) C dX4_ifScanned_19 (by decide) rfl ?_
    refine k_iconst (q := 21) (v := 3) C dX4_ifScanned_20 (by decide) rfl ?_
    refine k_callSI (n := 3) (q := 24) (pre := ([] : va_W)) (post := (wM a cy 0 sm ln pt sg fi se (mSt n o h t s g kn lo lf nm) sv sl ik bf co go fo)) (w2 := (wM a cy 0 sm ln pt sg fi se (mSt n o h t s g kn lo lf nm) sv sl ik bf co go fo)) (As := [.int (nI w), .int 0, .int 3]) (rest := []) C (c_X4_within (nI w) 0 3) gX4_ifScanned_X4_within rfl rfl rfl (by decide +kernel) (k_room hR (by decide)) ⟨Nat.zero_le _, Nat.zero_le _⟩  rfl rfl (Nat.le_of_ble_eq_true rfl) (rfl) (rfl) dX4_ifScanned_21 rfl ?_
    refine k_ifB_eq (tgt := 36) (q := 27) C dX4_ifScanned_24 (by decide) rfl ?_ ?_
    · exact fun c_24 => absurd (w03 hw) c_24
    · intro c_24
      refine k_aload_n (q := 28) C 0 dX4_ifScanned_27 rfl rfl ?_
      refine k_iload_n (q := 29) C 1 dX4_ifScanned_28 rfl rfl ?_
      refine k_iload_n (q := 30) C 2 dX4_ifScanned_29 rfl rfl ?_
      refine k_callVIx (n := 2) (q := 33) (pre := ([] : va_W)) (post := ([] : va_W)) (w2 := (fun u => (wM a cy 0 sm ln pt sg fi se (mSt n o h t s g kn lo lf nm) sv sl ik bf (u.1) (u.2.1) (u.2.2)))) (As := [.int (nI j), .int (nI w)]) (rest := []) C (c_X4_wouldScan cy a 0 sm ln pt sg fi se n o h t s g kn lo lf nm sv sl ik bf co go fo j w hj hw hn ho h0 h1) gX4_ifScanned_X4_wouldScan rfl rfl rfl (by decide +kernel) (k_room hR (by decide)) ⟨Nat.zero_le _, Nat.zero_le _⟩ (ci := 4) rfl 0 rfl rfl rfl (Nat.le_of_ble_eq_true rfl) ((List.append_nil _).symm) (fun u => List.append_nil _) dX4_ifScanned_30 rfl ?_
      rintro ⟨co_30, go_30, fo_30⟩ h_30
      try dsimp only at h_30
      refine k_goto (q := 41) C dX4_ifScanned_33 (by decide) ?_
      exact k_finx E (co_30, go_30, fo_30) dX4_ifScanned_41 (rfl) (rfl) (trivial)
  · exact fun c_9 => absurd (mSlot hj) c_9
abbrev rm_X4_clearEnough : Room := { frames := 3, cells := 0, slots := 0, locals := 66 }
theorem in4_X4_clearEnough : ∀ w ∈ wsX40, w ∈ wsX4_clearEnough := fun _ h => (List.mem_cons_of_mem _ (List.mem_append_right _ h))
set_option maxHeartbeats 4000000 in
set_option maxRecDepth 100000 in
theorem lp_X4_clearEnough_24 (cy : Nat → ClassId) (a : Nat → Nat) (th : Int32) (sm : Nat) (ln : Nat) (pt : Nat) (sg : Nat) (fi : Int32) (se : Int32) (n : Nat) (o : Nat → Int32) (h : Nat → Int32) (t : Nat → Int32) (s : Nat → Int32) (g : Nat → Int32) (kn : Nat) (lo : Int32) (lf : Int32) (nm : Nat → Int32) (sv : Nat → Int32) (sl : Nat → Int32) (ik : Nat → Int32) (bf : Nat → Nat) (co : Nat → Int32) (go : Nat → Int32) (fo : Nat → Int32)  (hn : n ≤ 6) (X : kX) (hR : xR X = rm_X4_clearEnough) (C : kC X 3 RX4 cX4_clearEnough wsX4_clearEnough cy) (E : kEndx X 3 cX4_clearEnough (nI (mHz (fun k => mSpots o h t g (nI k) n) (mSpots o h t g 0 n) 1000)) (fun (u : (Nat → Int32) × (Nat → Int32)) => (wM a cy 0 sm ln pt sg fi se (mSt n o h t s g kn lo lf nm) sv sl ik bf u.1 u.2 fo)) (fun (u : (Nat → Int32) × (Nat → Int32)) => True)) : ∀ (fu : Nat) (k : Nat) (c1 : Nat → Int32) (g1 : Nat → Int32), k < fu → (k ≤ 1000) → (mLaid n h t (nI k) c1 g1) → (mHz (fun k => mSpots o h t g (nI k) n) (mSpots o h t g 0 n) k = mHz (fun k => mSpots o h t g (nI k) n) (mSpots o h t g 0 n) 1000) → kG X 3 0 0 (wM a cy 0 sm ln pt sg fi se (mSt n o h t s g kn lo lf nm) sv sl ik bf c1 g1 fo) 24 [(0, .ref (a 0)), (1, .int (mSpots o h t g 0 n)), (2, .int (nI k))] [] := by
  intro fu
  induction fu with
  | zero => intro k c1 g1 hfu; exact absurd hfu (Nat.not_lt_zero _)
  | succ fu ih =>
    intro k c1 g1 hfu hk hla hh
    refine k_aload_n (q := 25) C 0 dX4_clearEnough_24 rfl rfl ?_
    refine k_callVI (n := 0) (q := 28) (pre := ([] : va_W)) (post := ([] : va_W)) (w2 := (wM a cy 0 sm ln pt sg fi se (mSt n o h t s g kn lo lf nm) sv sl ik bf c1 g1 fo)) (As := []) (rest := []) C (c_X4_seenSpots cy a 0 sm ln pt sg fi se n o h t s g kn lo lf nm sv sl ik bf c1 g1 fo (nI k) hn hla) gX4_clearEnough_X4_seenSpots rfl rfl rfl (by decide +kernel) (k_room hR (by decide)) ⟨Nat.zero_le _, Nat.zero_le _⟩ (ci := 4) rfl 0 rfl rfl rfl (Nat.le_of_ble_eq_true rfl) ((List.append_nil _).symm) (List.append_nil _) dX4_clearEnough_25 rfl ?_
    refine k_iload_n (q := 29) C 1 dX4_clearEnough_28 rfl rfl ?_
    refine k_icmp_eq (tgt := 43) (q := 32) C dX4_clearEnough_29 (by decide) rfl ?_ ?_
    · intro c_29
      refine k_iload_n (q := 44) C 2 dX4_clearEnough_43 rfl rfl ?_
      exact k_finx E (c1, g1) dX4_clearEnough_44 (by rw [← hh]; exact congrArg nI (mHz_y (f := fun k => mSpots o h t g (nI k) n) c_29).symm) (rfl) (trivial)
    · intro c_29
      have hk0 : 0 < k := Nat.pos_of_ne_zero (fun e => c_29 (by rw [e]; rfl))
      refine k_iinc (q := 35) (v := nI (k - 1)) (fr2 := [(2, .int (nI (k - 1))), (0, .ref (a 0)), (1, .int (mSpots o h t g 0 n))]) C 2 dX4_clearEnough_32 rfl ((by rw [show (Int32.ofInt (-1)) = -1 from by decide +kernel, ← Int32.sub_eq_add_neg]; exact pk_sub (a := k) (b := 1) (by omega))) (by decide) rfl rfl ?_
      refine k_aload_n (q := 36) C 1 dX4_clearEnough_35 rfl rfl ?_
      refine k_iload_n (q := 37) C 0 dX4_clearEnough_36 rfl rfl ?_
      refine k_callVVx (n := 1) (q := 40) (pre := ([] : va_W)) (post := ([] : va_W)) (w2 := (fun u => (wM a cy 0 sm ln pt sg fi se (mSt n o h t s g kn lo lf nm) sv sl ik bf (u.1) (u.2) fo))) (As := [.int (nI (k - 1))]) (rest := []) C (c_X4_lay cy a 0 sm ln pt sg fi se n o h t s g kn lo lf nm sv sl ik bf c1 g1 fo (nI (k - 1)) hn) gX4_clearEnough_X4_lay rfl rfl rfl (by decide +kernel) (k_room hR (by decide)) ⟨Nat.zero_le _, Nat.zero_le _⟩ (ci := 4) rfl 0 rfl rfl rfl (Nat.le_of_ble_eq_true rfl) ((List.append_nil _).symm) (fun u => List.append_nil _) dX4_clearEnough_37 rfl ?_
      rintro ⟨co_37, go_37⟩ h_37
      try dsimp only at h_37
      refine k_goto (q := 24) C dX4_clearEnough_40 (by decide) ?_
      refine k_fr (fr2 := [(0, .ref (a 0)), (1, .int (mSpots o h t g 0 n)), (2, .int (nI (k - 1)))]) ⟨[1, 2, 0], rfl⟩ ?_
      exact ih (k - 1) co_37 go_37 (by omega) (by omega) h_37 (by rw [← hh]; exact (mHz_n (f := fun k => mSpots o h t g (nI k) n) hk0 c_29).symm)
set_option maxHeartbeats 4000000 in
set_option maxRecDepth 100000 in
theorem c_X4_clearEnough (cy : Nat → ClassId) (a : Nat → Nat) (th : Int32) (sm : Nat) (ln : Nat) (pt : Nat) (sg : Nat) (fi : Int32) (se : Int32) (n : Nat) (o : Nat → Int32) (h : Nat → Int32) (t : Nat → Int32) (s : Nat → Int32) (g : Nat → Int32) (kn : Nat) (lo : Int32) (lf : Int32) (nm : Nat → Int32) (sv : Nat → Int32) (sl : Nat → Int32) (ik : Nat → Int32) (bf : Nat → Nat) (co : Nat → Int32) (go : Nat → Int32) (fo : Nat → Int32)  (hn : n ≤ 6) : kIx yX4_clearEnough wsX4_clearEnough rm_X4_clearEnough cy [.ref (a 0)] (wM a cy th sm ln pt sg fi se (mSt n o h t s g kn lo lf nm) sv sl ik bf co go fo) (nI (mHz (fun k => mSpots o h t g (nI k) n) (mSpots o h t g 0 n) 1000)) (fun (u : (Nat → Int32) × (Nat → Int32)) => (wM a cy 0 sm ln pt sg fi se (mSt n o h t s g kn lo lf nm) sv sl ik bf u.1 u.2 fo)) (fun (u : (Nat → Int32) × (Nat → Int32)) => True) := by
  refine kIx_of (cc := cX4_clearEnough) (maxL := 3) (rt := .int) (by decide) rfl (rfl) (Nat.le_of_ble_eq_true rfl) ?_
  intro X hR C E
  have C : kC X 3 RX4 cX4_clearEnough wsX4_clearEnough cy := C
  refine k_fr (fr2 := [(0, .ref (a 0))]) ⟨[0], rfl⟩ ?_
  refine k_aload_n (q := 1) C 0 dX4_clearEnough_0 rfl rfl ?_
  refine k_iconst (q := 2) (v := 0) C dX4_clearEnough_1 (by decide) rfl ?_
  refine k_put (q := 5) (ci := 4) (v := .int 0) (w2 := (wM a cy 0 sm ln pt sg fi se (mSt n o h t s g kn lo lf nm) sv sl ik bf co go fo)) C 0 0 in4_X4_clearEnough rfl (List.mem_of_getElem? (i := 1) rfl) rfl tyX4 tyX4_ok nmX4 rfl (rfl) (rfl) rfl (by decide) (Nat.le_of_ble_eq_true rfl) (rfl) dX4_clearEnough_2 rfl ?_
  refine k_aload_n (q := 6) C 0 dX4_clearEnough_5 rfl rfl ?_
  refine k_iconst (q := 7) (v := 0) C dX4_clearEnough_6 (by decide) rfl ?_
  refine k_callVVx (n := 1) (q := 10) (pre := ([] : va_W)) (post := ([] : va_W)) (w2 := (fun u => (wM a cy 0 sm ln pt sg fi se (mSt n o h t s g kn lo lf nm) sv sl ik bf (u.1) (u.2) fo))) (As := [.int 0]) (rest := []) C (c_X4_lay cy a 0 sm ln pt sg fi se n o h t s g kn lo lf nm sv sl ik bf co go fo 0 hn) gX4_clearEnough_X4_lay rfl rfl rfl (by decide +kernel) (k_room hR (by decide)) ⟨Nat.zero_le _, Nat.zero_le _⟩ (ci := 4) rfl 0 rfl rfl rfl (Nat.le_of_ble_eq_true rfl) ((List.append_nil _).symm) (fun u => List.append_nil _) dX4_clearEnough_7 rfl ?_
  rintro ⟨co_7, go_7⟩ h_7
  try dsimp only at h_7
  refine k_aload_n (q := 11) C 0 dX4_clearEnough_10 rfl rfl ?_
  refine k_callVI (n := 0) (q := 14) (pre := ([] : va_W)) (post := ([] : va_W)) (w2 := (wM a cy 0 sm ln pt sg fi se (mSt n o h t s g kn lo lf nm) sv sl ik bf co_7 go_7 fo)) (As := []) (rest := []) C (c_X4_seenSpots cy a 0 sm ln pt sg fi se n o h t s g kn lo lf nm sv sl ik bf co_7 go_7 fo 0 hn h_7) gX4_clearEnough_X4_seenSpots rfl rfl rfl (by decide +kernel) (k_room hR (by decide)) ⟨Nat.zero_le _, Nat.zero_le _⟩ (ci := 4) rfl 0 rfl rfl rfl (Nat.le_of_ble_eq_true rfl) ((List.append_nil _).symm) (List.append_nil _) dX4_clearEnough_11 rfl ?_
  refine k_istore_n (q := 15) (fr2 := [(1, .int (mSpots o h t g 0 n)), (0, .ref (a 0))]) C dX4_clearEnough_14 (by decide) rfl rfl ?_
  refine k_sipush (q := 18) (v := 1000) C dX4_clearEnough_15 (by decide +kernel) rfl ?_
  refine k_istore_n (q := 19) (fr2 := [(2, .int 1000), (1, .int (mSpots o h t g 0 n)), (0, .ref (a 0))]) C dX4_clearEnough_18 (by decide) rfl rfl ?_
  refine k_aload_n (q := 20) C 2 dX4_clearEnough_19 rfl rfl ?_
  refine k_iload_n (q := 21) C 0 dX4_clearEnough_20 rfl rfl ?_
  refine k_callVVx (n := 1) (q := 24) (pre := ([] : va_W)) (post := ([] : va_W)) (w2 := (fun u => (wM a cy 0 sm ln pt sg fi se (mSt n o h t s g kn lo lf nm) sv sl ik bf (u.1) (u.2) fo))) (As := [.int 1000]) (rest := []) C (c_X4_lay cy a 0 sm ln pt sg fi se n o h t s g kn lo lf nm sv sl ik bf co_7 go_7 fo 1000 hn) gX4_clearEnough_X4_lay rfl rfl rfl (by decide +kernel) (k_room hR (by decide)) ⟨Nat.zero_le _, Nat.zero_le _⟩ (ci := 4) rfl 0 rfl rfl rfl (Nat.le_of_ble_eq_true rfl) ((List.append_nil _).symm) (fun u => List.append_nil _) dX4_clearEnough_21 rfl ?_
  rintro ⟨co_21, go_21⟩ h_21
  try dsimp only at h_21
  refine k_fr (fr2 := [(0, .ref (a 0)), (1, .int (mSpots o h t g 0 n)), (2, .int 1000)]) ⟨[2, 1, 0], rfl⟩ ?_
  exact lp_X4_clearEnough_24 cy a th sm ln pt sg fi se n o h t s g kn lo lf nm sv sl ik bf co go fo hn X hR C E _ 1000 co_21 go_21 (Nat.lt_succ_self _) (Nat.le_refl _) h_21 rfl
abbrev rm_X4_next : Room := { frames := 0, cells := 0, slots := 0, locals := 0 }
theorem in4_X4_next : ∀ w ∈ wsX40, w ∈ wsX4_next := fun _ h => (List.mem_cons_of_mem _ (List.mem_append_right _ h))
set_option maxHeartbeats 4000000 in
set_option maxRecDepth 100000 in
theorem c_X4_next (cy : Nat → ClassId) (a : Nat → Nat) (th : Int32) (sm : Nat) (ln : Nat) (pt : Nat) (sg : Nat) (fi : Int32) (se : Int32) (n : Nat) (o : Nat → Int32) (h : Nat → Int32) (t : Nat → Int32) (s : Nat → Int32) (g : Nat → Int32) (kn : Nat) (lo : Int32) (lf : Int32) (nm : Nat → Int32) (sv : Nat → Int32) (sl : Nat → Int32) (ik : Nat → Int32) (bf : Nat → Nat) (co : Nat → Int32) (go : Nat → Int32) (fo : Nat → Int32)  (hpl : pt ≤ ln) (hln : ln ≤ 60) : kI yX4_next wsX4_next rm_X4_next cy [.ref (a 0)] (wM a cy th sm ln pt sg fi se (mSt n o h t s g kn lo lf nm) sv sl ik bf co go fo) (nI (mNx bf ln pt)) (wM a cy th sm ln pt sg fi se (mSt n o h t s g kn lo lf nm) sv sl ik bf co go fo) := by
  refine kI_of (cc := cX4_next) (maxL := 1) (rt := .int) (by decide) rfl (rfl) (Nat.le_of_ble_eq_true rfl) ?_
  intro X hR C E
  have C : kC X 1 RX4 cX4_next wsX4_next cy := C
  refine k_fr (fr2 := [(0, .ref (a 0))]) ⟨[0], rfl⟩ ?_
  refine k_aload_n (q := 1) C 0 dX4_next_0 rfl rfl ?_
  refine k_get (q := 4) (ci := 4) (v := .int (nI pt)) C 0 8 in4_X4_next rfl (List.mem_of_getElem? (i := 1) rfl) rfl rfl (by decide) rfl dX4_next_1 rfl ?_
  refine k_aload_n (q := 5) C 0 dX4_next_4 rfl rfl ?_
  refine k_get (q := 8) (ci := 4) (v := .int (nI ln)) C 0 7 in4_X4_next rfl (List.mem_of_getElem? (i := 2) rfl) rfl rfl (by decide) rfl dX4_next_5 rfl ?_
  refine k_nicmp_ge (a := pt) (b := ln)  (tgt := 23) (q := 11) C dX4_next_8 (by decide) rfl (by omega) (by omega) ?_ ?_
  · intro c_8
    refine k_iconst (q := 24) (v := 0) C dX4_next_23 (by decide) rfl ?_
    exact k_fin E dX4_next_24 (by first | (rw [mNx, if_pos (by omega)]) | (rw [mNx, if_neg (by omega)]; rfl)) (rfl)
  · intro c_8
    refine k_aload_n (q := 12) C 0 dX4_next_11 rfl rfl ?_
    refine k_get (q := 15) (ci := 4) (v := .ref (a 5)) C 0 6 in4_X4_next rfl (List.mem_of_getElem? (i := 3) rfl) rfl rfl (by decide) rfl dX4_next_12 rfl ?_
    refine k_aload_n (q := 16) C 0 dX4_next_15 rfl rfl ?_
    refine k_get (q := 19) (ci := 4) (v := .int (nI pt)) C 0 8 in4_X4_next rfl (List.mem_of_getElem? (i := 1) rfl) rfl rfl (by decide) rfl dX4_next_16 rfl ?_
    refine k_iald (q := 20) C 5 rfl (vp_in_nI (n := pt) (by omega) (by decide)) dX4_next_19 rfl ?_
    refine k_st (st2 := (.int ((fun j => nI (bf j)) pt) :: _)) (congrArg (fun z => Value.int z :: _) (show (fun j => nI (bf j)) (nI pt).toNatClampNeg = (fun j => nI (bf j)) pt from congrArg (fun j => nI (bf j)) (nI_clamp (n := pt) (by omega)))) ?_
    refine k_st (st2 := (.int (nI (bf pt)) :: _)) (congrArg (fun z => Value.int z :: _) (show (fun j => nI (bf j)) pt = nI (bf pt) from rfl)) ?_
    refine k_goto (q := 24) C dX4_next_20 (by decide) ?_
    exact k_fin E dX4_next_24 (by first | (rw [mNx, if_pos (by omega)]) | (rw [mNx, if_neg (by omega)]; rfl)) (rfl)
abbrev rm_X4_takes : Room := { frames := 1, cells := 0, slots := 0, locals := 20 }
theorem in4_X4_takes : ∀ w ∈ wsX40, w ∈ wsX4_takes := fun _ h => (List.mem_cons_of_mem _ (List.mem_append_right _ h))
set_option maxHeartbeats 4000000 in
set_option maxRecDepth 100000 in
theorem c_X4_takes (cy : Nat → ClassId) (a : Nat → Nat) (th : Int32) (sm : Nat) (ln : Nat) (pt : Nat) (sg : Nat) (fi : Int32) (se : Int32) (n : Nat) (o : Nat → Int32) (h : Nat → Int32) (t : Nat → Int32) (s : Nat → Int32) (g : Nat → Int32) (kn : Nat) (lo : Int32) (lf : Int32) (nm : Nat → Int32) (sv : Nat → Int32) (sl : Nat → Int32) (ik : Nat → Int32) (bf : Nat → Nat) (co : Nat → Int32) (go : Nat → Int32) (fo : Nat → Int32) (c : Nat)  (hb : ∀ i, bf i ≤ 126) (hpl : pt ≤ ln) (hln : ln ≤ 60) (hc : c < 1000) : kI yX4_takes wsX4_takes rm_X4_takes cy [.ref (a 0), .int (nI c)] (wM a cy th sm ln pt sg fi se (mSt n o h t s g kn lo lf nm) sv sl ik bf co go fo) (bI (mNx bf ln pt = c)) (wM a cy th sm ln (mTk bf ln c pt) sg fi se (mSt n o h t s g kn lo lf nm) sv sl ik bf co go fo) := by
  refine kI_of (cc := cX4_takes) (maxL := 3) (rt := .boolean) (by decide) rfl (kb_nar _) (Nat.le_of_ble_eq_true rfl) ?_
  intro X hR C E
  have C : kC X 3 RX4 cX4_takes wsX4_takes cy := C
  refine k_fr (fr2 := [(0, .ref (a 0)), (1, .int (nI c))]) ⟨[0, 1], rfl⟩ ?_
  have hnb := mNx_b (ln := ln) (q := pt) hb
  refine k_aload_n (q := 1) C 0 dX4_takes_0 rfl rfl ?_
  refine k_callVI (n := 0) (q := 4) (pre := ([] : va_W)) (post := ([] : va_W)) (w2 := (wM a cy th sm ln pt sg fi se (mSt n o h t s g kn lo lf nm) sv sl ik bf co go fo)) (As := []) (rest := []) C (c_X4_next cy a th sm ln pt sg fi se n o h t s g kn lo lf nm sv sl ik bf co go fo (by omega) (by omega)) gX4_takes_X4_next rfl rfl rfl (by decide +kernel) (k_room hR (by decide)) ⟨Nat.zero_le _, Nat.zero_le _⟩ (ci := 4) rfl 0 rfl rfl rfl (Nat.le_of_ble_eq_true rfl) ((List.append_nil _).symm) (List.append_nil _) dX4_takes_1 rfl ?_
  refine k_iload_n (q := 5) C 1 dX4_takes_4 rfl rfl ?_
  refine k_nicmp_ne (a := mNx bf ln pt) (b := c)  (tgt := 12) (q := 8) C dX4_takes_5 (by decide) rfl (by omega) (by omega) ?_ ?_
  · intro c_5
    refine k_iconst (q := 13) (v := 0) C dX4_takes_12 (by decide) rfl ?_
    refine k_istore_n (q := 14) (fr2 := [(2, .int 0), (0, .ref (a 0)), (1, .int (nI c))]) C dX4_takes_13 (by decide) rfl rfl ?_
    refine k_aload_n (q := 15) C 1 dX4_takes_14 rfl rfl ?_
    refine k_dup (q := 16) C dX4_takes_15 rfl rfl ?_
    refine k_get (q := 19) (ci := 4) (v := .int (nI pt)) C 0 8 in4_X4_takes rfl (List.mem_of_getElem? (i := 1) rfl) rfl rfl (by decide) rfl dX4_takes_16 rfl ?_
    refine k_iload_n (q := 20) C 0 dX4_takes_19 rfl rfl ?_
    refine k_if_eq (tgt := 27) (q := 23) C dX4_takes_20 (by decide) rfl ?_ ?_
    · intro c_20
      refine k_iconst (q := 28) (v := 0) C dX4_takes_27 (by decide) rfl ?_
      refine k_iadd (q := 29) C dX4_takes_28 rfl ?_
      refine k_st (st2 := (.int (nI (pt + 0)) :: _)) (congrArg (fun z => Value.int z :: _) (show (nI pt) + 0 = nI (pt + 0) from nI_add pt 0)) ?_
      refine k_put (q := 32) (ci := 4) (v := .int (nI (pt + 0))) (w2 := (wM a cy th sm ln (pt + 0) sg fi se (mSt n o h t s g kn lo lf nm) sv sl ik bf co go fo)) C 0 8 in4_X4_takes rfl (List.mem_of_getElem? (i := 1) rfl) rfl tyX4 tyX4_ok nmX4 rfl (rfl) (rfl) rfl (by decide) (Nat.le_of_ble_eq_true rfl) (rfl) dX4_takes_29 rfl ?_
      refine k_iload_n (q := 33) C 0 dX4_takes_32 rfl rfl ?_
      exact k_fin E dX4_takes_33 (by first | exact bI_t c_5 | exact bI_f c_5) (by first | (rw [mTk, if_pos c_5]; done) | (rw [mTk, if_neg c_5]; rfl))
    · exact fun c_20 => absurd c_20 (by decide)
  · intro c_5
    refine k_iconst (q := 9) (v := 1) C dX4_takes_8 (by decide) rfl ?_
    refine k_goto (q := 13) C dX4_takes_9 (by decide) ?_
    refine k_istore_n (q := 14) (fr2 := [(2, .int 1), (0, .ref (a 0)), (1, .int (nI c))]) C dX4_takes_13 (by decide) rfl rfl ?_
    refine k_aload_n (q := 15) C 1 dX4_takes_14 rfl rfl ?_
    refine k_dup (q := 16) C dX4_takes_15 rfl rfl ?_
    refine k_get (q := 19) (ci := 4) (v := .int (nI pt)) C 0 8 in4_X4_takes rfl (List.mem_of_getElem? (i := 1) rfl) rfl rfl (by decide) rfl dX4_takes_16 rfl ?_
    refine k_iload_n (q := 20) C 0 dX4_takes_19 rfl rfl ?_
    refine k_if_eq (tgt := 27) (q := 23) C dX4_takes_20 (by decide) rfl ?_ ?_
    · exact fun c_20 => absurd c_20 (by decide)
    · intro c_20
      refine k_iconst (q := 24) (v := 1) C dX4_takes_23 (by decide) rfl ?_
      refine k_goto (q := 28) C dX4_takes_24 (by decide) ?_
      refine k_iadd (q := 29) C dX4_takes_28 rfl ?_
      refine k_st (st2 := (.int (nI (pt + 1)) :: _)) (congrArg (fun z => Value.int z :: _) (show (nI pt) + 1 = nI (pt + 1) from nI_add pt 1)) ?_
      refine k_put (q := 32) (ci := 4) (v := .int (nI (pt + 1))) (w2 := (wM a cy th sm ln (pt + 1) sg fi se (mSt n o h t s g kn lo lf nm) sv sl ik bf co go fo)) C 0 8 in4_X4_takes rfl (List.mem_of_getElem? (i := 1) rfl) rfl tyX4 tyX4_ok nmX4 rfl (rfl) (rfl) rfl (by decide) (Nat.le_of_ble_eq_true rfl) (rfl) dX4_takes_29 rfl ?_
      refine k_iload_n (q := 33) C 0 dX4_takes_32 rfl rfl ?_
      exact k_fin E dX4_takes_33 (by first | exact bI_t c_5 | exact bI_f c_5) (by first | (rw [mTk, if_pos c_5]; done) | (rw [mTk, if_neg c_5]; rfl))
abbrev rm_X4_readNumber : Room := { frames := 1, cells := 0, slots := 0, locals := 22 }
theorem in4_X4_readNumber : ∀ w ∈ wsX40, w ∈ wsX4_readNumber := fun _ h => (List.mem_cons_of_mem _ (List.mem_append_right _ h))
set_option maxHeartbeats 4000000 in
set_option maxRecDepth 100000 in
theorem lp_X4_readNumber_36 (cy : Nat → ClassId) (a : Nat → Nat) (th : Int32) (sm : Nat) (ln : Nat) (pt : Nat) (sg : Nat) (fi : Int32) (se : Int32) (n : Nat) (o : Nat → Int32) (h : Nat → Int32) (t : Nat → Int32) (s : Nat → Int32) (g : Nat → Int32) (kn : Nat) (lo : Int32) (lf : Int32) (nm : Nat → Int32) (sv : Nat → Int32) (sl : Nat → Int32) (ik : Nat → Int32) (bf : Nat → Nat) (co : Nat → Int32) (go : Nat → Int32) (fo : Nat → Int32) (l : Nat) (hi : Nat)  (hb : ∀ i, bf i ≤ 126) (hpl : pt ≤ ln) (hln : ln ≤ 60) (hl : l ≤ 1) (hhi : hi ≤ 3000) (X : kX) (hR : xR X = rm_X4_readNumber) (C : kC X 4 RX4 cX4_readNumber wsX4_readNumber cy) (E : kEnd X 4 cX4_readNumber (mNv bf ln l hi pt) (wM a cy th sm ln (mNq bf ln l hi pt) sg fi se (mSt n o h t s g kn lo lf nm) sv sl ik bf co go fo)) : ∀ (fu : Nat) (v : Nat) (q : Nat), ln - q < fu → (v ≤ hi) → (q ≤ ln) → (mNok bf ln l hi pt = true) → (mNum bf ln hi (ln - q) v q = mNum bf ln hi (ln - (pt + 1)) (mNx bf ln pt - 48) (pt + 1)) → kG X 4 0 0 (wM a cy th sm ln q sg fi se (mSt n o h t s g kn lo lf nm) sv sl ik bf co go fo) 36 [(0, .ref (a 0)), (1, .int (nI l)), (2, .int (nI hi)), (3, .int (nI v))] [] := by
  intro fu
  induction fu with
  | zero => intro v q hfu; exact absurd hfu (Nat.not_lt_zero _)
  | succ fu ih =>
    intro v q hfu hv hq hok hr
    have hnb := mNx_b (ln := ln) (q := q) hb
    refine k_iload_n (q := 37) C 3 dX4_readNumber_36 rfl rfl ?_
    refine k_nif_le (a := v)  (tgt := 96) (q := 40) C dX4_readNumber_37 (by decide) rfl (by omega) ?_ ?_
    · intro c_37
      refine k_iload_n (q := 97) C 3 dX4_readNumber_96 rfl rfl ?_
      have hst : ¬ (0 < v ∧ 48 ≤ mNx bf ln q ∧ mNx bf ln q ≤ 57 ∧ 10 * v + mNx bf ln q - 48 ≤ hi) := by first | (intro z; omega) | (intro z; exact c_51 ((nI_within (a := 48) (b := 57) (by decide) (by decide) (by omega)).mpr ⟨z.2.1, z.2.2.1⟩))
      rw [mNum_n hst] at hr
      exact k_fin E dX4_readNumber_97 (by rw [mNv, if_pos hok, ← hr]) (by rw [mNq, if_pos hok, ← hr])
    · intro c_37
      refine k_aload_n (q := 41) C 0 dX4_readNumber_40 rfl rfl ?_
      refine k_callVI (n := 0) (q := 44) (pre := ([] : va_W)) (post := ([] : va_W)) (w2 := (wM a cy th sm ln q sg fi se (mSt n o h t s g kn lo lf nm) sv sl ik bf co go fo)) (As := []) (rest := []) C (c_X4_next cy a th sm ln q sg fi se n o h t s g kn lo lf nm sv sl ik bf co go fo (by omega) (by omega)) gX4_readNumber_X4_next rfl rfl rfl (by decide +kernel) (k_room hR (by decide)) ⟨Nat.zero_le _, Nat.zero_le _⟩ (ci := 4) rfl 0 rfl rfl rfl (Nat.le_of_ble_eq_true rfl) ((List.append_nil _).symm) (List.append_nil _) dX4_readNumber_41 rfl ?_
      refine k_bipush (q := 46) (v := 48) C dX4_readNumber_44 (by decide +kernel) rfl ?_
      refine k_bipush (q := 48) (v := 57) C dX4_readNumber_46 (by decide +kernel) rfl ?_
      refine k_callSI (n := 3) (q := 51) (pre := ([] : va_W)) (post := (wM a cy th sm ln q sg fi se (mSt n o h t s g kn lo lf nm) sv sl ik bf co go fo)) (w2 := (wM a cy th sm ln q sg fi se (mSt n o h t s g kn lo lf nm) sv sl ik bf co go fo)) (As := [.int (nI (mNx bf ln q)), .int 48, .int 57]) (rest := []) C (c_X4_within (nI (mNx bf ln q)) 48 57) gX4_readNumber_X4_within rfl rfl rfl (by decide +kernel) (k_room hR (by decide)) ⟨Nat.zero_le _, Nat.zero_le _⟩  rfl rfl (Nat.le_of_ble_eq_true rfl) (rfl) (rfl) dX4_readNumber_48 rfl ?_
      refine k_ifB_eq (tgt := 96) (q := 54) C dX4_readNumber_51 (by decide) rfl ?_ ?_
      · intro c_51
        refine k_iload_n (q := 97) C 3 dX4_readNumber_96 rfl rfl ?_
        have hst : ¬ (0 < v ∧ 48 ≤ mNx bf ln q ∧ mNx bf ln q ≤ 57 ∧ 10 * v + mNx bf ln q - 48 ≤ hi) := by first | (intro z; omega) | (intro z; exact c_51 ((nI_within (a := 48) (b := 57) (by decide) (by decide) (by omega)).mpr ⟨z.2.1, z.2.2.1⟩))
        rw [mNum_n hst] at hr
        exact k_fin E dX4_readNumber_97 (by rw [mNv, if_pos hok, ← hr]) (by rw [mNq, if_pos hok, ← hr])
      · intro c_51
        have c51 := (nI_within (a := 48) (b := 57) (by decide) (by decide) (by omega)).mp c_51
        have hql := mNx_q (bf := bf) (ln := ln) (q := q) (by omega)
        refine k_bipush (q := 56) (v := 10) C dX4_readNumber_54 (by decide +kernel) rfl ?_
        refine k_iload_n (q := 57) C 3 dX4_readNumber_56 rfl rfl ?_
        refine k_imul (q := 58) C dX4_readNumber_57 rfl ?_
        refine k_st (st2 := (.int (nI (10 * v)) :: _)) (congrArg (fun z => Value.int z :: _) (show 10 * (nI v) = nI (10 * v) from pk_mul 10 v)) ?_
        refine k_aload_n (q := 59) C 0 dX4_readNumber_58 rfl rfl ?_
        refine k_callVI (n := 0) (q := 62) (pre := ([] : va_W)) (post := ([] : va_W)) (w2 := (wM a cy th sm ln q sg fi se (mSt n o h t s g kn lo lf nm) sv sl ik bf co go fo)) (As := []) (rest := [.int (nI (10 * v))]) C (c_X4_next cy a th sm ln q sg fi se n o h t s g kn lo lf nm sv sl ik bf co go fo hq hln) gX4_readNumber_X4_next rfl rfl rfl (by decide +kernel) (k_room hR (by decide)) ⟨Nat.zero_le _, Nat.zero_le _⟩ (ci := 4) rfl 0 rfl rfl rfl (Nat.le_of_ble_eq_true rfl) ((List.append_nil _).symm) (List.append_nil _) dX4_readNumber_59 rfl ?_
        refine k_iadd (q := 63) C dX4_readNumber_62 rfl ?_
        refine k_st (st2 := (.int (nI (10 * v + (mNx bf ln q))) :: _)) (congrArg (fun z => Value.int z :: _) (show (nI (10 * v)) + (nI (mNx bf ln q)) = nI (10 * v + (mNx bf ln q)) from nI_add (10 * v) (mNx bf ln q))) ?_
        refine k_bipush (q := 65) (v := 48) C dX4_readNumber_63 (by decide +kernel) rfl ?_
        refine k_isub (q := 66) C dX4_readNumber_65 rfl ?_
        refine k_st (st2 := (.int (nI (10 * v + (mNx bf ln q) - 48)) :: _)) (congrArg (fun z => Value.int z :: _) (show (nI (10 * v + (mNx bf ln q))) - 48 = nI (10 * v + (mNx bf ln q) - 48) from pk_sub (a := 10 * v + (mNx bf ln q)) (b := 48) (by omega))) ?_
        refine k_iload_n (q := 67) C 2 dX4_readNumber_66 rfl rfl ?_
        refine k_nicmp_gt (a := 10 * v + (mNx bf ln q) - 48) (b := hi)  (tgt := 96) (q := 70) C dX4_readNumber_67 (by decide) rfl (by omega) (by omega) ?_ ?_
        · intro c_67
          refine k_iload_n (q := 97) C 3 dX4_readNumber_96 rfl rfl ?_
          have hst : ¬ (0 < v ∧ 48 ≤ mNx bf ln q ∧ mNx bf ln q ≤ 57 ∧ 10 * v + mNx bf ln q - 48 ≤ hi) := by first | (intro z; omega) | (intro z; exact c_51 ((nI_within (a := 48) (b := 57) (by decide) (by decide) (by omega)).mpr ⟨z.2.1, z.2.2.1⟩))
          rw [mNum_n hst] at hr
          exact k_fin E dX4_readNumber_97 (by rw [mNv, if_pos hok, ← hr]) (by rw [mNq, if_pos hok, ← hr])
        · intro c_67
          refine k_bipush (q := 72) (v := 10) C dX4_readNumber_70 (by decide +kernel) rfl ?_
          refine k_iload_n (q := 73) C 3 dX4_readNumber_72 rfl rfl ?_
          refine k_imul (q := 74) C dX4_readNumber_73 rfl ?_
          refine k_st (st2 := (.int (nI (10 * v)) :: _)) (congrArg (fun z => Value.int z :: _) (show 10 * (nI v) = nI (10 * v) from pk_mul 10 v)) ?_
          refine k_aload_n (q := 75) C 0 dX4_readNumber_74 rfl rfl ?_
          refine k_callVI (n := 0) (q := 78) (pre := ([] : va_W)) (post := ([] : va_W)) (w2 := (wM a cy th sm ln q sg fi se (mSt n o h t s g kn lo lf nm) sv sl ik bf co go fo)) (As := []) (rest := [.int (nI (10 * v))]) C (c_X4_next cy a th sm ln q sg fi se n o h t s g kn lo lf nm sv sl ik bf co go fo (by omega) (by omega)) gX4_readNumber_X4_next rfl rfl rfl (by decide +kernel) (k_room hR (by decide)) ⟨Nat.zero_le _, Nat.zero_le _⟩ (ci := 4) rfl 0 rfl rfl rfl (Nat.le_of_ble_eq_true rfl) ((List.append_nil _).symm) (List.append_nil _) dX4_readNumber_75 rfl ?_
          refine k_iadd (q := 79) C dX4_readNumber_78 rfl ?_
          refine k_st (st2 := (.int (nI (10 * v + (mNx bf ln q))) :: _)) (congrArg (fun z => Value.int z :: _) (show (nI (10 * v)) + (nI (mNx bf ln q)) = nI (10 * v + (mNx bf ln q)) from nI_add (10 * v) (mNx bf ln q))) ?_
          refine k_bipush (q := 81) (v := 48) C dX4_readNumber_79 (by decide +kernel) rfl ?_
          refine k_isub (q := 82) C dX4_readNumber_81 rfl ?_
          refine k_st (st2 := (.int (nI (10 * v + (mNx bf ln q) - 48)) :: _)) (congrArg (fun z => Value.int z :: _) (show (nI (10 * v + (mNx bf ln q))) - 48 = nI (10 * v + (mNx bf ln q) - 48) from pk_sub (a := 10 * v + (mNx bf ln q)) (b := 48) (by omega))) ?_
          refine k_istore_n (q := 83) (fr2 := [(3, .int (nI (10 * v + (mNx bf ln q) - 48))), (0, .ref (a 0)), (1, .int (nI l)), (2, .int (nI hi))]) C dX4_readNumber_82 (by decide) rfl rfl ?_
          refine k_aload_n (q := 84) C 1 dX4_readNumber_83 rfl rfl ?_
          refine k_dup (q := 85) C dX4_readNumber_84 rfl rfl ?_
          refine k_get (q := 88) (ci := 4) (v := .int (nI q)) C 0 8 in4_X4_readNumber rfl (List.mem_of_getElem? (i := 2) rfl) rfl rfl (by decide) rfl dX4_readNumber_85 rfl ?_
          refine k_iconst (q := 89) (v := 1) C dX4_readNumber_88 (by decide) rfl ?_
          refine k_iadd (q := 90) C dX4_readNumber_89 rfl ?_
          refine k_st (st2 := (.int (nI (q + 1)) :: _)) (congrArg (fun z => Value.int z :: _) (show (nI q) + 1 = nI (q + 1) from nI_add q 1)) ?_
          refine k_put (q := 93) (ci := 4) (v := .int (nI (q + 1))) (w2 := (wM a cy th sm ln (q + 1) sg fi se (mSt n o h t s g kn lo lf nm) sv sl ik bf co go fo)) C 0 8 in4_X4_readNumber rfl (List.mem_of_getElem? (i := 2) rfl) rfl tyX4 tyX4_ok nmX4 rfl (rfl) (rfl) rfl (by decide) (Nat.le_of_ble_eq_true rfl) (rfl) dX4_readNumber_90 rfl ?_
          refine k_goto (q := 36) C dX4_readNumber_93 (by decide) ?_
          refine k_fr (fr2 := [(0, .ref (a 0)), (1, .int (nI l)), (2, .int (nI hi)), (3, .int (nI (10 * v + (mNx bf ln q) - 48)))]) ⟨[1, 2, 3, 0], rfl⟩ ?_
          exact ih (10 * v + (mNx bf ln q) - 48) (q + 1) (by omega) (by omega) (by omega) hok (by rw [← hr]; exact (mNum_y ⟨c_37, c51.1, c51.2, by omega⟩).symm)
set_option maxHeartbeats 4000000 in
set_option maxRecDepth 100000 in
theorem c_X4_readNumber (cy : Nat → ClassId) (a : Nat → Nat) (th : Int32) (sm : Nat) (ln : Nat) (pt : Nat) (sg : Nat) (fi : Int32) (se : Int32) (n : Nat) (o : Nat → Int32) (h : Nat → Int32) (t : Nat → Int32) (s : Nat → Int32) (g : Nat → Int32) (kn : Nat) (lo : Int32) (lf : Int32) (nm : Nat → Int32) (sv : Nat → Int32) (sl : Nat → Int32) (ik : Nat → Int32) (bf : Nat → Nat) (co : Nat → Int32) (go : Nat → Int32) (fo : Nat → Int32) (l : Nat) (hi : Nat)  (hb : ∀ i, bf i ≤ 126) (hpl : pt ≤ ln) (hln : ln ≤ 60) (hl : l ≤ 1) (hhi : hi ≤ 3000) : kI yX4_readNumber wsX4_readNumber rm_X4_readNumber cy [.ref (a 0), .int (nI l), .int (nI hi)] (wM a cy th sm ln pt sg fi se (mSt n o h t s g kn lo lf nm) sv sl ik bf co go fo) (mNv bf ln l hi pt) (wM a cy th sm ln (mNq bf ln l hi pt) sg fi se (mSt n o h t s g kn lo lf nm) sv sl ik bf co go fo) := by
  refine kI_of (cc := cX4_readNumber) (maxL := 4) (rt := .int) (by decide) rfl (rfl) (Nat.le_of_ble_eq_true rfl) ?_
  intro X hR C E
  have C : kC X 4 RX4 cX4_readNumber wsX4_readNumber cy := C
  refine k_fr (fr2 := [(0, .ref (a 0)), (1, .int (nI l)), (2, .int (nI hi))]) ⟨[0, 1, 2], rfl⟩ ?_
  have hnb := mNx_b (ln := ln) (q := pt) hb
  refine k_aload_n (q := 1) C 0 dX4_readNumber_0 rfl rfl ?_
  refine k_callVI (n := 0) (q := 4) (pre := ([] : va_W)) (post := ([] : va_W)) (w2 := (wM a cy th sm ln pt sg fi se (mSt n o h t s g kn lo lf nm) sv sl ik bf co go fo)) (As := []) (rest := []) C (c_X4_next cy a th sm ln pt sg fi se n o h t s g kn lo lf nm sv sl ik bf co go fo (by omega) (by omega)) gX4_readNumber_X4_next rfl rfl rfl (by decide +kernel) (k_room hR (by decide)) ⟨Nat.zero_le _, Nat.zero_le _⟩ (ci := 4) rfl 0 rfl rfl rfl (Nat.le_of_ble_eq_true rfl) ((List.append_nil _).symm) (List.append_nil _) dX4_readNumber_1 rfl ?_
  refine k_bipush (q := 6) (v := 48) C dX4_readNumber_4 (by decide +kernel) rfl ?_
  refine k_isub (q := 7) C dX4_readNumber_6 rfl ?_
  refine k_istore_n (q := 8) (fr2 := [(3, .int ((nI (mNx bf ln pt)) - 48)), (0, .ref (a 0)), (1, .int (nI l)), (2, .int (nI hi))]) C dX4_readNumber_7 (by decide) rfl rfl ?_
  refine k_iload_n (q := 9) C 0 dX4_readNumber_8 rfl rfl ?_
  refine k_iload_n (q := 10) C 2 dX4_readNumber_9 rfl rfl ?_
  refine k_bipush (q := 12) (v := 9) C dX4_readNumber_10 (by decide +kernel) rfl ?_
  refine k_callSI (n := 3) (q := 15) (pre := ([] : va_W)) (post := (wM a cy th sm ln pt sg fi se (mSt n o h t s g kn lo lf nm) sv sl ik bf co go fo)) (w2 := (wM a cy th sm ln pt sg fi se (mSt n o h t s g kn lo lf nm) sv sl ik bf co go fo)) (As := [.int ((nI (mNx bf ln pt)) - 48), .int (nI l), .int 9]) (rest := []) C (c_X4_within ((nI (mNx bf ln pt)) - 48) (nI l) 9) gX4_readNumber_X4_within rfl rfl rfl (by decide +kernel) (k_room hR (by decide)) ⟨Nat.zero_le _, Nat.zero_le _⟩  rfl rfl (Nat.le_of_ble_eq_true rfl) (rfl) (rfl) dX4_readNumber_12 rfl ?_
  refine k_ifB_eq (tgt := 23) (q := 18) C dX4_readNumber_15 (by decide) rfl ?_ ?_
  · intro c_15
    refine k_ldc (q := 25) (v := -99999) C (List.mem_of_getElem? (i := 1) rfl) dX4_readNumber_23 rfl ?_
    exact k_fin E dX4_readNumber_25 (by first | (rw [mNv, if_neg (fun q => c_15 ((mWithin9 (c := mNx bf ln pt) (l := l) (by omega) (by omega)).mpr ⟨(of_decide_eq_true q).1, (of_decide_eq_true q).2.1⟩))]; done) | (rw [mNv, if_neg (fun q => by have := (of_decide_eq_true q).2.2; omega)])) (by first | (rw [mNq, if_neg (fun q => c_15 ((mWithin9 (c := mNx bf ln pt) (l := l) (by omega) (by omega)).mpr ⟨(of_decide_eq_true q).1, (of_decide_eq_true q).2.1⟩))]; done) | (rw [mNq, if_neg (fun q => by have := (of_decide_eq_true q).2.2; omega)]))
  · intro c_15
    have c15 := (mWithin9 (c := mNx bf ln pt) (l := l) (by omega) (by omega)).mp c_15
    have e_18_3 : (nI (mNx bf ln pt)) - 48 = nI (mNx bf ln pt - 48) := pk_sub (a := mNx bf ln pt) (b := 48) (by omega)
    rw [e_18_3]
    refine k_iload_n (q := 19) C 0 dX4_readNumber_18 rfl rfl ?_
    refine k_iload_n (q := 20) C 3 dX4_readNumber_19 rfl rfl ?_
    refine k_nicmp_le (a := mNx bf ln pt - 48) (b := hi)  (tgt := 26) (q := 23) C dX4_readNumber_20 (by decide) rfl (by omega) (by omega) ?_ ?_
    · intro c_20
      refine k_aload_n (q := 27) C 1 dX4_readNumber_26 rfl rfl ?_
      refine k_dup (q := 28) C dX4_readNumber_27 rfl rfl ?_
      refine k_get (q := 31) (ci := 4) (v := .int (nI pt)) C 0 8 in4_X4_readNumber rfl (List.mem_of_getElem? (i := 2) rfl) rfl rfl (by decide) rfl dX4_readNumber_28 rfl ?_
      refine k_iconst (q := 32) (v := 1) C dX4_readNumber_31 (by decide) rfl ?_
      refine k_iadd (q := 33) C dX4_readNumber_32 rfl ?_
      refine k_st (st2 := (.int (nI (pt + 1)) :: _)) (congrArg (fun z => Value.int z :: _) (show (nI pt) + 1 = nI (pt + 1) from nI_add pt 1)) ?_
      refine k_put (q := 36) (ci := 4) (v := .int (nI (pt + 1))) (w2 := (wM a cy th sm ln (pt + 1) sg fi se (mSt n o h t s g kn lo lf nm) sv sl ik bf co go fo)) C 0 8 in4_X4_readNumber rfl (List.mem_of_getElem? (i := 2) rfl) rfl tyX4 tyX4_ok nmX4 rfl (rfl) (rfl) rfl (by decide) (Nat.le_of_ble_eq_true rfl) (rfl) dX4_readNumber_33 rfl ?_
      have hptl := mNx_q (bf := bf) (ln := ln) (q := pt) (by omega)
      refine k_fr (fr2 := [(0, .ref (a 0)), (1, .int (nI l)), (2, .int (nI hi)), (3, .int (nI (mNx bf ln pt - 48)))]) ⟨[1, 2, 3, 0], rfl⟩ ?_
      exact lp_X4_readNumber_36 cy a th sm ln pt sg fi se n o h t s g kn lo lf nm sv sl ik bf co go fo l hi hb hpl hln hl hhi X hR C E _ (mNx bf ln pt - 48) (pt + 1) (Nat.lt_succ_self _) (by omega) (by omega) (decide_eq_true ⟨c15.1, c15.2, by omega⟩) rfl
    · intro c_20
      refine k_ldc (q := 25) (v := -99999) C (List.mem_of_getElem? (i := 1) rfl) dX4_readNumber_23 rfl ?_
      exact k_fin E dX4_readNumber_25 (by first | (rw [mNv, if_neg (fun q => c_15 ((mWithin9 (c := mNx bf ln pt) (l := l) (by omega) (by omega)).mpr ⟨(of_decide_eq_true q).1, (of_decide_eq_true q).2.1⟩))]; done) | (rw [mNv, if_neg (fun q => by have := (of_decide_eq_true q).2.2; omega)])) (by first | (rw [mNq, if_neg (fun q => c_15 ((mWithin9 (c := mNx bf ln pt) (l := l) (by omega) (by omega)).mpr ⟨(of_decide_eq_true q).1, (of_decide_eq_true q).2.1⟩))]; done) | (rw [mNq, if_neg (fun q => by have := (of_decide_eq_true q).2.2; omega)]))
abbrev rm_X4_readsLayer : Room := { frames := 2, cells := 0, slots := 0, locals := 45 }
theorem in4_X4_readsLayer : ∀ w ∈ wsX40, w ∈ wsX4_readsLayer := fun _ h => (List.mem_cons_of_mem _ (List.mem_append_right _ h))
set_option maxHeartbeats 4000000 in
set_option maxRecDepth 100000 in
theorem c_X4_readsLayer (cy : Nat → ClassId) (a : Nat → Nat) (th : Int32) (sm : Nat) (ln : Nat) (pt : Nat) (sg : Nat) (fi : Int32) (se : Int32) (n : Nat) (o : Nat → Int32) (h : Nat → Int32) (t : Nat → Int32) (s : Nat → Int32) (g : Nat → Int32) (kn : Nat) (lo : Int32) (lf : Int32) (nm : Nat → Int32) (sv : Nat → Int32) (sl : Nat → Int32) (ik : Nat → Int32) (bf : Nat → Nat) (co : Nat → Int32) (go : Nat → Int32) (fo : Nat → Int32)  (hb : ∀ i, bf i ≤ 126) (hpl : pt ≤ ln) (hln : ln ≤ 60) : kI yX4_readsLayer wsX4_readsLayer rm_X4_readsLayer cy [.ref (a 0)] (wM a cy th sm ln pt sg fi se (mSt n o h t s g kn lo lf nm) sv sl ik bf co go fo) (bI ((mRL bf ln pt se).1 = true)) (wM a cy th sm ln ((mRL bf ln pt se).2.1) sg ((mRL bf ln pt se).2.2.1) ((mRL bf ln pt se).2.2.2) (mSt n o h t s g kn lo lf nm) sv sl ik bf co go fo) := by
  refine kI_of (cc := cX4_readsLayer) (maxL := 1) (rt := .boolean) (by decide) rfl (kb_nar _) (Nat.le_of_ble_eq_true rfl) ?_
  intro X hR C E
  have C : kC X 1 RX4 cX4_readsLayer wsX4_readsLayer cy := C
  refine k_fr (fr2 := [(0, .ref (a 0))]) ⟨[0], rfl⟩ ?_
  have hq1 := mNq_le (bf := bf) (lo := 1) (hi := 3000) hpl
  refine k_aload_n (q := 1) C 0 dX4_readsLayer_0 rfl rfl ?_
  refine k_aload_n (q := 2) C 0 dX4_readsLayer_1 rfl rfl ?_
  refine k_iconst (q := 3) (v := 1) C dX4_readsLayer_2 (by decide) rfl ?_
  refine k_sipush (q := 6) (v := 3000) C dX4_readsLayer_3 (by decide +kernel) rfl ?_
  refine k_callVI (n := 2) (q := 9) (pre := ([] : va_W)) (post := ([] : va_W)) (w2 := (wM a cy th sm ln (mNq bf ln 1 3000 pt) sg fi se (mSt n o h t s g kn lo lf nm) sv sl ik bf co go fo)) (As := [.int 1, .int 3000]) (rest := [.ref (a 0)]) C (c_X4_readNumber cy a th sm ln pt sg fi se n o h t s g kn lo lf nm sv sl ik bf co go fo 1 3000 hb hpl hln (by decide) (by decide)) gX4_readsLayer_X4_readNumber rfl rfl rfl (by decide +kernel) (k_room hR (by decide)) ⟨Nat.zero_le _, Nat.zero_le _⟩ (ci := 4) rfl 0 rfl rfl rfl (Nat.le_of_ble_eq_true rfl) ((List.append_nil _).symm) (List.append_nil _) dX4_readsLayer_6 rfl ?_
  refine k_put (q := 12) (ci := 4) (v := .int (mNv bf ln 1 3000 pt)) (w2 := (wM a cy th sm ln (mNq bf ln 1 3000 pt) sg (mNv bf ln 1 3000 pt) se (mSt n o h t s g kn lo lf nm) sv sl ik bf co go fo)) C 0 10 in4_X4_readsLayer rfl (List.mem_of_getElem? (i := 1) rfl) rfl tyX4 tyX4_ok nmX4 rfl (rfl) (rfl) rfl (by decide) (Nat.le_of_ble_eq_true rfl) (rfl) dX4_readsLayer_9 rfl ?_
  refine k_aload_n (q := 13) C 0 dX4_readsLayer_12 rfl rfl ?_
  refine k_get (q := 16) (ci := 4) (v := .int (mNv bf ln 1 3000 pt)) C 0 10 in4_X4_readsLayer rfl (List.mem_of_getElem? (i := 1) rfl) rfl rfl (by decide) rfl dX4_readsLayer_13 rfl ?_
  refine k_bipush (q := 18) (v := 50) C dX4_readsLayer_16 (by decide +kernel) rfl ?_
  refine k_icmp_lt (tgt := 30) (q := 21) C dX4_readsLayer_18 (by decide) rfl ?_ ?_
  · intro c_18
    refine k_iconst (q := 31) (v := 0) C dX4_readsLayer_30 (by decide) rfl ?_
    exact k_fin E dX4_readsLayer_31 (by first | (rw [mRL, if_pos c_18]; rfl) | (rw [mRL, if_neg c_18, if_pos c_27]; rfl)) (by first | (rw [mRL, if_pos c_18]; done) | (rw [mRL, if_neg c_18, if_pos c_27, mTk, if_neg c_27]))
  · intro c_18
    refine k_aload_n (q := 22) C 0 dX4_readsLayer_21 rfl rfl ?_
    refine k_bipush (q := 24) (v := 42) C dX4_readsLayer_22 (by decide +kernel) rfl ?_
    refine k_callVI (n := 1) (q := 27) (pre := ([] : va_W)) (post := ([] : va_W)) (w2 := (wM a cy th sm ln (mTk bf ln 42 (mNq bf ln 1 3000 pt)) sg (mNv bf ln 1 3000 pt) se (mSt n o h t s g kn lo lf nm) sv sl ik bf co go fo)) (As := [.int 42]) (rest := []) C (c_X4_takes cy a th sm ln (mNq bf ln 1 3000 pt) sg (mNv bf ln 1 3000 pt) se n o h t s g kn lo lf nm sv sl ik bf co go fo 42 hb hq1 hln (by decide)) gX4_readsLayer_X4_takes rfl rfl rfl (by decide +kernel) (k_room hR (by decide)) ⟨Nat.zero_le _, Nat.zero_le _⟩ (ci := 4) rfl 0 rfl rfl rfl (Nat.le_of_ble_eq_true rfl) ((List.append_nil _).symm) (List.append_nil _) dX4_readsLayer_24 rfl ?_
    refine k_ifB_ne (tgt := 32) (q := 30) C dX4_readsLayer_27 (by decide) rfl ?_ ?_
    · intro c_27
      have hq2 : mNq bf ln 1 3000 pt + 1 ≤ ln := mNx_q (bf := bf) (by omega)
      refine k_w (w2 := (wM a cy th sm ln (mNq bf ln 1 3000 pt + 1) sg (mNv bf ln 1 3000 pt) se (mSt n o h t s g kn lo lf nm) sv sl ik bf co go fo)) (by rw [mTk, if_pos c_27]) ?_
      refine k_aload_n (q := 33) C 0 dX4_readsLayer_32 rfl rfl ?_
      refine k_aload_n (q := 34) C 0 dX4_readsLayer_33 rfl rfl ?_
      refine k_iconst (q := 35) (v := 1) C dX4_readsLayer_34 (by decide) rfl ?_
      refine k_bipush (q := 37) (v := 100) C dX4_readsLayer_35 (by decide +kernel) rfl ?_
      refine k_callVI (n := 2) (q := 40) (pre := ([] : va_W)) (post := ([] : va_W)) (w2 := (wM a cy th sm ln (mNq bf ln 1 100 (mNq bf ln 1 3000 pt + 1)) sg (mNv bf ln 1 3000 pt) se (mSt n o h t s g kn lo lf nm) sv sl ik bf co go fo)) (As := [.int 1, .int 100]) (rest := [.ref (a 0)]) C (c_X4_readNumber cy a th sm ln (mNq bf ln 1 3000 pt + 1) sg (mNv bf ln 1 3000 pt) se n o h t s g kn lo lf nm sv sl ik bf co go fo 1 100 hb hq2 hln (by decide) (by decide)) gX4_readsLayer_X4_readNumber rfl rfl rfl (by decide +kernel) (k_room hR (by decide)) ⟨Nat.zero_le _, Nat.zero_le _⟩ (ci := 4) rfl 0 rfl rfl rfl (Nat.le_of_ble_eq_true rfl) ((List.append_nil _).symm) (List.append_nil _) dX4_readsLayer_37 rfl ?_
      refine k_put (q := 43) (ci := 4) (v := .int (mNv bf ln 1 100 (mNq bf ln 1 3000 pt + 1))) (w2 := (wM a cy th sm ln (mNq bf ln 1 100 (mNq bf ln 1 3000 pt + 1)) sg (mNv bf ln 1 3000 pt) (mNv bf ln 1 100 (mNq bf ln 1 3000 pt + 1)) (mSt n o h t s g kn lo lf nm) sv sl ik bf co go fo)) C 0 11 in4_X4_readsLayer rfl (List.mem_of_getElem? (i := 2) rfl) rfl tyX4 tyX4_ok nmX4 rfl (rfl) (rfl) rfl (by decide) (Nat.le_of_ble_eq_true rfl) (rfl) dX4_readsLayer_40 rfl ?_
      refine k_aload_n (q := 44) C 0 dX4_readsLayer_43 rfl rfl ?_
      refine k_get (q := 47) (ci := 4) (v := .int (mNv bf ln 1 100 (mNq bf ln 1 3000 pt + 1))) C 0 11 in4_X4_readsLayer rfl (List.mem_of_getElem? (i := 2) rfl) rfl rfl (by decide) rfl dX4_readsLayer_44 rfl ?_
      refine k_ldc (q := 49) (v := -99999) C (List.mem_of_getElem? (i := 3) rfl) dX4_readsLayer_47 rfl ?_
      refine k_icmp_eq (tgt := 56) (q := 52) C dX4_readsLayer_49 (by decide) rfl ?_ ?_
      · intro c_49
        refine k_iconst (q := 57) (v := 0) C dX4_readsLayer_56 (by decide) rfl ?_
        exact k_fin E dX4_readsLayer_57 (by rw [mRL, if_neg c_18, if_neg (fun q => q c_27)]; first | exact bI_t (by rw [mNv_none (by decide)] at c_49; simpa using c_49) | exact bI_f (by rw [mNv_none (by decide)] at c_49; simpa using c_49)) (by rw [mRL, if_neg c_18, if_neg (fun q => q c_27)])
      · intro c_49
        refine k_iconst (q := 53) (v := 1) C dX4_readsLayer_52 (by decide) rfl ?_
        refine k_goto (q := 57) C dX4_readsLayer_53 (by decide) ?_
        exact k_fin E dX4_readsLayer_57 (by rw [mRL, if_neg c_18, if_neg (fun q => q c_27)]; first | exact bI_t (by rw [mNv_none (by decide)] at c_49; simpa using c_49) | exact bI_f (by rw [mNv_none (by decide)] at c_49; simpa using c_49)) (by rw [mRL, if_neg c_18, if_neg (fun q => q c_27)])
    · intro c_27
      refine k_iconst (q := 31) (v := 0) C dX4_readsLayer_30 (by decide) rfl ?_
      exact k_fin E dX4_readsLayer_31 (by first | (rw [mRL, if_pos c_18]; rfl) | (rw [mRL, if_neg c_18, if_pos c_27]; rfl)) (by first | (rw [mRL, if_pos c_18]; done) | (rw [mRL, if_neg c_18, if_pos c_27, mTk, if_neg c_27]))
abbrev rm_X4_readsSlope : Room := { frames := 2, cells := 0, slots := 0, locals := 45 }
theorem in4_X4_readsSlope : ∀ w ∈ wsX40, w ∈ wsX4_readsSlope := fun _ h => (List.mem_cons_of_mem _ (List.mem_append_right _ h))
set_option maxHeartbeats 4000000 in
set_option maxRecDepth 100000 in
theorem c_X4_readsSlope (cy : Nat → ClassId) (a : Nat → Nat) (th : Int32) (sm : Nat) (ln : Nat) (pt : Nat) (sg : Nat) (fi : Int32) (se : Int32) (n : Nat) (o : Nat → Int32) (h : Nat → Int32) (t : Nat → Int32) (s : Nat → Int32) (g : Nat → Int32) (kn : Nat) (lo : Int32) (lf : Int32) (nm : Nat → Int32) (sv : Nat → Int32) (sl : Nat → Int32) (ik : Nat → Int32) (bf : Nat → Nat) (co : Nat → Int32) (go : Nat → Int32) (fo : Nat → Int32)  (hb : ∀ i, bf i ≤ 126) (hpl : pt ≤ ln) (hln : ln ≤ 60) : kI yX4_readsSlope wsX4_readsSlope rm_X4_readsSlope cy [.ref (a 0)] (wM a cy th sm ln pt sg fi se (mSt n o h t s g kn lo lf nm) sv sl ik bf co go fo) (bI ((mRS bf ln pt).1 = true)) (wM a cy th sm ln ((mRS bf ln pt).2.1) sg ((mRS bf ln pt).2.2) se (mSt n o h t s g kn lo lf nm) sv sl ik bf co go fo) := by
  refine kI_of (cc := cX4_readsSlope) (maxL := 3) (rt := .boolean) (by decide) rfl (kb_nar _) (Nat.le_of_ble_eq_true rfl) ?_
  intro X hR C E
  have C : kC X 3 RX4 cX4_readsSlope wsX4_readsSlope cy := C
  refine k_fr (fr2 := [(0, .ref (a 0))]) ⟨[0], rfl⟩ ?_
  have hq1 := mTk_le (bf := bf) (c := 45) (by decide) hpl
  refine k_aload_n (q := 1) C 0 dX4_readsSlope_0 rfl rfl ?_
  refine k_bipush (q := 3) (v := 45) C dX4_readsSlope_1 (by decide +kernel) rfl ?_
  refine k_callVI (n := 1) (q := 6) (pre := ([] : va_W)) (post := ([] : va_W)) (w2 := (wM a cy th sm ln (mTk bf ln 45 pt) sg fi se (mSt n o h t s g kn lo lf nm) sv sl ik bf co go fo)) (As := [.int 45]) (rest := []) C (c_X4_takes cy a th sm ln pt sg fi se n o h t s g kn lo lf nm sv sl ik bf co go fo 45 hb hpl hln (by decide)) gX4_readsSlope_X4_takes rfl rfl rfl (by decide +kernel) (k_room hR (by decide)) ⟨Nat.zero_le _, Nat.zero_le _⟩ (ci := 4) rfl 0 rfl rfl rfl (Nat.le_of_ble_eq_true rfl) ((List.append_nil _).symm) (List.append_nil _) dX4_readsSlope_3 rfl ?_
  refine k_istore_n (q := 7) (fr2 := [(1, .int (bI (mNx bf ln pt = 45))), (0, .ref (a 0))]) C dX4_readsSlope_6 (by decide) rfl rfl ?_
  refine k_aload_n (q := 8) C 1 dX4_readsSlope_7 rfl rfl ?_
  refine k_aload_n (q := 9) C 1 dX4_readsSlope_8 rfl rfl ?_
  refine k_iconst (q := 10) (v := 0) C dX4_readsSlope_9 (by decide) rfl ?_
  refine k_bipush (q := 12) (v := 30) C dX4_readsSlope_10 (by decide +kernel) rfl ?_
  refine k_callVI (n := 2) (q := 15) (pre := ([] : va_W)) (post := ([] : va_W)) (w2 := (wM a cy th sm ln (mNq bf ln 0 30 (mTk bf ln 45 pt)) sg fi se (mSt n o h t s g kn lo lf nm) sv sl ik bf co go fo)) (As := [.int 0, .int 30]) (rest := [.ref (a 0)]) C (c_X4_readNumber cy a th sm ln (mTk bf ln 45 pt) sg fi se n o h t s g kn lo lf nm sv sl ik bf co go fo 0 30 hb hq1 hln (by decide) (by decide)) gX4_readsSlope_X4_readNumber rfl rfl rfl (by decide +kernel) (k_room hR (by decide)) ⟨Nat.zero_le _, Nat.zero_le _⟩ (ci := 4) rfl 0 rfl rfl rfl (Nat.le_of_ble_eq_true rfl) ((List.append_nil _).symm) (List.append_nil _) dX4_readsSlope_12 rfl ?_
  refine k_put (q := 18) (ci := 4) (v := .int (mNv bf ln 0 30 (mTk bf ln 45 pt))) (w2 := (wM a cy th sm ln (mNq bf ln 0 30 (mTk bf ln 45 pt)) sg (mNv bf ln 0 30 (mTk bf ln 45 pt)) se (mSt n o h t s g kn lo lf nm) sv sl ik bf co go fo)) C 0 10 in4_X4_readsSlope rfl (List.mem_of_getElem? (i := 1) rfl) rfl tyX4 tyX4_ok nmX4 rfl (rfl) (rfl) rfl (by decide) (Nat.le_of_ble_eq_true rfl) (rfl) dX4_readsSlope_15 rfl ?_
  refine k_aload_n (q := 19) C 1 dX4_readsSlope_18 rfl rfl ?_
  refine k_get (q := 22) (ci := 4) (v := .int (mNv bf ln 0 30 (mTk bf ln 45 pt))) C 0 10 in4_X4_readsSlope rfl (List.mem_of_getElem? (i := 1) rfl) rfl rfl (by decide) rfl dX4_readsSlope_19 rfl ?_
  refine k_ldc (q := 24) (v := -99999) C (List.mem_of_getElem? (i := 2) rfl) dX4_readsSlope_22 rfl ?_
  refine k_icmp_eq (tgt := 31) (q := 27) C dX4_readsSlope_24 (by decide) rfl ?_ ?_
  · intro c_24
    refine k_iconst (q := 32) (v := 0) C dX4_readsSlope_31 (by decide) rfl ?_
    refine k_istore_n (q := 33) (fr2 := [(2, .int 0), (1, .int (bI (mNx bf ln pt = 45))), (0, .ref (a 0))]) C dX4_readsSlope_32 (by decide) rfl rfl ?_
    refine k_aload_n (q := 34) C 2 dX4_readsSlope_33 rfl rfl ?_
    refine k_iload_n (q := 35) C 1 dX4_readsSlope_34 rfl rfl ?_
    refine k_ifB_eq (tgt := 46) (q := 38) C dX4_readsSlope_35 (by decide) rfl ?_ ?_
    · intro c_35
      refine k_aload_n (q := 47) C 2 dX4_readsSlope_46 rfl rfl ?_
      refine k_get (q := 50) (ci := 4) (v := .int (mNv bf ln 0 30 (mTk bf ln 45 pt))) C 0 10 in4_X4_readsSlope rfl (List.mem_of_getElem? (i := 1) rfl) rfl rfl (by decide) rfl dX4_readsSlope_47 rfl ?_
      refine k_put (q := 53) (ci := 4) (v := .int (mNv bf ln 0 30 (mTk bf ln 45 pt))) (w2 := (wM a cy th sm ln (mNq bf ln 0 30 (mTk bf ln 45 pt)) sg (mNv bf ln 0 30 (mTk bf ln 45 pt)) se (mSt n o h t s g kn lo lf nm) sv sl ik bf co go fo)) C 0 10 in4_X4_readsSlope rfl (List.mem_of_getElem? (i := 1) rfl) rfl tyX4 tyX4_ok nmX4 rfl (rfl) (rfl) rfl (by decide) (Nat.le_of_ble_eq_true rfl) (rfl) dX4_readsSlope_50 rfl ?_
      refine k_iload_n (q := 54) C 0 dX4_readsSlope_53 rfl rfl ?_
      exact k_fin E dX4_readsSlope_54 (by first | exact bI_t (by rw [mNv_none (by decide)] at c_24; simpa [mRS] using c_24) | exact bI_f (by rw [mNv_none (by decide)] at c_24; simpa [mRS] using c_24)) (by first | (simp only [mRS, if_pos c_35]; done) | (simp only [mRS, if_neg c_35]))
    · intro c_35
      refine k_aload_n (q := 39) C 2 dX4_readsSlope_38 rfl rfl ?_
      refine k_get (q := 42) (ci := 4) (v := .int (mNv bf ln 0 30 (mTk bf ln 45 pt))) C 0 10 in4_X4_readsSlope rfl (List.mem_of_getElem? (i := 1) rfl) rfl rfl (by decide) rfl dX4_readsSlope_39 rfl ?_
      refine k_ineg (q := 43) C dX4_readsSlope_42 rfl ?_
      refine k_goto (q := 50) C dX4_readsSlope_43 (by decide) ?_
      refine k_put (q := 53) (ci := 4) (v := .int (-(mNv bf ln 0 30 (mTk bf ln 45 pt)))) (w2 := (wM a cy th sm ln (mNq bf ln 0 30 (mTk bf ln 45 pt)) sg (-(mNv bf ln 0 30 (mTk bf ln 45 pt))) se (mSt n o h t s g kn lo lf nm) sv sl ik bf co go fo)) C 0 10 in4_X4_readsSlope rfl (List.mem_of_getElem? (i := 1) rfl) rfl tyX4 tyX4_ok nmX4 rfl (rfl) (rfl) rfl (by decide) (Nat.le_of_ble_eq_true rfl) (rfl) dX4_readsSlope_50 rfl ?_
      refine k_iload_n (q := 54) C 0 dX4_readsSlope_53 rfl rfl ?_
      exact k_fin E dX4_readsSlope_54 (by first | exact bI_t (by rw [mNv_none (by decide)] at c_24; simpa [mRS] using c_24) | exact bI_f (by rw [mNv_none (by decide)] at c_24; simpa [mRS] using c_24)) (by first | (simp only [mRS, if_pos c_35]; done) | (simp only [mRS, if_neg c_35]))
  · intro c_24
    refine k_iconst (q := 28) (v := 1) C dX4_readsSlope_27 (by decide) rfl ?_
    refine k_goto (q := 32) C dX4_readsSlope_28 (by decide) ?_
    refine k_istore_n (q := 33) (fr2 := [(2, .int 1), (1, .int (bI (mNx bf ln pt = 45))), (0, .ref (a 0))]) C dX4_readsSlope_32 (by decide) rfl rfl ?_
    refine k_aload_n (q := 34) C 2 dX4_readsSlope_33 rfl rfl ?_
    refine k_iload_n (q := 35) C 1 dX4_readsSlope_34 rfl rfl ?_
    refine k_ifB_eq (tgt := 46) (q := 38) C dX4_readsSlope_35 (by decide) rfl ?_ ?_
    · intro c_35
      refine k_aload_n (q := 47) C 2 dX4_readsSlope_46 rfl rfl ?_
      refine k_get (q := 50) (ci := 4) (v := .int (mNv bf ln 0 30 (mTk bf ln 45 pt))) C 0 10 in4_X4_readsSlope rfl (List.mem_of_getElem? (i := 1) rfl) rfl rfl (by decide) rfl dX4_readsSlope_47 rfl ?_
      refine k_put (q := 53) (ci := 4) (v := .int (mNv bf ln 0 30 (mTk bf ln 45 pt))) (w2 := (wM a cy th sm ln (mNq bf ln 0 30 (mTk bf ln 45 pt)) sg (mNv bf ln 0 30 (mTk bf ln 45 pt)) se (mSt n o h t s g kn lo lf nm) sv sl ik bf co go fo)) C 0 10 in4_X4_readsSlope rfl (List.mem_of_getElem? (i := 1) rfl) rfl tyX4 tyX4_ok nmX4 rfl (rfl) (rfl) rfl (by decide) (Nat.le_of_ble_eq_true rfl) (rfl) dX4_readsSlope_50 rfl ?_
      refine k_iload_n (q := 54) C 0 dX4_readsSlope_53 rfl rfl ?_
      exact k_fin E dX4_readsSlope_54 (by first | exact bI_t (by rw [mNv_none (by decide)] at c_24; simpa [mRS] using c_24) | exact bI_f (by rw [mNv_none (by decide)] at c_24; simpa [mRS] using c_24)) (by first | (simp only [mRS, if_pos c_35]; done) | (simp only [mRS, if_neg c_35]))
    · intro c_35
      refine k_aload_n (q := 39) C 2 dX4_readsSlope_38 rfl rfl ?_
      refine k_get (q := 42) (ci := 4) (v := .int (mNv bf ln 0 30 (mTk bf ln 45 pt))) C 0 10 in4_X4_readsSlope rfl (List.mem_of_getElem? (i := 1) rfl) rfl rfl (by decide) rfl dX4_readsSlope_39 rfl ?_
      refine k_ineg (q := 43) C dX4_readsSlope_42 rfl ?_
      refine k_goto (q := 50) C dX4_readsSlope_43 (by decide) ?_
      refine k_put (q := 53) (ci := 4) (v := .int (-(mNv bf ln 0 30 (mTk bf ln 45 pt)))) (w2 := (wM a cy th sm ln (mNq bf ln 0 30 (mTk bf ln 45 pt)) sg (-(mNv bf ln 0 30 (mTk bf ln 45 pt))) se (mSt n o h t s g kn lo lf nm) sv sl ik bf co go fo)) C 0 10 in4_X4_readsSlope rfl (List.mem_of_getElem? (i := 1) rfl) rfl tyX4 tyX4_ok nmX4 rfl (rfl) (rfl) rfl (by decide) (Nat.le_of_ble_eq_true rfl) (rfl) dX4_readsSlope_50 rfl ?_
      refine k_iload_n (q := 54) C 0 dX4_readsSlope_53 rfl rfl ?_
      exact k_fin E dX4_readsSlope_54 (by first | exact bI_t (by rw [mNv_none (by decide)] at c_24; simpa [mRS] using c_24) | exact bI_f (by rw [mNv_none (by decide)] at c_24; simpa [mRS] using c_24)) (by first | (simp only [mRS, if_pos c_35]; done) | (simp only [mRS, if_neg c_35]))
abbrev rm_X4_readsOrder : Room := { frames := 3, cells := 0, slots := 0, locals := 67 }
theorem in4_X4_readsOrder : ∀ w ∈ wsX40, w ∈ wsX4_readsOrder := fun _ h => (List.mem_cons_of_mem _ (List.mem_append_right _ h))
set_option maxHeartbeats 4000000 in
set_option maxRecDepth 100000 in
theorem c_X4_readsOrder (cy : Nat → ClassId) (a : Nat → Nat) (th : Int32) (sm : Nat) (ln : Nat) (pt : Nat) (sg : Nat) (fi : Int32) (se : Int32) (n : Nat) (o : Nat → Int32) (h : Nat → Int32) (t : Nat → Int32) (s : Nat → Int32) (g : Nat → Int32) (kn : Nat) (lo : Int32) (lf : Int32) (nm : Nat → Int32) (sv : Nat → Int32) (sl : Nat → Int32) (ik : Nat → Int32) (bf : Nat → Nat) (co : Nat → Int32) (go : Nat → Int32) (fo : Nat → Int32)  (hb : ∀ i, bf i ≤ 126) (hpl : pt ≤ ln) (hln : ln ≤ 60) : kI yX4_readsOrder wsX4_readsOrder rm_X4_readsOrder cy [.ref (a 0)] (wM a cy th sm ln pt sg fi se (mSt n o h t s g kn lo lf nm) sv sl ik bf co go fo) (bI ((mRO bf ln pt fi se).1 = true)) (wM a cy th sm ln ((mRO bf ln pt fi se).2.1) ((mRO bf ln pt fi se).2.2.1) ((mRO bf ln pt fi se).2.2.2.1) ((mRO bf ln pt fi se).2.2.2.2) (mSt n o h t s g kn lo lf nm) sv sl ik bf co go fo) := by
  refine kI_of (cc := cX4_readsOrder) (maxL := 1) (rt := .boolean) (by decide) rfl (kb_nar _) (Nat.le_of_ble_eq_true rfl) ?_
  intro X hR C E
  have C : kC X 1 RX4 cX4_readsOrder wsX4_readsOrder cy := C
  refine k_fr (fr2 := [(0, .ref (a 0))]) ⟨[0], rfl⟩ ?_
  have hnb := mNx_b (ln := ln) (q := pt) hb
  have hx0 : 0 < mNx bf ln pt → pt + 1 ≤ ln := fun q => mNx_q q
  refine k_aload_n (q := 1) C 0 dX4_readsOrder_0 rfl rfl ?_
  refine k_aload_n (q := 2) C 0 dX4_readsOrder_1 rfl rfl ?_
  refine k_callVI (n := 0) (q := 5) (pre := ([] : va_W)) (post := ([] : va_W)) (w2 := (wM a cy th sm ln pt sg fi se (mSt n o h t s g kn lo lf nm) sv sl ik bf co go fo)) (As := []) (rest := [.ref (a 0)]) C (c_X4_next cy a th sm ln pt sg fi se n o h t s g kn lo lf nm sv sl ik bf co go fo (by omega) (by omega)) gX4_readsOrder_X4_next rfl rfl rfl (by decide +kernel) (k_room hR (by decide)) ⟨Nat.zero_le _, Nat.zero_le _⟩ (ci := 4) rfl 0 rfl rfl rfl (Nat.le_of_ble_eq_true rfl) ((List.append_nil _).symm) (List.append_nil _) dX4_readsOrder_2 rfl ?_
  refine k_put (q := 8) (ci := 4) (v := .int (nI (mNx bf ln pt))) (w2 := (wM a cy th sm ln pt (mNx bf ln pt) fi se (mSt n o h t s g kn lo lf nm) sv sl ik bf co go fo)) C 0 9 in4_X4_readsOrder rfl (List.mem_of_getElem? (i := 1) rfl) rfl tyX4 tyX4_ok nmX4 rfl (rfl) (rfl) rfl (by decide) (Nat.le_of_ble_eq_true rfl) (rfl) dX4_readsOrder_5 rfl ?_
  refine k_aload_n (q := 9) C 0 dX4_readsOrder_8 rfl rfl ?_
  refine k_get (q := 12) (ci := 4) (v := .int (nI (mNx bf ln pt))) C 0 9 in4_X4_readsOrder rfl (List.mem_of_getElem? (i := 1) rfl) rfl rfl (by decide) rfl dX4_readsOrder_9 rfl ?_
  by_cases s_12_97 : mNx bf ln pt = 97
  · refine k_lookup (q := 79) (off := 67) C dX4_readsOrder_12 (by decide +kernel) (by rw [s_12_97]; decide +kernel) (by decide) ?_
    refine k_aload_n (q := 80) C 0 dX4_readsOrder_79 rfl rfl ?_
    refine k_dup (q := 81) C dX4_readsOrder_80 rfl rfl ?_
    refine k_get (q := 84) (ci := 4) (v := .int (nI pt)) C 0 8 in4_X4_readsOrder rfl (List.mem_of_getElem? (i := 2) rfl) rfl rfl (by decide) rfl dX4_readsOrder_81 rfl ?_
    refine k_iconst (q := 85) (v := 1) C dX4_readsOrder_84 (by decide) rfl ?_
    refine k_iadd (q := 86) C dX4_readsOrder_85 rfl ?_
    refine k_st (st2 := (.int (nI (pt + 1)) :: _)) (congrArg (fun z => Value.int z :: _) (show (nI pt) + 1 = nI (pt + 1) from nI_add pt 1)) ?_
    refine k_put (q := 89) (ci := 4) (v := .int (nI (pt + 1))) (w2 := (wM a cy th sm ln (pt + 1) (mNx bf ln pt) fi se (mSt n o h t s g kn lo lf nm) sv sl ik bf co go fo)) C 0 8 in4_X4_readsOrder rfl (List.mem_of_getElem? (i := 2) rfl) rfl tyX4 tyX4_ok nmX4 rfl (rfl) (rfl) rfl (by decide) (Nat.le_of_ble_eq_true rfl) (rfl) dX4_readsOrder_86 rfl ?_
    refine k_aload_n (q := 90) C 0 dX4_readsOrder_89 rfl rfl ?_
    refine k_callVI (n := 0) (q := 93) (pre := ([] : va_W)) (post := ([] : va_W)) (w2 := (wM a cy th sm ln ((mRS bf ln (pt + 1)).2.1) (mNx bf ln pt) ((mRS bf ln (pt + 1)).2.2) se (mSt n o h t s g kn lo lf nm) sv sl ik bf co go fo)) (As := []) (rest := []) C (c_X4_readsSlope cy a th sm ln (pt + 1) (mNx bf ln pt) fi se n o h t s g kn lo lf nm sv sl ik bf co go fo hb (by omega) hln) gX4_readsOrder_X4_readsSlope rfl rfl rfl (by decide +kernel) (k_room hR (by decide)) ⟨Nat.zero_le _, Nat.zero_le _⟩ (ci := 4) rfl 0 rfl rfl rfl (Nat.le_of_ble_eq_true rfl) ((List.append_nil _).symm) (List.append_nil _) dX4_readsOrder_90 rfl ?_
    exact k_fin E dX4_readsOrder_93 (by rw [mRO, if_neg (by omega), if_pos (by omega)]) (by rw [mRO, if_neg (by omega), if_pos (by omega)])
  by_cases s_12_98 : mNx bf ln pt = 98
  · refine k_lookup (q := 79) (off := 67) C dX4_readsOrder_12 (by decide +kernel) (by rw [s_12_98]; decide +kernel) (by decide) ?_
    refine k_aload_n (q := 80) C 0 dX4_readsOrder_79 rfl rfl ?_
    refine k_dup (q := 81) C dX4_readsOrder_80 rfl rfl ?_
    refine k_get (q := 84) (ci := 4) (v := .int (nI pt)) C 0 8 in4_X4_readsOrder rfl (List.mem_of_getElem? (i := 2) rfl) rfl rfl (by decide) rfl dX4_readsOrder_81 rfl ?_
    refine k_iconst (q := 85) (v := 1) C dX4_readsOrder_84 (by decide) rfl ?_
    refine k_iadd (q := 86) C dX4_readsOrder_85 rfl ?_
    refine k_st (st2 := (.int (nI (pt + 1)) :: _)) (congrArg (fun z => Value.int z :: _) (show (nI pt) + 1 = nI (pt + 1) from nI_add pt 1)) ?_
    refine k_put (q := 89) (ci := 4) (v := .int (nI (pt + 1))) (w2 := (wM a cy th sm ln (pt + 1) (mNx bf ln pt) fi se (mSt n o h t s g kn lo lf nm) sv sl ik bf co go fo)) C 0 8 in4_X4_readsOrder rfl (List.mem_of_getElem? (i := 2) rfl) rfl tyX4 tyX4_ok nmX4 rfl (rfl) (rfl) rfl (by decide) (Nat.le_of_ble_eq_true rfl) (rfl) dX4_readsOrder_86 rfl ?_
    refine k_aload_n (q := 90) C 0 dX4_readsOrder_89 rfl rfl ?_
    refine k_callVI (n := 0) (q := 93) (pre := ([] : va_W)) (post := ([] : va_W)) (w2 := (wM a cy th sm ln ((mRS bf ln (pt + 1)).2.1) (mNx bf ln pt) ((mRS bf ln (pt + 1)).2.2) se (mSt n o h t s g kn lo lf nm) sv sl ik bf co go fo)) (As := []) (rest := []) C (c_X4_readsSlope cy a th sm ln (pt + 1) (mNx bf ln pt) fi se n o h t s g kn lo lf nm sv sl ik bf co go fo hb (by omega) hln) gX4_readsOrder_X4_readsSlope rfl rfl rfl (by decide +kernel) (k_room hR (by decide)) ⟨Nat.zero_le _, Nat.zero_le _⟩ (ci := 4) rfl 0 rfl rfl rfl (Nat.le_of_ble_eq_true rfl) ((List.append_nil _).symm) (List.append_nil _) dX4_readsOrder_90 rfl ?_
    exact k_fin E dX4_readsOrder_93 (by rw [mRO, if_neg (by omega), if_pos (by omega)]) (by rw [mRO, if_neg (by omega), if_pos (by omega)])
  by_cases s_12_99 : mNx bf ln pt = 99
  · refine k_lookup (q := 64) (off := 52) C dX4_readsOrder_12 (by decide +kernel) (by rw [s_12_99]; decide +kernel) (by decide) ?_
    refine k_aload_n (q := 65) C 0 dX4_readsOrder_64 rfl rfl ?_
    refine k_dup (q := 66) C dX4_readsOrder_65 rfl rfl ?_
    refine k_get (q := 69) (ci := 4) (v := .int (nI pt)) C 0 8 in4_X4_readsOrder rfl (List.mem_of_getElem? (i := 2) rfl) rfl rfl (by decide) rfl dX4_readsOrder_66 rfl ?_
    refine k_iconst (q := 70) (v := 1) C dX4_readsOrder_69 (by decide) rfl ?_
    refine k_iadd (q := 71) C dX4_readsOrder_70 rfl ?_
    refine k_st (st2 := (.int (nI (pt + 1)) :: _)) (congrArg (fun z => Value.int z :: _) (show (nI pt) + 1 = nI (pt + 1) from nI_add pt 1)) ?_
    refine k_put (q := 74) (ci := 4) (v := .int (nI (pt + 1))) (w2 := (wM a cy th sm ln (pt + 1) (mNx bf ln pt) fi se (mSt n o h t s g kn lo lf nm) sv sl ik bf co go fo)) C 0 8 in4_X4_readsOrder rfl (List.mem_of_getElem? (i := 2) rfl) rfl tyX4 tyX4_ok nmX4 rfl (rfl) (rfl) rfl (by decide) (Nat.le_of_ble_eq_true rfl) (rfl) dX4_readsOrder_71 rfl ?_
    refine k_aload_n (q := 75) C 0 dX4_readsOrder_74 rfl rfl ?_
    refine k_callVI (n := 0) (q := 78) (pre := ([] : va_W)) (post := ([] : va_W)) (w2 := (wM a cy th sm ln ((mRL bf ln (pt + 1) se).2.1) (mNx bf ln pt) ((mRL bf ln (pt + 1) se).2.2.1) ((mRL bf ln (pt + 1) se).2.2.2) (mSt n o h t s g kn lo lf nm) sv sl ik bf co go fo)) (As := []) (rest := []) C (c_X4_readsLayer cy a th sm ln (pt + 1) (mNx bf ln pt) fi se n o h t s g kn lo lf nm sv sl ik bf co go fo hb (by omega) hln) gX4_readsOrder_X4_readsLayer rfl rfl rfl (by decide +kernel) (k_room hR (by decide)) ⟨Nat.zero_le _, Nat.zero_le _⟩ (ci := 4) rfl 0 rfl rfl rfl (Nat.le_of_ble_eq_true rfl) ((List.append_nil _).symm) (List.append_nil _) dX4_readsOrder_75 rfl ?_
    exact k_fin E dX4_readsOrder_78 (by rw [mRO, if_pos s_12_99]) (by rw [mRO, if_pos s_12_99, s_12_99])
  by_cases s_12_110 : mNx bf ln pt = 110
  · refine k_lookup (q := 129) (off := 117) C dX4_readsOrder_12 (by decide +kernel) (by rw [s_12_110]; decide +kernel) (by decide) ?_
    refine k_aload_n (q := 130) C 0 dX4_readsOrder_129 rfl rfl ?_
    refine k_dup (q := 131) C dX4_readsOrder_130 rfl rfl ?_
    refine k_get (q := 134) (ci := 4) (v := .int (nI pt)) C 0 8 in4_X4_readsOrder rfl (List.mem_of_getElem? (i := 2) rfl) rfl rfl (by decide) rfl dX4_readsOrder_131 rfl ?_
    refine k_iconst (q := 135) (v := 1) C dX4_readsOrder_134 (by decide) rfl ?_
    refine k_iadd (q := 136) C dX4_readsOrder_135 rfl ?_
    refine k_st (st2 := (.int (nI (pt + 1)) :: _)) (congrArg (fun z => Value.int z :: _) (show (nI pt) + 1 = nI (pt + 1) from nI_add pt 1)) ?_
    refine k_put (q := 139) (ci := 4) (v := .int (nI (pt + 1))) (w2 := (wM a cy th sm ln (pt + 1) (mNx bf ln pt) fi se (mSt n o h t s g kn lo lf nm) sv sl ik bf co go fo)) C 0 8 in4_X4_readsOrder rfl (List.mem_of_getElem? (i := 2) rfl) rfl tyX4 tyX4_ok nmX4 rfl (rfl) (rfl) rfl (by decide) (Nat.le_of_ble_eq_true rfl) (rfl) dX4_readsOrder_136 rfl ?_
    refine k_iconst (q := 140) (v := 1) C dX4_readsOrder_139 (by decide) rfl ?_
    exact k_fin E dX4_readsOrder_140 (by rw [mRO, if_neg (by omega), if_neg (by omega), if_neg (by omega), if_pos s_12_110]; rfl) (by rw [mRO, if_neg (by omega), if_neg (by omega), if_neg (by omega), if_pos s_12_110, s_12_110])
  by_cases s_12_120 : mNx bf ln pt = 120
  · refine k_lookup (q := 94) (off := 82) C dX4_readsOrder_12 (by decide +kernel) (by rw [s_12_120]; decide +kernel) (by decide) ?_
    refine k_aload_n (q := 95) C 0 dX4_readsOrder_94 rfl rfl ?_
    refine k_dup (q := 96) C dX4_readsOrder_95 rfl rfl ?_
    refine k_get (q := 99) (ci := 4) (v := .int (nI pt)) C 0 8 in4_X4_readsOrder rfl (List.mem_of_getElem? (i := 2) rfl) rfl rfl (by decide) rfl dX4_readsOrder_96 rfl ?_
    refine k_iconst (q := 100) (v := 1) C dX4_readsOrder_99 (by decide) rfl ?_
    refine k_iadd (q := 101) C dX4_readsOrder_100 rfl ?_
    refine k_st (st2 := (.int (nI (pt + 1)) :: _)) (congrArg (fun z => Value.int z :: _) (show (nI pt) + 1 = nI (pt + 1) from nI_add pt 1)) ?_
    refine k_put (q := 104) (ci := 4) (v := .int (nI (pt + 1))) (w2 := (wM a cy th sm ln (pt + 1) (mNx bf ln pt) fi se (mSt n o h t s g kn lo lf nm) sv sl ik bf co go fo)) C 0 8 in4_X4_readsOrder rfl (List.mem_of_getElem? (i := 2) rfl) rfl tyX4 tyX4_ok nmX4 rfl (rfl) (rfl) rfl (by decide) (Nat.le_of_ble_eq_true rfl) (rfl) dX4_readsOrder_101 rfl ?_
    refine k_aload_n (q := 105) C 0 dX4_readsOrder_104 rfl rfl ?_
    refine k_aload_n (q := 106) C 0 dX4_readsOrder_105 rfl rfl ?_
    refine k_iconst (q := 107) (v := 0) C dX4_readsOrder_106 (by decide) rfl ?_
    refine k_iconst (q := 108) (v := 5) C dX4_readsOrder_107 (by decide) rfl ?_
    refine k_callVI (n := 2) (q := 111) (pre := ([] : va_W)) (post := ([] : va_W)) (w2 := (wM a cy th sm ln (mNq bf ln 0 5 (pt + 1)) (mNx bf ln pt) fi se (mSt n o h t s g kn lo lf nm) sv sl ik bf co go fo)) (As := [.int 0, .int 5]) (rest := [.ref (a 0)]) C (c_X4_readNumber cy a th sm ln (pt + 1) (mNx bf ln pt) fi se n o h t s g kn lo lf nm sv sl ik bf co go fo 0 5 hb (by omega) hln (by decide) (by decide)) gX4_readsOrder_X4_readNumber rfl rfl rfl (by decide +kernel) (k_room hR (by decide)) ⟨Nat.zero_le _, Nat.zero_le _⟩ (ci := 4) rfl 0 rfl rfl rfl (Nat.le_of_ble_eq_true rfl) ((List.append_nil _).symm) (List.append_nil _) dX4_readsOrder_108 rfl ?_
    refine k_put (q := 114) (ci := 4) (v := .int (mNv bf ln 0 5 (pt + 1))) (w2 := (wM a cy th sm ln (mNq bf ln 0 5 (pt + 1)) (mNx bf ln pt) (mNv bf ln 0 5 (pt + 1)) se (mSt n o h t s g kn lo lf nm) sv sl ik bf co go fo)) C 0 10 in4_X4_readsOrder rfl (List.mem_of_getElem? (i := 3) rfl) rfl tyX4 tyX4_ok nmX4 rfl (rfl) (rfl) rfl (by decide) (Nat.le_of_ble_eq_true rfl) (rfl) dX4_readsOrder_111 rfl ?_
    refine k_aload_n (q := 115) C 0 dX4_readsOrder_114 rfl rfl ?_
    refine k_get (q := 118) (ci := 4) (v := .int (mNv bf ln 0 5 (pt + 1))) C 0 10 in4_X4_readsOrder rfl (List.mem_of_getElem? (i := 3) rfl) rfl rfl (by decide) rfl dX4_readsOrder_115 rfl ?_
    refine k_ldc (q := 120) (v := -99999) C (List.mem_of_getElem? (i := 4) rfl) dX4_readsOrder_118 rfl ?_
    refine k_icmp_eq (tgt := 127) (q := 123) C dX4_readsOrder_120 (by decide) rfl ?_ ?_
    · intro c_120
      refine k_iconst (q := 128) (v := 0) C dX4_readsOrder_127 (by decide) rfl ?_
      exact k_fin E dX4_readsOrder_128 (by rw [mRO, if_neg (by omega), if_neg (by omega), if_pos s_12_120]; first | exact bI_t (by rw [mNv_none (by decide)] at c_120; simpa using c_120) | exact bI_f (by rw [mNv_none (by decide)] at c_120; simpa using c_120)) (by rw [mRO, if_neg (by omega), if_neg (by omega), if_pos s_12_120, s_12_120])
    · intro c_120
      refine k_iconst (q := 124) (v := 1) C dX4_readsOrder_123 (by decide) rfl ?_
      refine k_goto (q := 128) C dX4_readsOrder_124 (by decide) ?_
      exact k_fin E dX4_readsOrder_128 (by rw [mRO, if_neg (by omega), if_neg (by omega), if_pos s_12_120]; first | exact bI_t (by rw [mNv_none (by decide)] at c_120; simpa using c_120) | exact bI_f (by rw [mNv_none (by decide)] at c_120; simpa using c_120)) (by rw [mRO, if_neg (by omega), if_neg (by omega), if_pos s_12_120, s_12_120])
  have n_12_97 : ¬ nI (mNx bf ln pt) = 97 := fun q => s_12_97 ((nI_eq (a := mNx bf ln pt) (b := 97) (by omega) (by decide)).mp q)
  have n_12_98 : ¬ nI (mNx bf ln pt) = 98 := fun q => s_12_98 ((nI_eq (a := mNx bf ln pt) (b := 98) (by omega) (by decide)).mp q)
  have n_12_99 : ¬ nI (mNx bf ln pt) = 99 := fun q => s_12_99 ((nI_eq (a := mNx bf ln pt) (b := 99) (by omega) (by decide)).mp q)
  have n_12_110 : ¬ nI (mNx bf ln pt) = 110 := fun q => s_12_110 ((nI_eq (a := mNx bf ln pt) (b := 110) (by omega) (by decide)).mp q)
  have n_12_120 : ¬ nI (mNx bf ln pt) = 120 := fun q => s_12_120 ((nI_eq (a := mNx bf ln pt) (b := 120) (by omega) (by decide)).mp q)
  refine k_lookup (q := 141) (off := 129) C dX4_readsOrder_12 (by decide +kernel) (by show Op.lookupswitch.offset [(97, 67), (98, 67), (99, 52), (110, 117), (120, 82)] (129) _ = _; rw [lv_osw n_12_97 (a := 97) (by decide +kernel), lv_osw n_12_98 (a := 98) (by decide +kernel), lv_osw n_12_99 (a := 99) (by decide +kernel), lv_osw n_12_110 (a := 110) (by decide +kernel), lv_osw n_12_120 (a := 120) (by decide +kernel)]; rfl) (by decide) ?_
  refine k_iconst (q := 142) (v := 0) C dX4_readsOrder_141 (by decide) rfl ?_
  exact k_fin E dX4_readsOrder_142 (by rw [mRO, if_neg (by omega), if_neg (by omega), if_neg (by omega), if_neg (by omega)]; rfl) (by rw [mRO, if_neg (by omega), if_neg (by omega), if_neg (by omega), if_neg (by omega)])
