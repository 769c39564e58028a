/-! the kind, the head of the loop, the loop -/
set_option maxHeartbeats 4000000 in
set_option maxRecDepth 100000 in
theorem lw_pick {cy : Nat → ClassId} {X : kX} (hR : xR X = room_1) (C : kC X 17 RL cL_law wsL_law cy) {w : va_W} {ce sl : Nat} (hcs : ce ≤ 600130 ∧ sl ≤ 7301080) {sb : Nat} {e : Nat → Nat} {b0 i : Nat} {x y : Int32} {z : Int32} {st0 : List Value} (hst0 : st0 = []) (G : ∀ kk : Nat, kk < 8 → kG X 17 ce sl w 225 [(0, .ref sb), (1, .ref b0), (2, .ref (e 0)), (3, .ref (e 1)), (4, .ref (e 2)), (5, .ref (e 3)), (6, .ref (e 4)), (7, .ref (e 5)), (8, .int (nI i)), (9, .int x), (10, .int y), (11, .int z)] [.int (nI kk)]) : kG X 17 ce sl w 122 [(0, .ref sb), (1, .ref b0), (2, .ref (e 0)), (3, .ref (e 1)), (4, .ref (e 2)), (5, .ref (e 3)), (6, .ref (e 4)), (7, .ref (e 5)), (8, .int (nI i)), (9, .int x), (10, .int y), (11, .int z)] st0 := by
  subst hst0
  have g134 : kG X 17 ce sl w 134 [(0, .ref sb), (1, .ref b0), (2, .ref (e 0)), (3, .ref (e 1)), (4, .ref (e 2)), (5, .ref (e 3)), (6, .ref (e 4)), (7, .ref (e 5)), (8, .int (nI i)), (9, .int x), (10, .int y), (11, .int z)] [] := by
    refine k_iconst (q := 135) (v := nI 0) C dL_law_134 (by decide +kernel) rfl ?_
    refine k_goto (q := 225) C dL_law_135 (by decide) ?_
    exact G 0 (by decide)
  have g138 : kG X 17 ce sl w 138 [(0, .ref sb), (1, .ref b0), (2, .ref (e 0)), (3, .ref (e 1)), (4, .ref (e 2)), (5, .ref (e 3)), (6, .ref (e 4)), (7, .ref (e 5)), (8, .int (nI i)), (9, .int x), (10, .int y), (11, .int z)] [] := by
    refine k_iload (q := 140) C 11 dL_law_138 rfl rfl ?_
    refine k_bipush (q := 142) (v := nI 9) C dL_law_140 (by decide +kernel) rfl ?_
    refine k_icmp_ge (tgt := 149) (q := 145) C dL_law_142 (by decide) rfl (fun _ => ?_) (fun _ => ?_)
    rotate_left
    · skip
      refine k_iconst (q := 146) (v := nI 1) C dL_law_145 (by decide +kernel) rfl ?_
      refine k_goto (q := 225) C dL_law_146 (by decide) ?_
      exact G 1 (by decide)
    refine k_iload (q := 151) C 11 dL_law_149 rfl rfl ?_
    refine k_bipush (q := 153) (v := nI 14) C dL_law_151 (by decide +kernel) rfl ?_
    refine k_icmp_ge (tgt := 160) (q := 156) C dL_law_153 (by decide) rfl (fun _ => ?_) (fun _ => ?_)
    rotate_left
    · skip
      refine k_iconst (q := 157) (v := nI 2) C dL_law_156 (by decide +kernel) rfl ?_
      refine k_goto (q := 225) C dL_law_157 (by decide) ?_
      exact G 2 (by decide)
    refine k_iload (q := 162) C 11 dL_law_160 rfl rfl ?_
    refine k_bipush (q := 164) (v := nI 17) C dL_law_162 (by decide +kernel) rfl ?_
    refine k_icmp_ge (tgt := 171) (q := 167) C dL_law_164 (by decide) rfl (fun _ => ?_) (fun _ => ?_)
    rotate_left
    · skip
      refine k_iconst (q := 168) (v := nI 3) C dL_law_167 (by decide +kernel) rfl ?_
      refine k_goto (q := 225) C dL_law_168 (by decide) ?_
      exact G 3 (by decide)
    refine k_iload (q := 173) C 11 dL_law_171 rfl rfl ?_
    refine k_bipush (q := 175) (v := nI 17) C dL_law_173 (by decide +kernel) rfl ?_
    refine k_icmp_ne (tgt := 182) (q := 178) C dL_law_175 (by decide) rfl (fun _ => ?_) (fun _ => ?_)
    rotate_left
    · skip
      refine k_iconst (q := 179) (v := nI 4) C dL_law_178 (by decide +kernel) rfl ?_
      refine k_goto (q := 225) C dL_law_179 (by decide) ?_
      exact G 4 (by decide)
    refine k_iload (q := 184) C 11 dL_law_182 rfl rfl ?_
    refine k_bipush (q := 186) (v := nI 21) C dL_law_184 (by decide +kernel) rfl ?_
    refine k_icmp_ge (tgt := 193) (q := 189) C dL_law_186 (by decide) rfl (fun _ => ?_) (fun _ => ?_)
    rotate_left
    · skip
      refine k_iconst (q := 190) (v := nI 5) C dL_law_189 (by decide +kernel) rfl ?_
      refine k_goto (q := 225) C dL_law_190 (by decide) ?_
      exact G 5 (by decide)
    refine k_iload (q := 195) C 11 dL_law_193 rfl rfl ?_
    refine k_bipush (q := 197) (v := nI 21) C dL_law_195 (by decide +kernel) rfl ?_
    refine k_icmp_ne (tgt := 205) (q := 200) C dL_law_197 (by decide) rfl (fun _ => ?_) (fun _ => ?_)
    rotate_left
    · skip
      refine k_bipush (q := 202) (v := nI 6) C dL_law_200 (by decide +kernel) rfl ?_
      refine k_goto (q := 225) C dL_law_202 (by decide) ?_
      exact G 6 (by decide)
    refine k_iload (q := 207) C 11 dL_law_205 rfl rfl ?_
    refine k_bipush (q := 209) (v := nI 22) C dL_law_207 (by decide +kernel) rfl ?_
    refine k_icmp_ne (tgt := 224) (q := 212) C dL_law_209 (by decide) rfl (fun _ => ?_) (fun _ => ?_)
    · skip
      refine k_iconst (q := 225) (v := nI 1) C dL_law_224 (by decide +kernel) rfl ?_
      exact G 1 (by decide)
    · skip
      refine k_iload (q := 214) C 8 dL_law_212 rfl rfl ?_
      refine k_iconst (q := 215) (v := nI 3) C dL_law_214 (by decide +kernel) rfl ?_
      refine k_irem (q := 216) C dL_law_215 (by decide +kernel) rfl ?_
      refine k_if_ne (tgt := 224) (q := 219) C dL_law_216 (by decide) rfl (fun _ => ?_) (fun _ => ?_)
      · skip
        refine k_iconst (q := 225) (v := nI 1) C dL_law_224 (by decide +kernel) rfl ?_
        exact G 1 (by decide)
      · skip
        refine k_bipush (q := 221) (v := nI 7) C dL_law_219 (by decide +kernel) rfl ?_
        refine k_goto (q := 225) C dL_law_221 (by decide) ?_
        exact G 7 (by decide)
  refine k_iload (q := 124) C 8 dL_law_122 rfl rfl ?_
  refine k_iconst (q := 125) (v := nI 3) C dL_law_124 (by decide +kernel) rfl ?_
  refine k_icmp_lt (tgt := 134) (q := 128) C dL_law_125 (by decide) rfl (fun _ => ?_) (fun _ => ?_)
  · exact g134
  · skip
    refine k_iload (q := 130) C 11 dL_law_128 rfl rfl ?_
    refine k_iconst (q := 131) (v := nI 4) C dL_law_130 (by decide +kernel) rfl ?_
    refine k_icmp_ge (tgt := 138) (q := 134) C dL_law_131 (by decide) rfl (fun _ => ?_) (fun _ => ?_)
    · exact g138
    · exact g134
set_option maxHeartbeats 4000000 in
set_option maxRecDepth 100000 in
theorem lw_head {cy : Nat → ClassId} {X : kX} (hR : xR X = room_1) (C : kC X 17 RL cL_law wsL_law cy) {w : va_W} {ce sl : Nat} (hcs : ce ≤ 600130 ∧ sl ≤ 7301080) {sb L : Nat} {xs : Nat → Int32} (hX : va_X sb L xs (xS X) (xS X).heap) (hbl : sb < (xS X).heap.size) (hbA : ¬ (xA X) sb) (hL : L ≤ 260) {e a b : Nat → Nat} {r : Nat} {sk : Nat → Nat → Nat} {M : SK} (hI : kInv M) (hU : sUpw (kH M) (kN M)) {i : Nat} (hi : i ≤ 40)
    (Gt : i = 40 → kG X 17 ce sl w 601 [(0, .ref sb), (1, .ref (b 0)), (2, .ref (e 0)), (3, .ref (e 1)), (4, .ref (e 2)), (5, .ref (e 3)), (6, .ref (e 4)), (7, .ref (e 5)), (8, .int (nI i))] [])
    (Gf : i < 40 → ∀ x k9 u v : Int32, stepOk e cy a b r sk M k9 u v → kG X 17 ce sl w 454 [(0, .ref sb), (1, .ref (b 0)), (2, .ref (e 0)), (3, .ref (e 1)), (4, .ref (e 2)), (5, .ref (e 3)), (6, .ref (e 4)), (7, .ref (e 5)), (8, .int (nI i)), (9, .int x), (11, .int k9), (12, .int u), (13, .int v)] []) :
    kG X 17 ce sl w 84 [(0, .ref sb), (1, .ref (b 0)), (2, .ref (e 0)), (3, .ref (e 1)), (4, .ref (e 2)), (5, .ref (e 3)), (6, .ref (e 4)), (7, .ref (e 5)), (8, .int (nI i))] [] := by
  refine k_iload (q := 86) C 8 dL_law_84 rfl rfl ?_
  refine k_bipush (q := 88) (v := nI 40) C dL_law_86 (by decide +kernel) rfl ?_
  refine k_nicmp_ge (a := i) (b := 40) (tgt := 601) (q := 91) C dL_law_88 (by decide) rfl (by omega) (by decide) (fun h => Gt (by omega)) (fun hi2 => ?_)
  refine k_aload_n (q := 92) C 0 dL_law_91 rfl rfl ?_
  refine k_iconst (q := 93) (v := nI 2) C dL_law_92 (by decide) rfl ?_
  refine k_iload (q := 95) C 8 dL_law_93 rfl rfl ?_
  refine k_imul (q := 96) C dL_law_95 rfl ?_
  refine k_sti (pk_mul 2 i) ?_
  refine k_callSs (n := 2) (q := 99) (As := [.ref sb, .int (nI (2 * i))]) (rest := []) C hX hbl hbA (c_L_cell sb L xs (2 * i) (by omega) (by omega)) gL_law_L_cell rfl rfl rfl (by decide +kernel) (k_room hR (by decide)) (k_cs (a := 600130) (b := 7301080) hR rfl rfl hcs) rfl rfl (Nat.le_of_ble_eq_true rfl) dL_law_96 rfl ?_
  generalize lCell xs L (2 * i) = x
  refine k_istore (q := 101) (fr2 := [(9, .int x), (0, .ref sb), (1, .ref (b 0)), (2, .ref (e 0)), (3, .ref (e 1)), (4, .ref (e 2)), (5, .ref (e 3)), (6, .ref (e 4)), (7, .ref (e 5)), (8, .int (nI i))]) C dL_law_99 (by decide) rfl rfl ?_
  refine k_aload_n (q := 102) C 1 dL_law_101 rfl rfl ?_
  refine k_iconst (q := 103) (v := nI 2) C dL_law_102 (by decide) rfl ?_
  refine k_iload (q := 105) C 9 dL_law_103 rfl rfl ?_
  refine k_imul (q := 106) C dL_law_105 rfl ?_
  refine k_sti (pk_mul 2 i) ?_
  refine k_iconst (q := 107) (v := nI 1) C dL_law_106 (by decide) rfl ?_
  refine k_iadd (q := 108) C dL_law_107 rfl ?_
  refine k_sti (nI_add (2 * i) 1) ?_
  refine k_callSs (n := 2) (q := 111) (As := [.ref sb, .int (nI (2 * i + 1))]) (rest := []) C hX hbl hbA (c_L_cell sb L xs (2 * i + 1) (by omega) (by omega)) gL_law_L_cell rfl rfl rfl (by decide +kernel) (k_room hR (by decide)) (k_cs (a := 600130) (b := 7301080) hR rfl rfl hcs) rfl rfl (Nat.le_of_ble_eq_true rfl) dL_law_108 rfl ?_
  generalize lCell xs L (2 * i + 1) = y
  refine k_istore (q := 113) (fr2 := [(10, .int y), (9, .int x), (0, .ref sb), (1, .ref (b 0)), (2, .ref (e 0)), (3, .ref (e 1)), (4, .ref (e 2)), (5, .ref (e 3)), (6, .ref (e 4)), (7, .ref (e 5)), (8, .int (nI i))]) C dL_law_111 (by decide) rfl rfl ?_
  refine k_iload (q := 115) C 1 dL_law_113 rfl rfl ?_
  refine k_bipush (q := 117) (v := nI 24) C dL_law_115 (by decide +kernel) rfl ?_
  refine lw_low hR C (q := 120) hcs 24 rfl (by decide) (by decide) (Nat.le_of_ble_eq_true rfl) dL_law_117 rfl ?_
  refine k_istore (q := 122) (fr2 := [(11, .int (nI (lowN x 24))), (10, .int y), (9, .int x), (0, .ref sb), (1, .ref (b 0)), (2, .ref (e 0)), (3, .ref (e 1)), (4, .ref (e 2)), (5, .ref (e 3)), (6, .ref (e 4)), (7, .ref (e 5)), (8, .int (nI i))]) C dL_law_120 (by decide) rfl rfl ?_
  refine k_fr (fr2 := [(0, .ref sb), (1, .ref (b 0)), (2, .ref (e 0)), (3, .ref (e 1)), (4, .ref (e 2)), (5, .ref (e 3)), (6, .ref (e 4)), (7, .ref (e 5)), (8, .int (nI i)), (9, .int x), (10, .int y), (11, .int (nI (lowN x 24)))]) ⟨[3, 4, 5, 6, 7, 8, 9, 10, 11, 2, 1, 0], rfl⟩ ?_
  refine lw_pick hR C hcs rfl (fun kk hk => ?_)
  refine k_istore (q := 227) (fr2 := [(11, .int (nI kk)), (0, .ref sb), (1, .ref (b 0)), (2, .ref (e 0)), (3, .ref (e 1)), (4, .ref (e 2)), (5, .ref (e 3)), (6, .ref (e 4)), (7, .ref (e 5)), (8, .int (nI i)), (9, .int x), (10, .int y)]) C dL_law_225 (by decide) rfl rfl ?_
  exact lw_kd (a := a) (b := b) (r := r) (sk := sk) (M := M) hR C hcs hI hU (fun k9 u v hS => Gf hi2 x k9 u v hS) hk
set_option maxHeartbeats 4000000 in
set_option maxRecDepth 100000 in
theorem lw_loop (cy : Nat → ClassId) (e a b : Nat → Nat) (r : Nat) (sk : Nat → Nat → Nat) (X : kX) (hR : xR X = room_1) (C : kC X 17 RL cL_law wsL_law cy) (Z : kZ (xA X) (xS X) (xS X).heap) (hst : (xL X).stackTraces = false) (s0 : State) (d0 : Drawn) (hs : xS X = s0.setDrawn d0) (sb L : Nat) (xs : Nat → Int32) (hX : va_X sb L xs (xS X) (xS X).heap) (hbl : sb < (xS X).heap.size) (hbA : ¬ (xA X) sb) (hL : L ≤ 260)
    (Fin : ∀ (d : Drawn) (ce sl : Nat) (w : va_W) (fr : List (Nat × Value)), s0.drawn.sameBut d lw_cs → ce ≤ 600130 → sl ≤ 7301080 → kG (kXs X (s0.setDrawn d)) 17 ce sl w 601 fr []) :
    ∀ (m i ce sl : Nat), i + m = 40 → ce + 66 * m ≤ 600130 → sl + 396 * m ≤ 7301080 → ∀ d, s0.drawn.sameBut d lw_cs → lwE (kXs X (s0.setDrawn d)) cy e a b r sk sb i ce sl := by
  rw [hs] at hX hbl Z
  have hA : xA X sb → False := hbA
  intro m
  induction m with
  | zero =>
    intro i ce sl h1 h2 h3 d hd nx sn ln S ik bf kd hg nu dg ng tk K M bM rM hnx hsn hK hU
    have C1 : kC (kXs X (s0.setDrawn d)) 17 RL cL_law wsL_law cy := kC_d (d := d) C hs
    have hX1 : va_X sb L xs (xS (kXs X (s0.setDrawn d))) (xS (kXs X (s0.setDrawn d))).heap := hX
    have hbl1 : sb < (xS (kXs X (s0.setDrawn d))).heap.size := hbl
    exact lw_head (a := a) (b := b) (r := r) (sk := sk) (e := e) (show xR (kXs X (s0.setDrawn d)) = room_1 from hR) C1 ⟨by omega, by omega⟩ hX1 hbl1 hA hL hK.1 hU (by omega) (fun _ => Fin d ce sl _ _ hd (by omega) (by omega)) (fun hi => absurd hi (by omega))
  | succ m ih =>
    intro i ce sl h1 h2 h3 d hd nx sn ln S ik bf kd hg nu dg ng tk K M bM rM hnx hsn hK hU
    have C1 : kC (kXs X (s0.setDrawn d)) 17 RL cL_law wsL_law cy := kC_d (d := d) C hs
    have hX1 : va_X sb L xs (xS (kXs X (s0.setDrawn d))) (xS (kXs X (s0.setDrawn d))).heap := hX
    have hbl1 : sb < (xS (kXs X (s0.setDrawn d))).heap.size := hbl
    have Z1 : kZ (xA X) (s0.setDrawn d0) (s0.setDrawn d0).heap := Z
    refine lw_head (a := a) (b := b) (r := r) (sk := sk) (e := e) (show xR (kXs X (s0.setDrawn d)) = room_1 from hR) C1 ⟨by omega, by omega⟩ hX1 hbl1 hA hL hK.1 hU (by omega) (fun q => absurd q (by omega)) (fun hi x k9 u v hS => ?_)
    exact lw_step cy e a b r sk (kXs X (s0.setDrawn d)) (show xR (kXs X (s0.setDrawn d)) = room_1 from hR) C1 (kZ_d (s := s0) (d0 := d0) (d := d) Z1) hst s0 d rfl hd sb i hi x k9 u v ln ik bf kd hg nu dg ng tk M bM rM ce sl (ce + 66) (sl + 396) nx sn S K hnx hsn hK hU hS ⟨Nat.le_refl _, Nat.le_refl _, by omega, by omega⟩ (fun d' hd' => ih (i + 1) (ce + 66) (sl + 396) (by omega) (by omega) (by omega) d' hd')
