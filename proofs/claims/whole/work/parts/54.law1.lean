/-- the loop goes on with any later state in the relation -/
def lwE (X : kX) (cy : Nat → ClassId) (a b : Nat → Nat) (r : Nat) (sk : Nat → Nat → Nat) (ob : Nat) (aM : Nat → Nat) (sb i ce sl : Nat) : Prop := ∀ (nx : Nat) (sn : Nat) (ln : Nat) (S : Nat → CK) (ik : Nat → Int32) (bf : Nat → Nat) (kd : Nat) (hg : Nat) (nu : Nat) (dg : Nat) (ng : Bool) (tk : Bool) (K : CK) (ou : Nat → Int64) (thM : Int32) (smM : Nat) (lnM : Nat) (ptM : Nat) (sgM : Nat) (fiM : Int32) (seM : Int32) (M : SK) (svM : Nat → Int32) (slM : Nat → Int32) (ikM : Nat → Int32) (bfM : Nat → Nat) (coM : Nat → Int32) (goM : Nat → Int32) (foM : Nat → Int32), gR nx sn ln ik bf K S smM lnM M svM slM ikM bfM → kG X 9 (ce + 1) (sl + 6) (([(ob, .inl (cy 4, 1, .inr (.inl ou)))] ++ ((wXo b cy (a 0) r nx sn ln (svOf sk) (kpOf sk) ik bf ++ wRd r kd hg nu dg ng tk) ++ (wSky a cy (qN K) (qLit K) (qH K) (qT K) (qS K) (qG K) (qK K) (qLo K) (qLf K) (qNm K) ++ wOth sk cy S))) ++ (wM aM cy thM smM lnM ptM sgM fiM seM (mSt (kN M) (kO M) (kH M) (kT2 M) (kS M) (kGs M) (kK M) (kLo M) (kLf M) (kNm M)) svM slM ikM bfM coM goM foM)) 1415 [(4, .int (nI i)), (3, .ref ob), (2, .ref (aM 0)), (1, .ref (b 0)), (0, .ref sb)] []
set_option maxHeartbeats 4000000 in
set_option maxRecDepth 100000 in
theorem lw_layer (cy : Nat → ClassId) (a : Nat → Nat) (b : Nat → Nat) (r : Nat) (nx : Nat) (sn : Nat) (ln : Nat) (sk : Nat → Nat → Nat) (S : Nat → CK) (ik : Nat → Int32) (bf : Nat → Nat) (kd : Nat) (hg : Nat) (nu : Nat) (dg : Nat) (ng : Bool) (tk : Bool) (n : Nat) (lit : Int32) (h : Nat → Int32) (t : Nat → Int32) (s : Nat → Int32) (g : Nat → Int32) (kn : Nat) (lo : Int32) (lf : Int32) (nm : Nat → Int32) (ob : Nat) (ou : Nat → Int64) (aM : Nat → Nat) (thM : Int32) (smM : Nat) (lnM : Nat) (ptM : Nat) (sgM : Nat) (fiM : Int32) (seM : Int32) (nM : Nat) (oM : Nat → Int32) (hM : Nat → Int32) (tM : Nat → Int32) (sM : Nat → Int32) (gM : Nat → Int32) (knM : Nat) (loM : Int32) (lfM : Int32) (nmM : Nat → Int32) (svM : Nat → Int32) (slM : Nat → Int32) (ikM : Nat → Int32) (bfM : Nat → Nat) (coM : Nat → Int32) (goM : Nat → Int32) (foM : Nat → Int32) (X : kX) (hR : xR X = room_1) (C : kC X 9 RL cL_law wsL_law cy) (Z : kZ (xA X) (xS X) (xS X).heap) (hst : (xL X).stackTraces = false) (sb i L ce sl : Nat) (xs : Nat → Int32) (hX : va_X sb L xs (xS X) (xS X).heap) (hbl : sb < (xS X).heap.size) (hbA : ¬ (xA X) sb) (hL : L ≤ 2048) (hi : i + 4 ≤ L) (hce : ce + 1 ≤ 620303 ∧ sl + 6 ≤ 7235195) (E : lwE X cy a b r sk ob aM sb i ce sl) (hgR : gR nx sn ln ik bf ((n, lit, h, t, s, g, kn, lo, lf, nm) : CK) S smM lnM ((nM, oM, hM, tM, sM, gM, knM, loM, lfM, nmM) : SK) svM slM ikM bfM) (hw : mWhy nM hM (xs (i + 1)) (xs (i + 2)) = 0) : kG X 9 ce sl (([(ob, .inl (cy 4, 1, .inr (.inl ou)))] ++ ((wXo b cy (a 0) r nx sn ln (svOf sk) (kpOf sk) ik bf ++ wRd r kd hg nu dg ng tk) ++ (wSky a cy n lit h t s g kn lo lf nm ++ wOth sk cy S))) ++ (wM aM cy thM smM lnM ptM sgM fiM seM (mSt nM oM hM tM sM gM knM loM lfM nmM) svM slM ikM bfM coM goM foM)) 148 [(4, .int (nI i)), (3, .ref ob), (2, .ref (aM 0)), (1, .ref (b 0)), (0, .ref sb)] [] := by
  obtain ⟨hr, hsn, hri, hke, hln, hl60, hbf, hb126⟩ := id hgR
  have hnx := hri.2.1
  have hsm := hri.1
  have hn := hr.1.1
  have en : n = nM := hr.2.1
  have hH := hr.2.2.2.1
  obtain ⟨hq4, hqa, hqb, hqc⟩ := mWhy_6 hr.1.1 hw
  have hq : (50 ≤ xs (i + 1) ∧ xs (i + 1) ≤ 3000) ∧ (1 ≤ xs (i + 2) ∧ xs (i + 2) ≤ 100) ∧ sAny h (xs (i + 1)) n = false := ⟨hqb, hqc, by rw [en]; exact (cg_Any hH).trans hqa⟩
  have hq3 : n < 6 := by rw [en]; exact hq4
  have hq5 : nI (sPos hM (xs (i + 1)) nM) = nI (sPos h (xs (i + 1)) n) := by rw [en]; exact congrArg nI (cg_Pos hH).symm
  refine k_aload_n (q := 149) C 3 dL_law_148 rfl rfl ?_
  refine k_aload_n (q := 150) C 4 dL_law_149 rfl rfl ?_
  refine k_iload (q := 152) C 0 dL_law_150 rfl rfl ?_
  refine k_iconst (q := 153) (v := 1) C dL_law_152 (by decide) rfl ?_
  refine k_iadd (q := 154) C dL_law_153 rfl ?_
  refine k_st (st2 := (.int (nI (i + 1)) :: _)) (congrArg (fun z => Value.int z :: _) (show (nI i) + 1 = nI (i + 1) from nI_add i 1)) ?_
  refine k_sld (q := 155) C hX hbl hbA (vp_in_nI (n := i + 1) (by omega) (by omega)) dL_law_154 rfl ?_
  refine k_st (st2 := (.int (xs (i + 1)) :: _)) (congrArg (fun z => Value.int z :: _) (show xs (nI (i + 1)).toNatClampNeg = xs (i + 1) from congrArg xs (nI_clamp (n := i + 1) (by omega)))) ?_
  refine k_aload_n (q := 156) C 4 dL_law_155 rfl rfl ?_
  refine k_iload (q := 158) C 0 dL_law_156 rfl rfl ?_
  refine k_iconst (q := 159) (v := 2) C dL_law_158 (by decide) rfl ?_
  refine k_iadd (q := 160) C dL_law_159 rfl ?_
  refine k_st (st2 := (.int (nI (i + 2)) :: _)) (congrArg (fun z => Value.int z :: _) (show (nI i) + 2 = nI (i + 2) from nI_add i 2)) ?_
  refine k_sld (q := 161) C hX hbl hbA (vp_in_nI (n := i + 2) (by omega) (by omega)) dL_law_160 rfl ?_
  refine k_st (st2 := (.int (xs (i + 2)) :: _)) (congrArg (fun z => Value.int z :: _) (show xs (nI (i + 2)).toNatClampNeg = xs (i + 2) from congrArg xs (nI_clamp (n := i + 2) (by omega)))) ?_
  refine k_aload_n (q := 162) C 1 dL_law_161 rfl rfl ?_
  refine k_callSL (n := 4) (q := 165) (pre := ([] : va_W)) (post := (wM aM cy thM smM lnM ptM sgM fiM seM (mSt nM oM hM tM sM gM knM loM lfM nmM) svM slM ikM bfM coM goM foM)) (w2 := (([(ob, .inl (cy 4, 1, .inr (.inl (vp_updL ou 0 (nI (sPos h (xs (i + 1)) n)).toInt64))))] ++ ((wXo b cy (a 0) r ((nx + 1) % 6) (min (sn + 1) 6) ln (svOf sk) (kpOf sk) ik bf ++ wRd r kd hg nu dg ng tk) ++ (wSky a cy (n + 1) lit (sIns h n (sPos h (xs (i + 1)) n) (xs (i + 1))) (sIns t n (sPos h (xs (i + 1)) n) (xs (i + 2))) s g kn lo lf nm ++ wOth sk cy (updS S nx (cLike (n, lit, h, t, s, g, kn, lo, lf, nm) (S nx)))))) ++ (wM aM cy thM smM lnM ptM sgM fiM seM (mSt nM oM hM tM sM gM knM loM lfM nmM) svM slM ikM bfM coM goM foM))) (As := [.ref (b 0), .int (xs (i + 1)), .int (xs (i + 2)), .ref ob]) (rest := []) C Z hst (c_L_layer cy a b r nx sn ln sk S ik bf kd hg nu dg ng tk n lit h t s g kn lo lf nm ob ou (xs (i + 1)) (xs (i + 2)) hnx (by omega) hq.1 hq.2.1 hq.2.2 hq3) gL_law_L_layer rfl rfl rfl (by decide +kernel) (k_room hR (by decide)) (k_le hR (by omega)) rfl rfl (Nat.le_of_ble_eq_true rfl) (rfl) (rfl) dL_law_162 rfl ?_
  refine k_istore (q := 167) (fr2 := [(5, .int 0), (4, .int (nI i)), (3, .ref ob), (2, .ref (aM 0)), (1, .ref (b 0)), (0, .ref sb)]) C dL_law_165 (by decide) rfl rfl ?_
  refine k_aload_n (q := 168) C 3 dL_law_167 rfl rfl ?_
  refine k_aload_n (q := 169) C 5 dL_law_168 rfl rfl ?_
  refine k_iload (q := 171) C 1 dL_law_169 rfl rfl ?_
  refine k_iconst (q := 172) (v := 1) C dL_law_171 (by decide) rfl ?_
  refine k_iadd (q := 173) C dL_law_172 rfl ?_
  refine k_st (st2 := (.int (nI (i + 1)) :: _)) (congrArg (fun z => Value.int z :: _) (show (nI i) + 1 = nI (i + 1) from nI_add i 1)) ?_
  refine k_sld (q := 174) C hX hbl hbA (vp_in_nI (n := i + 1) (by omega) (by omega)) dL_law_173 rfl ?_
  refine k_st (st2 := (.int (xs (i + 1)) :: _)) (congrArg (fun z => Value.int z :: _) (show xs (nI (i + 1)).toNatClampNeg = xs (i + 1) from congrArg xs (nI_clamp (n := i + 1) (by omega)))) ?_
  refine k_aload_n (q := 175) C 5 dL_law_174 rfl rfl ?_
  refine k_iload (q := 177) C 1 dL_law_175 rfl rfl ?_
  refine k_iconst (q := 178) (v := 2) C dL_law_177 (by decide) rfl ?_
  refine k_iadd (q := 179) C dL_law_178 rfl ?_
  refine k_st (st2 := (.int (nI (i + 2)) :: _)) (congrArg (fun z => Value.int z :: _) (show (nI i) + 2 = nI (i + 2) from nI_add i 2)) ?_
  refine k_sld (q := 180) C hX hbl hbA (vp_in_nI (n := i + 2) (by omega) (by omega)) dL_law_179 rfl ?_
  refine k_st (st2 := (.int (xs (i + 2)) :: _)) (congrArg (fun z => Value.int z :: _) (show xs (nI (i + 2)).toNatClampNeg = xs (i + 2) from congrArg xs (nI_clamp (n := i + 2) (by omega)))) ?_
  refine k_callVI (n := 2) (q := 183) (pre := ([(ob, .inl (cy 4, 1, .inr (.inl (vp_updL ou 0 (nI (sPos h (xs (i + 1)) n)).toInt64))))] ++ ((wXo b cy (a 0) r ((nx + 1) % 6) (min (sn + 1) 6) ln (svOf sk) (kpOf sk) ik bf ++ wRd r kd hg nu dg ng tk) ++ (wSky a cy (n + 1) lit (sIns h n (sPos h (xs (i + 1)) n) (xs (i + 1))) (sIns t n (sPos h (xs (i + 1)) n) (xs (i + 2))) s g kn lo lf nm ++ wOth sk cy (updS S nx (cLike (n, lit, h, t, s, g, kn, lo, lf, nm) (S nx))))))) (post := ([] : va_W)) (w2 := (([(ob, .inl (cy 4, 1, .inr (.inl (vp_updL ou 0 (nI (sPos h (xs (i + 1)) n)).toInt64))))] ++ ((wXo b cy (a 0) r ((nx + 1) % 6) (min (sn + 1) 6) ln (svOf sk) (kpOf sk) ik bf ++ wRd r kd hg nu dg ng tk) ++ (wSky a cy (n + 1) lit (sIns h n (sPos h (xs (i + 1)) n) (xs (i + 1))) (sIns t n (sPos h (xs (i + 1)) n) (xs (i + 2))) s g kn lo lf nm ++ wOth sk cy (updS S nx (cLike (n, lit, h, t, s, g, kn, lo, lf, nm) (S nx)))))) ++ (wM aM cy 0 (min (smM + 1) 6) lnM ptM sgM fiM seM (mSt (nM + 1) oM (sIns hM nM (sPos hM (xs (i + 1)) nM) (xs (i + 1))) (sIns tM nM (sPos hM (xs (i + 1)) nM) (xs (i + 2))) sM gM knM loM lfM nmM) (mSave svM (mSt nM oM hM tM sM gM knM loM lfM nmM) smM) slM ikM bfM coM goM foM))) (As := [.int (xs (i + 1)), .int (xs (i + 2))]) (rest := []) C (c_X4_layer cy aM thM smM lnM ptM sgM fiM seM nM oM hM tM sM gM knM loM lfM nmM svM slM ikM bfM coM goM foM (xs (i + 1)) (xs (i + 2)) hq4 hw hsm) gL_law_X4_layer rfl rfl rfl (by decide +kernel) (k_room hR (by decide)) (k_le hR (by omega)) (ci := 4) rfl 0 rfl rfl rfl (Nat.le_of_ble_eq_true rfl) (k_pre) (k_pre.symm) dL_law_180 rfl ?_
  refine k_st (st2 := (.int (nI (sPos h (xs (i + 1)) n)) :: _)) (congrArg (fun z => Value.int z :: _) (show nI (sPos hM (xs (i + 1)) nM) = nI (sPos h (xs (i + 1)) n) from hq5)) ?_
  refine k_istore (q := 185) (fr2 := [(6, .int (nI (sPos h (xs (i + 1)) n))), (5, .int 0), (4, .int (nI i)), (3, .ref ob), (2, .ref (aM 0)), (1, .ref (b 0)), (0, .ref sb)]) C dL_law_183 (by decide) rfl rfl ?_
  refine k_aload_n (q := 186) C 4 dL_law_185 rfl rfl ?_
  refine k_callVI (n := 0) (q := 189) (pre := ([(ob, .inl (cy 4, 1, .inr (.inl (vp_updL ou 0 (nI (sPos h (xs (i + 1)) n)).toInt64))))] ++ ((wXo b cy (a 0) r ((nx + 1) % 6) (min (sn + 1) 6) ln (svOf sk) (kpOf sk) ik bf ++ wRd r kd hg nu dg ng tk) ++ (wSky a cy (n + 1) lit (sIns h n (sPos h (xs (i + 1)) n) (xs (i + 1))) (sIns t n (sPos h (xs (i + 1)) n) (xs (i + 2))) s g kn lo lf nm ++ wOth sk cy (updS S nx (cLike (n, lit, h, t, s, g, kn, lo, lf, nm) (S nx))))))) (post := ([] : va_W)) (w2 := (([(ob, .inl (cy 4, 1, .inr (.inl (vp_updL ou 0 (nI (sPos h (xs (i + 1)) n)).toInt64))))] ++ ((wXo b cy (a 0) r ((nx + 1) % 6) (min (sn + 1) 6) ln (svOf sk) (kpOf sk) ik bf ++ wRd r kd hg nu dg ng tk) ++ (wSky a cy (n + 1) lit (sIns h n (sPos h (xs (i + 1)) n) (xs (i + 1))) (sIns t n (sPos h (xs (i + 1)) n) (xs (i + 2))) s g kn lo lf nm ++ wOth sk cy (updS S nx (cLike (n, lit, h, t, s, g, kn, lo, lf, nm) (S nx)))))) ++ (wM aM cy 0 (min (smM + 1) 6) lnM ptM sgM fiM seM (mSt (nM + 1) oM (sIns hM nM (sPos hM (xs (i + 1)) nM) (xs (i + 1))) (sIns tM nM (sPos hM (xs (i + 1)) nM) (xs (i + 2))) sM gM knM loM lfM nmM) (mSave svM (mSt nM oM hM tM sM gM knM loM lfM nmM) smM) slM ikM bfM coM goM foM))) (As := []) (rest := []) C (c_X4_thrown cy aM 0 (min (smM + 1) 6) lnM ptM sgM fiM seM (nM + 1) oM (sIns hM nM (sPos hM (xs (i + 1)) nM) (xs (i + 1))) (sIns tM nM (sPos hM (xs (i + 1)) nM) (xs (i + 2))) sM gM knM loM lfM nmM (mSave svM (mSt nM oM hM tM sM gM knM loM lfM nmM) smM) slM ikM bfM coM goM foM) gL_law_X4_thrown rfl rfl rfl (by decide +kernel) (k_room hR (by decide)) (k_le hR (by omega)) (ci := 4) rfl 0 rfl rfl rfl (Nat.le_of_ble_eq_true rfl) (k_pre) (k_pre.symm) dL_law_186 rfl ?_
  refine k_iload (q := 191) C 1 dL_law_189 rfl rfl ?_
  refine k_icmp_eq (tgt := 196) (q := 194) C dL_law_191 (by decide) rfl ?_ ?_
  · intro c_191
    refine k_iload (q := 198) C 1 dL_law_196 rfl rfl ?_
    refine k_if_ne (tgt := 213) (q := 201) C dL_law_198 (by decide) rfl ?_ ?_
    · exact fun c_198 => absurd c_198 (by decide)
    · intro c_198
      refine k_aload_n (q := 202) C 3 dL_law_201 rfl rfl ?_
      refine k_iconst (q := 203) (v := 0) C dL_law_202 (by decide) rfl ?_
      refine k_lald (q := 204) C 0 rfl (vp_in_nI (n := 0) (by decide) (by decide)) dL_law_203 rfl ?_
      refine k_st (st2 := (.long ((nI (sPos h (xs (i + 1)) n)).toInt64) :: _)) (congrArg (fun z => Value.long z :: _) (show (vp_updL ou 0 (nI (sPos h (xs (i + 1)) n)).toInt64) ((0 : Int32).toNatClampNeg) = (nI (sPos h (xs (i + 1)) n)).toInt64 from if_pos rfl)) ?_
      refine k_iload (q := 206) C 0 dL_law_204 rfl rfl ?_
      refine k_i2l (q := 207) C dL_law_206 rfl ?_
      refine k_lcmp (q := 208) C dL_law_207 rfl ?_
      refine k_st (st2 := (.int 0 :: _)) (congrArg (fun z => Value.int z :: _) (show lg_cmp ((nI (sPos h (xs (i + 1)) n)).toInt64) ((nI (sPos h (xs (i + 1)) n)).toInt64) = 0 from lcmp_0 _)) ?_
      refine k_if_eq (tgt := 213) (q := 211) C dL_law_208 (by decide) rfl ?_ ?_
      · intro c_208
        refine k_goto (q := 1415) C dL_law_213 (by decide) ?_
        refine k_fr (fr2 := [(4, .int (nI i)), (3, .ref ob), (2, .ref (aM 0)), (1, .ref (b 0)), (0, .ref sb)]) ⟨[2, 3, 4, 5, 6], rfl⟩ ?_
        exact E ((nx + 1) % 6) (min (sn + 1) 6) ln (updS S nx (cLike (n, lit, h, t, s, g, kn, lo, lf, nm) (S nx))) ik bf kd hg nu dg ng tk ((n + 1, lit, sIns h n (sPos h (xs (i + 1)) n) (xs (i + 1)), sIns t n (sPos h (xs (i + 1)) n) (xs (i + 2)), s, g, kn, lo, lf, nm) : CK) (vp_updL ou 0 (nI (sPos h (xs (i + 1)) n)).toInt64) 0 (min (smM + 1) 6) lnM ptM sgM fiM seM ((nM + 1, oM, sIns hM nM (sPos hM (xs (i + 1)) nM) (xs (i + 1)), sIns tM nM (sPos hM (xs (i + 1)) nM) (xs (i + 2)), sM, gM, knM, loM, lfM, nmM) : SK) (mSave svM (mSt nM oM hM tM sM gM knM loM lfM nmM) smM) slM ikM bfM coM goM foM (⟨r_add hr hw, by omega, ring_save hri hr, kept_save hke hnx, hln, hl60, hbf, hb126⟩)
      · exact fun c_208 => absurd c_208 (by decide)
  · exact fun c_191 => absurd c_191 (by decide)
