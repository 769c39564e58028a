/-- the loop goes on with any later state in the relation -/
def lwE (X : kX) (cy : Nat → ClassId) (a b : Nat → Nat) (r : Nat) (sk : Nat → Nat → Nat) (ob : Nat) (aM : Nat → Nat) (sb i ce sl : Nat) : Prop := ∀ (nx : Nat) (sn : Nat) (ln : Nat) (S : Nat → CK) (ik : Nat → Int32) (bf : Nat → Nat) (kd : Nat) (hg : Nat) (nu : Nat) (dg : Nat) (ng : Bool) (tk : Bool) (K : CK) (ou : Nat → Int64) (thM : Int32) (smM : Nat) (lnM : Nat) (ptM : Nat) (sgM : Nat) (fiM : Int32) (seM : Int32) (M : SK) (svM : Nat → Int32) (slM : Nat → Int32) (ikM : Nat → Int32) (bfM : Nat → Nat) (coM : Nat → Int32) (goM : Nat → Int32) (foM : Nat → Int32), gR nx sn ln ik bf K S smM lnM M svM slM ikM bfM → kG X 9 (ce + 1) (sl + 6) (([(ob, .inl (cy 4, 1, .inr (.inl ou)))] ++ ((wXo b cy (a 0) r nx sn ln (svOf sk) (kpOf sk) ik bf ++ wRd r kd hg nu dg ng tk) ++ (wSky a cy (qN K) (qLit K) (qH K) (qT K) (qS K) (qG K) (qK K) (qLo K) (qLf K) (qNm K) ++ wOth sk cy S))) ++ (wM aM cy thM smM lnM ptM sgM fiM seM (mSt (kN M) (kO M) (kH M) (kT2 M) (kS M) (kGs M) (kK M) (kLo M) (kLf M) (kNm M)) svM slM ikM bfM coM goM foM)) 1415 [(4, .int (nI i)), (3, .ref ob), (2, .ref (aM 0)), (1, .ref (b 0)), (0, .ref sb)] []
set_option maxHeartbeats 4000000 in
set_option maxRecDepth 100000 in
theorem lw_layer (cy : Nat → ClassId) (a : Nat → Nat) (b : Nat → Nat) (r : Nat) (nx : Nat) (sn : Nat) (ln : Nat) (sk : Nat → Nat → Nat) (S : Nat → CK) (ik : Nat → Int32) (bf : Nat → Nat) (kd : Nat) (hg : Nat) (nu : Nat) (dg : Nat) (ng : Bool) (tk : Bool) (n : Nat) (lit : Int32) (h : Nat → Int32) (t : Nat → Int32) (s : Nat → Int32) (g : Nat → Int32) (kn : Nat) (lo : Int32) (lf : Int32) (nm : Nat → Int32) (ob : Nat) (ou : Nat → Int64) (aM : Nat → Nat) (thM : Int32) (smM : Nat) (lnM : Nat) (ptM : Nat) (sgM : Nat) (fiM : Int32) (seM : Int32) (nM : Nat) (oM : Nat → Int32) (hM : Nat → Int32) (tM : Nat → Int32) (sM : Nat → Int32) (gM : Nat → Int32) (knM : Nat) (loM : Int32) (lfM : Int32) (nmM : Nat → Int32) (svM : Nat → Int32) (slM : Nat → Int32) (ikM : Nat → Int32) (bfM : Nat → Nat) (coM : Nat → Int32) (goM : Nat → Int32) (foM : Nat → Int32) (X : kX) (hR : xR X = room_1) (C : kC X 9 RL cL_law wsL_law cy) (Z : kZ (xA X) (xS X) (xS X).heap) (hst : (xL X).stackTraces = false) (sb i L ce sl : Nat) (xs : Nat → Int32) (hX : va_X sb L xs (xS X) (xS X).heap) (hbl : sb < (xS X).heap.size) (hbA : ¬ (xA X) sb) (hL : L ≤ 2048) (hi : i + 4 ≤ L) (hce : ce + 1 ≤ 620303 ∧ sl + 6 ≤ 7235195) (E : lwE X cy a b r sk ob aM sb i ce sl) (hgR : gR nx sn ln ik bf ((n, lit, h, t, s, g, kn, lo, lf, nm) : CK) S smM lnM ((nM, oM, hM, tM, sM, gM, knM, loM, lfM, nmM) : SK) svM slM ikM bfM) (hw : mWhy nM hM (xs (i + 1)) (xs (i + 2)) = 0) : kG X 9 ce sl (([(ob, .inl (cy 4, 1, .inr (.inl ou)))] ++ ((wXo b cy (a 0) r nx sn ln (svOf sk) (kpOf sk) ik bf ++ wRd r kd hg nu dg ng tk) ++ (wSky a cy n lit h t s g kn lo lf nm ++ wOth sk cy S))) ++ (wM aM cy thM smM lnM ptM sgM fiM seM (mSt nM oM hM tM sM gM knM loM lfM nmM) svM slM ikM bfM coM goM foM)) 148 [(4, .int (nI i)), (3, .ref ob), (2, .ref (aM 0)), (1, .ref (b 0)), (0, .ref sb)] [] := by
  obtain ⟨hr, hsn, hri, hke, hln, hl60, hbf, hb126⟩ := id hgR
  have hnx := hri.2.1
  have hsm := hri.1
  have hn := hr.1.1
  have en : n = nM := hr.2.1
  have el : lit = mLit oM := hr.2.2.1
  have hH := hr.2.2.2.1
  have hT := hr.2.2.2.2.1
  have hS := hr.2.2.2.2.2.1
  have hG := hr.2.2.2.2.2.2.1
  have ekn : kn = knM := hr.2.2.2.2.2.2.2.1
  have ho := hr.1.2.1
  have hs0 := hr.1.2.2.1
  have hs1 := hr.1.2.2.2.1
  have hk8 := hr.1.2.2.2.2.1
  have hn6 : n ≤ 6 := by rw [en]; exact hn
  have hkn8 : kn ≤ 8 := by rw [ekn]; exact hk8
  have hsn6 : sn ≤ 6 := by omega
  obtain ⟨hq4, hqa, hqb, hqc⟩ := mWhy_6 hr.1.1 hw
  have hq : (50 ≤ xs (i + 1) ∧ xs (i + 1) ≤ 3000) ∧ (1 ≤ xs (i + 2) ∧ xs (i + 2) ≤ 100) ∧ sAny h (xs (i + 1)) n = false := ⟨hqb, hqc, by rw [en]; exact (cg_Any hH).trans hqa⟩
  have hq3 : n < 6 := by rw [en]; exact hq4
  have hq5 : nI (sPos hM (xs (i + 1)) nM) = nI (sPos h (xs (i + 1)) n) := by rw [en]; exact congrArg nI (cg_Pos hH).symm
  refine k_aload_n (q := 149) C 3 dL_law_148 rfl rfl ?_
  refine k_aload_n (q := 150) C 4 dL_law_149 rfl rfl ?_
  refine k_iload (q := 152) C 0 dL_law_150 rfl rfl ?_
  refine k_iconst (q := 153) (v := 1) C dL_law_152 (by decide) rfl ?_
  refine k_iadd (q := 154) C dL_law_153 rfl ?_
  refine k_st (st2 := (.int (nI (i + 1)) :: _)) (congrArg (fun z => Value.int z :: _) (show (nI i) + 1 = nI (i + 1) from nI_add i 1)) ?_
  refine k_sld (q := 155) C hX hbl hbA (vp_in_nI (n := i + 1) (by omega) (by omega)) dL_law_154 rfl ?_
  refine k_st (st2 := (.int (xs (i + 1)) :: _)) (congrArg (fun z => Value.int z :: _) (show xs (nI (i + 1)).toNatClampNeg = xs (i + 1) from congrArg xs (nI_clamp (n := i + 1) (by omega)))) ?_
  refine k_aload_n (q := 156) C 4 dL_law_155 rfl rfl ?_
  refine k_iload (q := 158) C 0 dL_law_156 rfl rfl ?_
  refine k_iconst (q := 159) (v := 2) C dL_law_158 (by decide) rfl ?_
  refine k_iadd (q := 160) C dL_law_159 rfl ?_
  refine k_st (st2 := (.int (nI (i + 2)) :: _)) (congrArg (fun z => Value.int z :: _) (show (nI i) + 2 = nI (i + 2) from nI_add i 2)) ?_
  refine k_sld (q := 161) C hX hbl hbA (vp_in_nI (n := i + 2) (by omega) (by omega)) dL_law_160 rfl ?_
  refine k_st (st2 := (.int (xs (i + 2)) :: _)) (congrArg (fun z => Value.int z :: _) (show xs (nI (i + 2)).toNatClampNeg = xs (i + 2) from congrArg xs (nI_clamp (n := i + 2) (by omega)))) ?_
  refine k_aload_n (q := 162) C 1 dL_law_161 rfl rfl ?_
  refine k_callSL (n := 4) (q := 165) (pre := ([] : va_W)) (post := (wM aM cy thM smM lnM ptM sgM fiM seM (mSt nM oM hM tM sM gM knM loM lfM nmM) svM slM ikM bfM coM goM foM)) (w2 := (([(ob, .inl (cy 4, 1, .inr (.inl (vp_updL ou 0 (nI (sPos h (xs (i + 1)) n)).toInt64))))] ++ ((wXo b cy (a 0) r ((nx + 1) % 6) (min (sn + 1) 6) ln (svOf sk) (kpOf sk) ik bf ++ wRd r kd hg nu dg ng tk) ++ (wSky a cy (n + 1) lit (sIns h n (sPos h (xs (i + 1)) n) (xs (i + 1))) (sIns t n (sPos h (xs (i + 1)) n) (xs (i + 2))) s g kn lo lf nm ++ wOth sk cy (updS S nx (cLike (n, lit, h, t, s, g, kn, lo, lf, nm) (S nx)))))) ++ (wM aM cy thM smM lnM ptM sgM fiM seM (mSt nM oM hM tM sM gM knM loM lfM nmM) svM slM ikM bfM coM goM foM))) (As := [.ref (b 0), .int (xs (i + 1)), .int (xs (i + 2)), .ref ob]) (rest := []) C Z hst (c_L_layer cy a b r nx sn ln sk S ik bf kd hg nu dg ng tk n lit h t s g kn lo lf nm ob ou (xs (i + 1)) (xs (i + 2)) hnx (by omega) hq.1 hq.2.1 hq.2.2 hq3) gL_law_L_layer rfl rfl rfl (by decide +kernel) (k_room hR (by decide)) (k_le hR (by omega)) rfl rfl (Nat.le_of_ble_eq_true rfl) (rfl) (rfl) dL_law_162 rfl ?_
  refine k_istore (q := 167) (fr2 := [(5, .int 0), (4, .int (nI i)), (3, .ref ob), (2, .ref (aM 0)), (1, .ref (b 0)), (0, .ref sb)]) C dL_law_165 (by decide) rfl rfl ?_
  refine k_aload_n (q := 168) C 3 dL_law_167 rfl rfl ?_
  refine k_aload_n (q := 169) C 5 dL_law_168 rfl rfl ?_
  refine k_iload (q := 171) C 1 dL_law_169 rfl rfl ?_
  refine k_iconst (q := 172) (v := 1) C dL_law_171 (by decide) rfl ?_
  refine k_iadd (q := 173) C dL_law_172 rfl ?_
  refine k_st (st2 := (.int (nI (i + 1)) :: _)) (congrArg (fun z => Value.int z :: _) (show (nI i) + 1 = nI (i + 1) from nI_add i 1)) ?_
  refine k_sld (q := 174) C hX hbl hbA (vp_in_nI (n := i + 1) (by omega) (by omega)) dL_law_173 rfl ?_
  refine k_st (st2 := (.int (xs (i + 1)) :: _)) (congrArg (fun z => Value.int z :: _) (show xs (nI (i + 1)).toNatClampNeg = xs (i + 1) from congrArg xs (nI_clamp (n := i + 1) (by omega)))) ?_
  refine k_aload_n (q := 175) C 5 dL_law_174 rfl rfl ?_
  refine k_iload (q := 177) C 1 dL_law_175 rfl rfl ?_
  refine k_iconst (q := 178) (v := 2) C dL_law_177 (by decide) rfl ?_
  refine k_iadd (q := 179) C dL_law_178 rfl ?_
  refine k_st (st2 := (.int (nI (i + 2)) :: _)) (congrArg (fun z => Value.int z :: _) (show (nI i) + 2 = nI (i + 2) from nI_add i 2)) ?_
  refine k_sld (q := 180) C hX hbl hbA (vp_in_nI (n := i + 2) (by omega) (by omega)) dL_law_179 rfl ?_
  refine k_st (st2 := (.int (xs (i + 2)) :: _)) (congrArg (fun z => Value.int z :: _) (show xs (nI (i + 2)).toNatClampNeg = xs (i + 2) from congrArg xs (nI_clamp (n := i + 2) (by omega)))) ?_
  refine k_callVI (n := 2) (q := 183) (pre := ([(ob, .inl (cy 4, 1, .inr (.inl (vp_updL ou 0 (nI (sPos h (xs (i + 1)) n)).toInt64))))] ++ ((wXo b cy (a 0) r ((nx + 1) % 6) (min (sn + 1) 6) ln (svOf sk) (kpOf sk) ik bf ++ wRd r kd hg nu dg ng tk) ++ (wSky a cy (n + 1) lit (sIns h n (sPos h (xs (i + 1)) n) (xs (i + 1))) (sIns t n (sPos h (xs (i + 1)) n) (xs (i + 2))) s g kn lo lf nm ++ wOth sk cy (updS S nx (cLike (n, lit, h, t, s, g, kn, lo, lf, nm) (S nx))))))) (post := ([] : va_W)) (w2 := (([(ob, .inl (cy 4, 1, .inr (.inl (vp_updL ou 0 (nI (sPos h (xs (i + 1)) n)).toInt64))))] ++ ((wXo b cy (a 0) r ((nx + 1) % 6) (min (sn + 1) 6) ln (svOf sk) (kpOf sk) ik bf ++ wRd r kd hg nu dg ng tk) ++ (wSky a cy (n + 1) lit (sIns h n (sPos h (xs (i + 1)) n) (xs (i + 1))) (sIns t n (sPos h (xs (i + 1)) n) (xs (i + 2))) s g kn lo lf nm ++ wOth sk cy (updS S nx (cLike (n, lit, h, t, s, g, kn, lo, lf, nm) (S nx)))))) ++ (wM aM cy 0 (min (smM + 1) 6) lnM ptM sgM fiM seM (mSt (nM + 1) oM (sIns hM nM (sPos hM (xs (i + 1)) nM) (xs (i + 1))) (sIns tM nM (sPos hM (xs (i + 1)) nM) (xs (i + 2))) sM gM knM loM lfM nmM) (mSave svM (mSt nM oM hM tM sM gM knM loM lfM nmM) smM) slM ikM bfM coM goM foM))) (As := [.int (xs (i + 1)), .int (xs (i + 2))]) (rest := []) C (c_X4_layer cy aM thM smM lnM ptM sgM fiM seM nM oM hM tM sM gM knM loM lfM nmM svM slM ikM bfM coM goM foM (xs (i + 1)) (xs (i + 2)) hq4 hw hsm) gL_law_X4_layer rfl rfl rfl (by decide +kernel) (k_room hR (by decide)) (k_le hR (by omega)) (ci := 4) rfl 0 rfl rfl rfl (Nat.le_of_ble_eq_true rfl) (k_pre) (k_pre.symm) dL_law_180 rfl ?_
  refine k_st (st2 := (.int (nI (sPos h (xs (i + 1)) n)) :: _)) (congrArg (fun z => Value.int z :: _) (show nI (sPos hM (xs (i + 1)) nM) = nI (sPos h (xs (i + 1)) n) from hq5)) ?_
  refine k_istore (q := 185) (fr2 := [(6, .int (nI (sPos h (xs (i + 1)) n))), (5, .int 0), (4, .int (nI i)), (3, .ref ob), (2, .ref (aM 0)), (1, .ref (b 0)), (0, .ref sb)]) C dL_law_183 (by decide) rfl rfl ?_
  refine k_aload_n (q := 186) C 4 dL_law_185 rfl rfl ?_
  refine k_callVI (n := 0) (q := 189) (pre := ([(ob, .inl (cy 4, 1, .inr (.inl (vp_updL ou 0 (nI (sPos h (xs (i + 1)) n)).toInt64))))] ++ ((wXo b cy (a 0) r ((nx + 1) % 6) (min (sn + 1) 6) ln (svOf sk) (kpOf sk) ik bf ++ wRd r kd hg nu dg ng tk) ++ (wSky a cy (n + 1) lit (sIns h n (sPos h (xs (i + 1)) n) (xs (i + 1))) (sIns t n (sPos h (xs (i + 1)) n) (xs (i + 2))) s g kn lo lf nm ++ wOth sk cy (updS S nx (cLike (n, lit, h, t, s, g, kn, lo, lf, nm) (S nx))))))) (post := ([] : va_W)) (w2 := (([(ob, .inl (cy 4, 1, .inr (.inl (vp_updL ou 0 (nI (sPos h (xs (i + 1)) n)).toInt64))))] ++ ((wXo b cy (a 0) r ((nx + 1) % 6) (min (sn + 1) 6) ln (svOf sk) (kpOf sk) ik bf ++ wRd r kd hg nu dg ng tk) ++ (wSky a cy (n + 1) lit (sIns h n (sPos h (xs (i + 1)) n) (xs (i + 1))) (sIns t n (sPos h (xs (i + 1)) n) (xs (i + 2))) s g kn lo lf nm ++ wOth sk cy (updS S nx (cLike (n, lit, h, t, s, g, kn, lo, lf, nm) (S nx)))))) ++ (wM aM cy 0 (min (smM + 1) 6) lnM ptM sgM fiM seM (mSt (nM + 1) oM (sIns hM nM (sPos hM (xs (i + 1)) nM) (xs (i + 1))) (sIns tM nM (sPos hM (xs (i + 1)) nM) (xs (i + 2))) sM gM knM loM lfM nmM) (mSave svM (mSt nM oM hM tM sM gM knM loM lfM nmM) smM) slM ikM bfM coM goM foM))) (As := []) (rest := []) C (c_X4_thrown cy aM 0 (min (smM + 1) 6) lnM ptM sgM fiM seM (nM + 1) oM (sIns hM nM (sPos hM (xs (i + 1)) nM) (xs (i + 1))) (sIns tM nM (sPos hM (xs (i + 1)) nM) (xs (i + 2))) sM gM knM loM lfM nmM (mSave svM (mSt nM oM hM tM sM gM knM loM lfM nmM) smM) slM ikM bfM coM goM foM) gL_law_X4_thrown rfl rfl rfl (by decide +kernel) (k_room hR (by decide)) (k_le hR (by omega)) (ci := 4) rfl 0 rfl rfl rfl (Nat.le_of_ble_eq_true rfl) (k_pre) (k_pre.symm) dL_law_186 rfl ?_
  refine k_iload (q := 191) C 1 dL_law_189 rfl rfl ?_
  refine k_icmp_eq (tgt := 196) (q := 194) C dL_law_191 (by decide) rfl ?_ ?_
  · intro c_191
    refine k_iload (q := 198) C 1 dL_law_196 rfl rfl ?_
    refine k_if_ne (tgt := 213) (q := 201) C dL_law_198 (by decide) rfl ?_ ?_
    · exact fun c_198 => absurd c_198 (by decide)
    · intro c_198
      refine k_aload_n (q := 202) C 3 dL_law_201 rfl rfl ?_
      refine k_iconst (q := 203) (v := 0) C dL_law_202 (by decide) rfl ?_
      refine k_lald (q := 204) C 0 rfl (vp_in_nI (n := 0) (by decide) (by decide)) dL_law_203 rfl ?_
      refine k_st (st2 := (.long ((nI (sPos h (xs (i + 1)) n)).toInt64) :: _)) (congrArg (fun z => Value.long z :: _) (show (vp_updL ou 0 (nI (sPos h (xs (i + 1)) n)).toInt64) ((0 : Int32).toNatClampNeg) = (nI (sPos h (xs (i + 1)) n)).toInt64 from if_pos rfl)) ?_
      refine k_iload (q := 206) C 0 dL_law_204 rfl rfl ?_
      refine k_i2l (q := 207) C dL_law_206 rfl ?_
      refine k_lcmp (q := 208) C dL_law_207 rfl ?_
      refine k_st (st2 := (.int 0 :: _)) (congrArg (fun z => Value.int z :: _) (show lg_cmp ((nI (sPos h (xs (i + 1)) n)).toInt64) ((nI (sPos h (xs (i + 1)) n)).toInt64) = 0 from lcmp_0 _)) ?_
      refine k_if_eq (tgt := 213) (q := 211) C dL_law_208 (by decide) rfl ?_ ?_
      · intro c_208
        refine k_goto (q := 1415) C dL_law_213 (by decide) ?_
        refine k_fr (fr2 := [(4, .int (nI i)), (3, .ref ob), (2, .ref (aM 0)), (1, .ref (b 0)), (0, .ref sb)]) ⟨[2, 3, 4, 5, 6], rfl⟩ ?_
        exact E ((nx + 1) % 6) (min (sn + 1) 6) ln (updS S nx (cLike (n, lit, h, t, s, g, kn, lo, lf, nm) (S nx))) ik bf kd hg nu dg ng tk ((n + 1, lit, sIns h n (sPos h (xs (i + 1)) n) (xs (i + 1)), sIns t n (sPos h (xs (i + 1)) n) (xs (i + 2)), s, g, kn, lo, lf, nm) : CK) (vp_updL ou 0 (nI (sPos h (xs (i + 1)) n)).toInt64) 0 (min (smM + 1) 6) lnM ptM sgM fiM seM ((nM + 1, oM, sIns hM nM (sPos hM (xs (i + 1)) nM) (xs (i + 1)), sIns tM nM (sPos hM (xs (i + 1)) nM) (xs (i + 2)), sM, gM, knM, loM, lfM, nmM) : SK) (mSave svM (mSt nM oM hM tM sM gM knM loM lfM nmM) smM) slM ikM bfM coM goM foM (⟨r_add hr hw, by omega, ring_save hri hr, kept_save hke hnx, hln, hl60, hbf, hb126⟩)
      · exact fun c_208 => absurd c_208 (by decide)
  · exact fun c_191 => absurd c_191 (by decide)
set_option maxHeartbeats 4000000 in
set_option maxRecDepth 100000 in
theorem lw_layer_e (cy : Nat → ClassId) (a : Nat → Nat) (b : Nat → Nat) (r : Nat) (nx : Nat) (sn : Nat) (ln : Nat) (sk : Nat → Nat → Nat) (S : Nat → CK) (ik : Nat → Int32) (bf : Nat → Nat) (kd : Nat) (hg : Nat) (nu : Nat) (dg : Nat) (ng : Bool) (tk : Bool) (n : Nat) (lit : Int32) (h : Nat → Int32) (t : Nat → Int32) (s : Nat → Int32) (g : Nat → Int32) (kn : Nat) (lo : Int32) (lf : Int32) (nm : Nat → Int32) (ob : Nat) (ou : Nat → Int64) (aM : Nat → Nat) (thM : Int32) (smM : Nat) (lnM : Nat) (ptM : Nat) (sgM : Nat) (fiM : Int32) (seM : Int32) (nM : Nat) (oM : Nat → Int32) (hM : Nat → Int32) (tM : Nat → Int32) (sM : Nat → Int32) (gM : Nat → Int32) (knM : Nat) (loM : Int32) (lfM : Int32) (nmM : Nat → Int32) (svM : Nat → Int32) (slM : Nat → Int32) (ikM : Nat → Int32) (bfM : Nat → Nat) (coM : Nat → Int32) (goM : Nat → Int32) (foM : Nat → Int32) (X : kX) (hR : xR X = room_1) (C : kC X 9 RL cL_law wsL_law cy) (Z : kZ (xA X) (xS X) (xS X).heap) (hst : (xL X).stackTraces = false) (sb i L ce sl : Nat) (xs : Nat → Int32) (hX : va_X sb L xs (xS X) (xS X).heap) (hbl : sb < (xS X).heap.size) (hbA : ¬ (xA X) sb) (hL : L ≤ 2048) (hi : i + 4 ≤ L) (hce : ce + 1 ≤ 620303 ∧ sl + 6 ≤ 7235195) (E : lwE X cy a b r sk ob aM sb i ce sl) (hgR : gR nx sn ln ik bf ((n, lit, h, t, s, g, kn, lo, lf, nm) : CK) S smM lnM ((nM, oM, hM, tM, sM, gM, knM, loM, lfM, nmM) : SK) svM slM ikM bfM) (hx : ¬ ((50 ≤ xs (i + 1) ∧ xs (i + 1) ≤ 3000) ∧ (1 ≤ xs (i + 2) ∧ xs (i + 2) ≤ 100))) : kG X 9 ce sl (([(ob, .inl (cy 4, 1, .inr (.inl ou)))] ++ ((wXo b cy (a 0) r nx sn ln (svOf sk) (kpOf sk) ik bf ++ wRd r kd hg nu dg ng tk) ++ (wSky a cy n lit h t s g kn lo lf nm ++ wOth sk cy S))) ++ (wM aM cy thM smM lnM ptM sgM fiM seM (mSt nM oM hM tM sM gM knM loM lfM nmM) svM slM ikM bfM coM goM foM)) 148 [(4, .int (nI i)), (3, .ref ob), (2, .ref (aM 0)), (1, .ref (b 0)), (0, .ref sb)] [] := by
  obtain ⟨hr, hsn, hri, hke, hln, hl60, hbf, hb126⟩ := id hgR
  have hnx := hri.2.1
  have hsm := hri.1
  have hn := hr.1.1
  have en : n = nM := hr.2.1
  have el : lit = mLit oM := hr.2.2.1
  have hH := hr.2.2.2.1
  have hT := hr.2.2.2.2.1
  have hS := hr.2.2.2.2.2.1
  have hG := hr.2.2.2.2.2.2.1
  have ekn : kn = knM := hr.2.2.2.2.2.2.2.1
  have ho := hr.1.2.1
  have hs0 := hr.1.2.2.1
  have hs1 := hr.1.2.2.2.1
  have hk8 := hr.1.2.2.2.2.1
  have hn6 : n ≤ 6 := by rw [en]; exact hn
  have hkn8 : kn ≤ 8 := by rw [ekn]; exact hk8
  have hsn6 : sn ≤ 6 := by omega
  refine k_aload_n (q := 149) C 3 dL_law_148 rfl rfl ?_
  refine k_aload_n (q := 150) C 4 dL_law_149 rfl rfl ?_
  refine k_iload (q := 152) C 0 dL_law_150 rfl rfl ?_
  refine k_iconst (q := 153) (v := 1) C dL_law_152 (by decide) rfl ?_
  refine k_iadd (q := 154) C dL_law_153 rfl ?_
  refine k_st (st2 := (.int (nI (i + 1)) :: _)) (congrArg (fun z => Value.int z :: _) (show (nI i) + 1 = nI (i + 1) from nI_add i 1)) ?_
  refine k_sld (q := 155) C hX hbl hbA (vp_in_nI (n := i + 1) (by omega) (by omega)) dL_law_154 rfl ?_
  refine k_st (st2 := (.int (xs (i + 1)) :: _)) (congrArg (fun z => Value.int z :: _) (show xs (nI (i + 1)).toNatClampNeg = xs (i + 1) from congrArg xs (nI_clamp (n := i + 1) (by omega)))) ?_
  refine k_aload_n (q := 156) C 4 dL_law_155 rfl rfl ?_
  refine k_iload (q := 158) C 0 dL_law_156 rfl rfl ?_
  refine k_iconst (q := 159) (v := 2) C dL_law_158 (by decide) rfl ?_
  refine k_iadd (q := 160) C dL_law_159 rfl ?_
  refine k_st (st2 := (.int (nI (i + 2)) :: _)) (congrArg (fun z => Value.int z :: _) (show (nI i) + 2 = nI (i + 2) from nI_add i 2)) ?_
  refine k_sld (q := 161) C hX hbl hbA (vp_in_nI (n := i + 2) (by omega) (by omega)) dL_law_160 rfl ?_
  refine k_st (st2 := (.int (xs (i + 2)) :: _)) (congrArg (fun z => Value.int z :: _) (show xs (nI (i + 2)).toNatClampNeg = xs (i + 2) from congrArg xs (nI_clamp (n := i + 2) (by omega)))) ?_
  refine k_aload_n (q := 162) C 1 dL_law_161 rfl rfl ?_
  refine k_callSL (n := 4) (q := 165) (pre := ([] : va_W)) (post := (wM aM cy thM smM lnM ptM sgM fiM seM (mSt nM oM hM tM sM gM knM loM lfM nmM) svM slM ikM bfM coM goM foM)) (w2 := (([(ob, .inl (cy 4, 1, .inr (.inl ou)))] ++ ((wXo b cy (a 0) r nx sn ln (svOf sk) (kpOf sk) ik bf ++ wRd r kd hg nu dg ng tk) ++ (wSky a cy n lit h t s g kn lo lf nm ++ wOth sk cy S))) ++ (wM aM cy thM smM lnM ptM sgM fiM seM (mSt nM oM hM tM sM gM knM loM lfM nmM) svM slM ikM bfM coM goM foM))) (As := [.ref (b 0), .int (xs (i + 1)), .int (xs (i + 2)), .ref ob]) (rest := []) C Z hst (c_L_layer_e cy a b r nx sn ln sk S ik bf kd hg nu dg ng tk n lit h t s g kn lo lf nm ob ou (xs (i + 1)) (xs (i + 2)) hn6 hx) gL_law_L_layer rfl rfl rfl (by decide +kernel) (k_room hR (by decide)) (k_le hR (by omega)) rfl rfl (Nat.le_of_ble_eq_true rfl) (rfl) (rfl) dL_law_162 rfl ?_
  refine k_istore (q := 167) (fr2 := [(5, .int 1), (4, .int (nI i)), (3, .ref ob), (2, .ref (aM 0)), (1, .ref (b 0)), (0, .ref sb)]) C dL_law_165 (by decide) rfl rfl ?_
  refine k_aload_n (q := 168) C 3 dL_law_167 rfl rfl ?_
  refine k_aload_n (q := 169) C 5 dL_law_168 rfl rfl ?_
  refine k_iload (q := 171) C 1 dL_law_169 rfl rfl ?_
  refine k_iconst (q := 172) (v := 1) C dL_law_171 (by decide) rfl ?_
  refine k_iadd (q := 173) C dL_law_172 rfl ?_
  refine k_st (st2 := (.int (nI (i + 1)) :: _)) (congrArg (fun z => Value.int z :: _) (show (nI i) + 1 = nI (i + 1) from nI_add i 1)) ?_
  refine k_sld (q := 174) C hX hbl hbA (vp_in_nI (n := i + 1) (by omega) (by omega)) dL_law_173 rfl ?_
  refine k_st (st2 := (.int (xs (i + 1)) :: _)) (congrArg (fun z => Value.int z :: _) (show xs (nI (i + 1)).toNatClampNeg = xs (i + 1) from congrArg xs (nI_clamp (n := i + 1) (by omega)))) ?_
  refine k_aload_n (q := 175) C 5 dL_law_174 rfl rfl ?_
  refine k_iload (q := 177) C 1 dL_law_175 rfl rfl ?_
  refine k_iconst (q := 178) (v := 2) C dL_law_177 (by decide) rfl ?_
  refine k_iadd (q := 179) C dL_law_178 rfl ?_
  refine k_st (st2 := (.int (nI (i + 2)) :: _)) (congrArg (fun z => Value.int z :: _) (show (nI i) + 2 = nI (i + 2) from nI_add i 2)) ?_
  refine k_sld (q := 180) C hX hbl hbA (vp_in_nI (n := i + 2) (by omega) (by omega)) dL_law_179 rfl ?_
  refine k_st (st2 := (.int (xs (i + 2)) :: _)) (congrArg (fun z => Value.int z :: _) (show xs (nI (i + 2)).toNatClampNeg = xs (i + 2) from congrArg xs (nI_clamp (n := i + 2) (by omega)))) ?_
  refine k_callVI (n := 2) (q := 183) (pre := ([(ob, .inl (cy 4, 1, .inr (.inl ou)))] ++ ((wXo b cy (a 0) r nx sn ln (svOf sk) (kpOf sk) ik bf ++ wRd r kd hg nu dg ng tk) ++ (wSky a cy n lit h t s g kn lo lf nm ++ wOth sk cy S)))) (post := ([] : va_W)) (w2 := (([(ob, .inl (cy 4, 1, .inr (.inl ou)))] ++ ((wXo b cy (a 0) r nx sn ln (svOf sk) (kpOf sk) ik bf ++ wRd r kd hg nu dg ng tk) ++ (wSky a cy n lit h t s g kn lo lf nm ++ wOth sk cy S))) ++ (wM aM cy (mWhy nM hM (xs (i + 1)) (xs (i + 2))) smM lnM ptM sgM fiM seM (mSt nM oM hM tM sM gM knM loM lfM nmM) svM slM ikM bfM coM goM foM))) (As := [.int (xs (i + 1)), .int (xs (i + 2))]) (rest := []) C (c_X4_layer_e cy aM thM smM lnM ptM sgM fiM seM nM oM hM tM sM gM knM loM lfM nmM svM slM ikM bfM coM goM foM (xs (i + 1)) (xs (i + 2)) hn (by unfold mWhy; rw [if_pos hx]; decide)) gL_law_X4_layer rfl rfl rfl (by decide +kernel) (k_room hR (by decide)) (k_le hR (by omega)) (ci := 4) rfl 0 rfl rfl rfl (Nat.le_of_ble_eq_true rfl) (k_pre) (k_pre.symm) dL_law_180 rfl ?_
  refine k_istore (q := 185) (fr2 := [(6, .int 0), (5, .int 1), (4, .int (nI i)), (3, .ref ob), (2, .ref (aM 0)), (1, .ref (b 0)), (0, .ref sb)]) C dL_law_183 (by decide) rfl rfl ?_
  refine k_aload_n (q := 186) C 4 dL_law_185 rfl rfl ?_
  refine k_callVI (n := 0) (q := 189) (pre := ([(ob, .inl (cy 4, 1, .inr (.inl ou)))] ++ ((wXo b cy (a 0) r nx sn ln (svOf sk) (kpOf sk) ik bf ++ wRd r kd hg nu dg ng tk) ++ (wSky a cy n lit h t s g kn lo lf nm ++ wOth sk cy S)))) (post := ([] : va_W)) (w2 := (([(ob, .inl (cy 4, 1, .inr (.inl ou)))] ++ ((wXo b cy (a 0) r nx sn ln (svOf sk) (kpOf sk) ik bf ++ wRd r kd hg nu dg ng tk) ++ (wSky a cy n lit h t s g kn lo lf nm ++ wOth sk cy S))) ++ (wM aM cy (mWhy nM hM (xs (i + 1)) (xs (i + 2))) smM lnM ptM sgM fiM seM (mSt nM oM hM tM sM gM knM loM lfM nmM) svM slM ikM bfM coM goM foM))) (As := []) (rest := []) C (c_X4_thrown cy aM (mWhy nM hM (xs (i + 1)) (xs (i + 2))) smM lnM ptM sgM fiM seM nM oM hM tM sM gM knM loM lfM nmM svM slM ikM bfM coM goM foM) gL_law_X4_thrown rfl rfl rfl (by decide +kernel) (k_room hR (by decide)) (k_le hR (by omega)) (ci := 4) rfl 0 rfl rfl rfl (Nat.le_of_ble_eq_true rfl) (k_pre) (k_pre.symm) dL_law_186 rfl ?_
  refine k_st (st2 := (.int 1 :: _)) (congrArg (fun z => Value.int z :: _) (show (mWhy nM hM (xs (i + 1)) (xs (i + 2))) = 1 from (by unfold mWhy; rw [if_pos hx]))) ?_
  refine k_iload (q := 191) C 1 dL_law_189 rfl rfl ?_
  refine k_icmp_eq (tgt := 196) (q := 194) C dL_law_191 (by decide) rfl ?_ ?_
  · intro c_191
    refine k_iload (q := 198) C 1 dL_law_196 rfl rfl ?_
    refine k_if_ne (tgt := 213) (q := 201) C dL_law_198 (by decide) rfl ?_ ?_
    · intro c_198
      refine k_goto (q := 1415) C dL_law_213 (by decide) ?_
      refine k_fr (fr2 := [(4, .int (nI i)), (3, .ref ob), (2, .ref (aM 0)), (1, .ref (b 0)), (0, .ref sb)]) ⟨[2, 3, 4, 5, 6], rfl⟩ ?_
      exact E nx sn ln S ik bf kd hg nu dg ng tk ((n, lit, h, t, s, g, kn, lo, lf, nm) : CK) ou (mWhy nM hM (xs (i + 1)) (xs (i + 2))) smM lnM ptM sgM fiM seM ((nM, oM, hM, tM, sM, gM, knM, loM, lfM, nmM) : SK) svM slM ikM bfM coM goM foM (hgR)
    · exact fun c_198 => absurd c_198 (by decide)
  · exact fun c_191 => absurd c_191 (by decide)
set_option maxHeartbeats 4000000 in
set_option maxRecDepth 100000 in
theorem lw_layer_e2 (cy : Nat → ClassId) (a : Nat → Nat) (b : Nat → Nat) (r : Nat) (nx : Nat) (sn : Nat) (ln : Nat) (sk : Nat → Nat → Nat) (S : Nat → CK) (ik : Nat → Int32) (bf : Nat → Nat) (kd : Nat) (hg : Nat) (nu : Nat) (dg : Nat) (ng : Bool) (tk : Bool) (n : Nat) (lit : Int32) (h : Nat → Int32) (t : Nat → Int32) (s : Nat → Int32) (g : Nat → Int32) (kn : Nat) (lo : Int32) (lf : Int32) (nm : Nat → Int32) (ob : Nat) (ou : Nat → Int64) (aM : Nat → Nat) (thM : Int32) (smM : Nat) (lnM : Nat) (ptM : Nat) (sgM : Nat) (fiM : Int32) (seM : Int32) (nM : Nat) (oM : Nat → Int32) (hM : Nat → Int32) (tM : Nat → Int32) (sM : Nat → Int32) (gM : Nat → Int32) (knM : Nat) (loM : Int32) (lfM : Int32) (nmM : Nat → Int32) (svM : Nat → Int32) (slM : Nat → Int32) (ikM : Nat → Int32) (bfM : Nat → Nat) (coM : Nat → Int32) (goM : Nat → Int32) (foM : Nat → Int32) (X : kX) (hR : xR X = room_1) (C : kC X 9 RL cL_law wsL_law cy) (Z : kZ (xA X) (xS X) (xS X).heap) (hst : (xL X).stackTraces = false) (sb i L ce sl : Nat) (xs : Nat → Int32) (hX : va_X sb L xs (xS X) (xS X).heap) (hbl : sb < (xS X).heap.size) (hbA : ¬ (xA X) sb) (hL : L ≤ 2048) (hi : i + 4 ≤ L) (hce : ce + 1 ≤ 620303 ∧ sl + 6 ≤ 7235195) (E : lwE X cy a b r sk ob aM sb i ce sl) (hgR : gR nx sn ln ik bf ((n, lit, h, t, s, g, kn, lo, lf, nm) : CK) S smM lnM ((nM, oM, hM, tM, sM, gM, knM, loM, lfM, nmM) : SK) svM slM ikM bfM) (hx : (50 ≤ xs (i + 1) ∧ xs (i + 1) ≤ 3000) ∧ (1 ≤ xs (i + 2) ∧ xs (i + 2) ≤ 100)) (hz : ¬ mWhy nM hM (xs (i + 1)) (xs (i + 2)) = 0) : kG X 9 ce sl (([(ob, .inl (cy 4, 1, .inr (.inl ou)))] ++ ((wXo b cy (a 0) r nx sn ln (svOf sk) (kpOf sk) ik bf ++ wRd r kd hg nu dg ng tk) ++ (wSky a cy n lit h t s g kn lo lf nm ++ wOth sk cy S))) ++ (wM aM cy thM smM lnM ptM sgM fiM seM (mSt nM oM hM tM sM gM knM loM lfM nmM) svM slM ikM bfM coM goM foM)) 148 [(4, .int (nI i)), (3, .ref ob), (2, .ref (aM 0)), (1, .ref (b 0)), (0, .ref sb)] [] := by
  obtain ⟨hr, hsn, hri, hke, hln, hl60, hbf, hb126⟩ := id hgR
  have hnx := hri.2.1
  have hsm := hri.1
  have hn := hr.1.1
  have en : n = nM := hr.2.1
  have el : lit = mLit oM := hr.2.2.1
  have hH := hr.2.2.2.1
  have hT := hr.2.2.2.2.1
  have hS := hr.2.2.2.2.2.1
  have hG := hr.2.2.2.2.2.2.1
  have ekn : kn = knM := hr.2.2.2.2.2.2.2.1
  have ho := hr.1.2.1
  have hs0 := hr.1.2.2.1
  have hs1 := hr.1.2.2.2.1
  have hk8 := hr.1.2.2.2.2.1
  have hn6 : n ≤ 6 := by rw [en]; exact hn
  have hkn8 : kn ≤ 8 := by rw [ekn]; exact hk8
  have hsn6 : sn ≤ 6 := by omega
  have hz2 : ¬ (sAny h (xs (i + 1)) n = false ∧ n < 6) := fun q => hz ((mWhy_0 hx.1 hx.2 hn).mpr ⟨(cg_Any hH).symm.trans (by rw [← en]; exact q.1), by rw [← en]; exact q.2⟩)
  have hz3 : mWhy nM hM (xs (i + 1)) (xs (i + 2)) = 2 := by
    unfold mWhy at hz ⊢
    rw [if_neg (fun q => q hx)] at hz ⊢
    by_cases c : nM = 6 ∨ sAny hM (xs (i + 1)) nM = true
    · rw [if_pos c]
    · rw [if_neg c] at hz; exact absurd rfl hz
  refine k_aload_n (q := 149) C 3 dL_law_148 rfl rfl ?_
  refine k_aload_n (q := 150) C 4 dL_law_149 rfl rfl ?_
  refine k_iload (q := 152) C 0 dL_law_150 rfl rfl ?_
  refine k_iconst (q := 153) (v := 1) C dL_law_152 (by decide) rfl ?_
  refine k_iadd (q := 154) C dL_law_153 rfl ?_
  refine k_st (st2 := (.int (nI (i + 1)) :: _)) (congrArg (fun z => Value.int z :: _) (show (nI i) + 1 = nI (i + 1) from nI_add i 1)) ?_
  refine k_sld (q := 155) C hX hbl hbA (vp_in_nI (n := i + 1) (by omega) (by omega)) dL_law_154 rfl ?_
  refine k_st (st2 := (.int (xs (i + 1)) :: _)) (congrArg (fun z => Value.int z :: _) (show xs (nI (i + 1)).toNatClampNeg = xs (i + 1) from congrArg xs (nI_clamp (n := i + 1) (by omega)))) ?_
  refine k_aload_n (q := 156) C 4 dL_law_155 rfl rfl ?_
  refine k_iload (q := 158) C 0 dL_law_156 rfl rfl ?_
  refine k_iconst (q := 159) (v := 2) C dL_law_158 (by decide) rfl ?_
  refine k_iadd (q := 160) C dL_law_159 rfl ?_
  refine k_st (st2 := (.int (nI (i + 2)) :: _)) (congrArg (fun z => Value.int z :: _) (show (nI i) + 2 = nI (i + 2) from nI_add i 2)) ?_
  refine k_sld (q := 161) C hX hbl hbA (vp_in_nI (n := i + 2) (by omega) (by omega)) dL_law_160 rfl ?_
  refine k_st (st2 := (.int (xs (i + 2)) :: _)) (congrArg (fun z => Value.int z :: _) (show xs (nI (i + 2)).toNatClampNeg = xs (i + 2) from congrArg xs (nI_clamp (n := i + 2) (by omega)))) ?_
  refine k_aload_n (q := 162) C 1 dL_law_161 rfl rfl ?_
  refine k_callSL (n := 4) (q := 165) (pre := ([] : va_W)) (post := (wM aM cy thM smM lnM ptM sgM fiM seM (mSt nM oM hM tM sM gM knM loM lfM nmM) svM slM ikM bfM coM goM foM)) (w2 := (([(ob, .inl (cy 4, 1, .inr (.inl ou)))] ++ ((wXo b cy (a 0) r nx sn ln (svOf sk) (kpOf sk) ik bf ++ wRd r kd hg nu dg ng tk) ++ (wSky a cy n lit h t s g kn lo lf nm ++ wOth sk cy S))) ++ (wM aM cy thM smM lnM ptM sgM fiM seM (mSt nM oM hM tM sM gM knM loM lfM nmM) svM slM ikM bfM coM goM foM))) (As := [.ref (b 0), .int (xs (i + 1)), .int (xs (i + 2)), .ref ob]) (rest := []) C Z hst (c_L_layer_e2 cy a b r nx sn ln sk S ik bf kd hg nu dg ng tk n lit h t s g kn lo lf nm ob ou (xs (i + 1)) (xs (i + 2)) hn6 hx hz2) gL_law_L_layer rfl rfl rfl (by decide +kernel) (k_room hR (by decide)) (k_le hR (by omega)) rfl rfl (Nat.le_of_ble_eq_true rfl) (rfl) (rfl) dL_law_162 rfl ?_
  refine k_istore (q := 167) (fr2 := [(5, .int 2), (4, .int (nI i)), (3, .ref ob), (2, .ref (aM 0)), (1, .ref (b 0)), (0, .ref sb)]) C dL_law_165 (by decide) rfl rfl ?_
  refine k_aload_n (q := 168) C 3 dL_law_167 rfl rfl ?_
  refine k_aload_n (q := 169) C 5 dL_law_168 rfl rfl ?_
  refine k_iload (q := 171) C 1 dL_law_169 rfl rfl ?_
  refine k_iconst (q := 172) (v := 1) C dL_law_171 (by decide) rfl ?_
  refine k_iadd (q := 173) C dL_law_172 rfl ?_
  refine k_st (st2 := (.int (nI (i + 1)) :: _)) (congrArg (fun z => Value.int z :: _) (show (nI i) + 1 = nI (i + 1) from nI_add i 1)) ?_
  refine k_sld (q := 174) C hX hbl hbA (vp_in_nI (n := i + 1) (by omega) (by omega)) dL_law_173 rfl ?_
  refine k_st (st2 := (.int (xs (i + 1)) :: _)) (congrArg (fun z => Value.int z :: _) (show xs (nI (i + 1)).toNatClampNeg = xs (i + 1) from congrArg xs (nI_clamp (n := i + 1) (by omega)))) ?_
  refine k_aload_n (q := 175) C 5 dL_law_174 rfl rfl ?_
  refine k_iload (q := 177) C 1 dL_law_175 rfl rfl ?_
  refine k_iconst (q := 178) (v := 2) C dL_law_177 (by decide) rfl ?_
  refine k_iadd (q := 179) C dL_law_178 rfl ?_
  refine k_st (st2 := (.int (nI (i + 2)) :: _)) (congrArg (fun z => Value.int z :: _) (show (nI i) + 2 = nI (i + 2) from nI_add i 2)) ?_
  refine k_sld (q := 180) C hX hbl hbA (vp_in_nI (n := i + 2) (by omega) (by omega)) dL_law_179 rfl ?_
  refine k_st (st2 := (.int (xs (i + 2)) :: _)) (congrArg (fun z => Value.int z :: _) (show xs (nI (i + 2)).toNatClampNeg = xs (i + 2) from congrArg xs (nI_clamp (n := i + 2) (by omega)))) ?_
  refine k_callVI (n := 2) (q := 183) (pre := ([(ob, .inl (cy 4, 1, .inr (.inl ou)))] ++ ((wXo b cy (a 0) r nx sn ln (svOf sk) (kpOf sk) ik bf ++ wRd r kd hg nu dg ng tk) ++ (wSky a cy n lit h t s g kn lo lf nm ++ wOth sk cy S)))) (post := ([] : va_W)) (w2 := (([(ob, .inl (cy 4, 1, .inr (.inl ou)))] ++ ((wXo b cy (a 0) r nx sn ln (svOf sk) (kpOf sk) ik bf ++ wRd r kd hg nu dg ng tk) ++ (wSky a cy n lit h t s g kn lo lf nm ++ wOth sk cy S))) ++ (wM aM cy (mWhy nM hM (xs (i + 1)) (xs (i + 2))) smM lnM ptM sgM fiM seM (mSt nM oM hM tM sM gM knM loM lfM nmM) svM slM ikM bfM coM goM foM))) (As := [.int (xs (i + 1)), .int (xs (i + 2))]) (rest := []) C (c_X4_layer_e cy aM thM smM lnM ptM sgM fiM seM nM oM hM tM sM gM knM loM lfM nmM svM slM ikM bfM coM goM foM (xs (i + 1)) (xs (i + 2)) hn hz) gL_law_X4_layer rfl rfl rfl (by decide +kernel) (k_room hR (by decide)) (k_le hR (by omega)) (ci := 4) rfl 0 rfl rfl rfl (Nat.le_of_ble_eq_true rfl) (k_pre) (k_pre.symm) dL_law_180 rfl ?_
  refine k_istore (q := 185) (fr2 := [(6, .int 0), (5, .int 2), (4, .int (nI i)), (3, .ref ob), (2, .ref (aM 0)), (1, .ref (b 0)), (0, .ref sb)]) C dL_law_183 (by decide) rfl rfl ?_
  refine k_aload_n (q := 186) C 4 dL_law_185 rfl rfl ?_
  refine k_callVI (n := 0) (q := 189) (pre := ([(ob, .inl (cy 4, 1, .inr (.inl ou)))] ++ ((wXo b cy (a 0) r nx sn ln (svOf sk) (kpOf sk) ik bf ++ wRd r kd hg nu dg ng tk) ++ (wSky a cy n lit h t s g kn lo lf nm ++ wOth sk cy S)))) (post := ([] : va_W)) (w2 := (([(ob, .inl (cy 4, 1, .inr (.inl ou)))] ++ ((wXo b cy (a 0) r nx sn ln (svOf sk) (kpOf sk) ik bf ++ wRd r kd hg nu dg ng tk) ++ (wSky a cy n lit h t s g kn lo lf nm ++ wOth sk cy S))) ++ (wM aM cy (mWhy nM hM (xs (i + 1)) (xs (i + 2))) smM lnM ptM sgM fiM seM (mSt nM oM hM tM sM gM knM loM lfM nmM) svM slM ikM bfM coM goM foM))) (As := []) (rest := []) C (c_X4_thrown cy aM (mWhy nM hM (xs (i + 1)) (xs (i + 2))) smM lnM ptM sgM fiM seM nM oM hM tM sM gM knM loM lfM nmM svM slM ikM bfM coM goM foM) gL_law_X4_thrown rfl rfl rfl (by decide +kernel) (k_room hR (by decide)) (k_le hR (by omega)) (ci := 4) rfl 0 rfl rfl rfl (Nat.le_of_ble_eq_true rfl) (k_pre) (k_pre.symm) dL_law_186 rfl ?_
  refine k_st (st2 := (.int 2 :: _)) (congrArg (fun z => Value.int z :: _) (show (mWhy nM hM (xs (i + 1)) (xs (i + 2))) = 2 from hz3)) ?_
  refine k_iload (q := 191) C 1 dL_law_189 rfl rfl ?_
  refine k_icmp_eq (tgt := 196) (q := 194) C dL_law_191 (by decide) rfl ?_ ?_
  · intro c_191
    refine k_iload (q := 198) C 1 dL_law_196 rfl rfl ?_
    refine k_if_ne (tgt := 213) (q := 201) C dL_law_198 (by decide) rfl ?_ ?_
    · intro c_198
      refine k_goto (q := 1415) C dL_law_213 (by decide) ?_
      refine k_fr (fr2 := [(4, .int (nI i)), (3, .ref ob), (2, .ref (aM 0)), (1, .ref (b 0)), (0, .ref sb)]) ⟨[2, 3, 4, 5, 6], rfl⟩ ?_
      exact E nx sn ln S ik bf kd hg nu dg ng tk ((n, lit, h, t, s, g, kn, lo, lf, nm) : CK) ou (mWhy nM hM (xs (i + 1)) (xs (i + 2))) smM lnM ptM sgM fiM seM ((nM, oM, hM, tM, sM, gM, knM, loM, lfM, nmM) : SK) svM slM ikM bfM coM goM foM (hgR)
    · exact fun c_198 => absurd c_198 (by decide)
  · exact fun c_191 => absurd c_191 (by decide)
set_option maxHeartbeats 4000000 in
set_option maxRecDepth 100000 in
theorem lw_clear (cy : Nat → ClassId) (a : Nat → Nat) (b : Nat → Nat) (r : Nat) (nx : Nat) (sn : Nat) (ln : Nat) (sk : Nat → Nat → Nat) (S : Nat → CK) (ik : Nat → Int32) (bf : Nat → Nat) (kd : Nat) (hg : Nat) (nu : Nat) (dg : Nat) (ng : Bool) (tk : Bool) (n : Nat) (lit : Int32) (h : Nat → Int32) (t : Nat → Int32) (s : Nat → Int32) (g : Nat → Int32) (kn : Nat) (lo : Int32) (lf : Int32) (nm : Nat → Int32) (ob : Nat) (ou : Nat → Int64) (aM : Nat → Nat) (thM : Int32) (smM : Nat) (lnM : Nat) (ptM : Nat) (sgM : Nat) (fiM : Int32) (seM : Int32) (nM : Nat) (oM : Nat → Int32) (hM : Nat → Int32) (tM : Nat → Int32) (sM : Nat → Int32) (gM : Nat → Int32) (knM : Nat) (loM : Int32) (lfM : Int32) (nmM : Nat → Int32) (svM : Nat → Int32) (slM : Nat → Int32) (ikM : Nat → Int32) (bfM : Nat → Nat) (coM : Nat → Int32) (goM : Nat → Int32) (foM : Nat → Int32) (p : Nat) (X : kX) (hR : xR X = room_1) (C : kC X 9 RL cL_law wsL_law cy) (Z : kZ (xA X) (xS X) (xS X).heap) (hst : (xL X).stackTraces = false) (sb i L ce sl : Nat) (xs : Nat → Int32) (hX : va_X sb L xs (xS X) (xS X).heap) (hbl : sb < (xS X).heap.size) (hbA : ¬ (xA X) sb) (hL : L ≤ 2048) (hi : i + 4 ≤ L) (hce : ce + 1 ≤ 620303 ∧ sl + 6 ≤ 7235195) (E : lwE X cy a b r sk ob aM sb i ce sl) (hgR : gR nx sn ln ik bf ((n, lit, h, t, s, g, kn, lo, lf, nm) : CK) S smM lnM ((nM, oM, hM, tM, sM, gM, knM, loM, lfM, nmM) : SK) svM slM ikM bfM) (hp : p < nM) (hx1 : xs (i + 1) = nI p) : kG X 9 ce sl (([(ob, .inl (cy 4, 1, .inr (.inl ou)))] ++ ((wXo b cy (a 0) r nx sn ln (svOf sk) (kpOf sk) ik bf ++ wRd r kd hg nu dg ng tk) ++ (wSky a cy n lit h t s g kn lo lf nm ++ wOth sk cy S))) ++ (wM aM cy thM smM lnM ptM sgM fiM seM (mSt nM oM hM tM sM gM knM loM lfM nmM) svM slM ikM bfM coM goM foM)) 216 [(4, .int (nI i)), (3, .ref ob), (2, .ref (aM 0)), (1, .ref (b 0)), (0, .ref sb)] [] := by
  obtain ⟨hr, hsn, hri, hke, hln, hl60, hbf, hb126⟩ := id hgR
  have hnx := hri.2.1
  have hsm := hri.1
  have hn := hr.1.1
  have en : n = nM := hr.2.1
  have el : lit = mLit oM := hr.2.2.1
  have hH := hr.2.2.2.1
  have hT := hr.2.2.2.2.1
  have hS := hr.2.2.2.2.2.1
  have hG := hr.2.2.2.2.2.2.1
  have ekn : kn = knM := hr.2.2.2.2.2.2.2.1
  have ho := hr.1.2.1
  have hs0 := hr.1.2.2.1
  have hs1 := hr.1.2.2.2.1
  have hk8 := hr.1.2.2.2.2.1
  have hn6 : n ≤ 6 := by rw [en]; exact hn
  have hkn8 : kn ≤ 8 := by rw [ekn]; exact hk8
  have hsn6 : sn ≤ 6 := by omega
  refine k_aload_n (q := 217) C 3 dL_law_216 rfl rfl ?_
  refine k_aload_n (q := 218) C 4 dL_law_217 rfl rfl ?_
  refine k_iload (q := 220) C 0 dL_law_218 rfl rfl ?_
  refine k_iconst (q := 221) (v := 1) C dL_law_220 (by decide) rfl ?_
  refine k_iadd (q := 222) C dL_law_221 rfl ?_
  refine k_st (st2 := (.int (nI (i + 1)) :: _)) (congrArg (fun z => Value.int z :: _) (show (nI i) + 1 = nI (i + 1) from nI_add i 1)) ?_
  refine k_sld (q := 223) C hX hbl hbA (vp_in_nI (n := i + 1) (by omega) (by omega)) dL_law_222 rfl ?_
  refine k_st (st2 := (.int (xs (i + 1)) :: _)) (congrArg (fun z => Value.int z :: _) (show xs (nI (i + 1)).toNatClampNeg = xs (i + 1) from congrArg xs (nI_clamp (n := i + 1) (by omega)))) ?_
  refine k_st (st2 := (.int (nI p) :: _)) (congrArg (fun z => Value.int z :: _) (show xs (i + 1) = nI p from hx1)) ?_
  refine k_aload_n (q := 224) C 1 dL_law_223 rfl rfl ?_
  refine k_callSL (n := 3) (q := 227) (pre := ([] : va_W)) (post := (wM aM cy thM smM lnM ptM sgM fiM seM (mSt nM oM hM tM sM gM knM loM lfM nmM) svM slM ikM bfM coM goM foM)) (w2 := (([(ob, .inl (cy 4, 1, .inr (.inl (vp_updL ou 0 (h p).toInt64))))] ++ ((wXo b cy (a 0) r ((nx + 1) % 6) (min (sn + 1) 6) ln (svOf sk) (kpOf sk) ik bf ++ wRd r kd hg nu dg ng tk) ++ (wSky a cy (n - 1) lit (sDn h p n) (sDn t p n) s g kn lo lf nm ++ wOth sk cy (updS S nx (cLike (n, lit, h, t, s, g, kn, lo, lf, nm) (S nx)))))) ++ (wM aM cy thM smM lnM ptM sgM fiM seM (mSt nM oM hM tM sM gM knM loM lfM nmM) svM slM ikM bfM coM goM foM))) (As := [.ref (b 0), .int (nI p), .ref ob]) (rest := []) C Z hst (c_L_clear cy a b r nx sn ln sk S ik bf kd hg nu dg ng tk n lit h t s g kn lo lf nm ob ou p hnx hsn6 hn6 (by omega)) gL_law_L_clear rfl rfl rfl (by decide +kernel) (k_room hR (by decide)) (k_le hR (by omega)) rfl rfl (Nat.le_of_ble_eq_true rfl) (rfl) (rfl) dL_law_224 rfl ?_
  refine k_istore (q := 229) (fr2 := [(5, .int 0), (4, .int (nI i)), (3, .ref ob), (2, .ref (aM 0)), (1, .ref (b 0)), (0, .ref sb)]) C dL_law_227 (by decide) rfl rfl ?_
  refine k_aload_n (q := 230) C 3 dL_law_229 rfl rfl ?_
  refine k_aload_n (q := 231) C 5 dL_law_230 rfl rfl ?_
  refine k_iload (q := 233) C 1 dL_law_231 rfl rfl ?_
  refine k_iconst (q := 234) (v := 1) C dL_law_233 (by decide) rfl ?_
  refine k_iadd (q := 235) C dL_law_234 rfl ?_
  refine k_st (st2 := (.int (nI (i + 1)) :: _)) (congrArg (fun z => Value.int z :: _) (show (nI i) + 1 = nI (i + 1) from nI_add i 1)) ?_
  refine k_sld (q := 236) C hX hbl hbA (vp_in_nI (n := i + 1) (by omega) (by omega)) dL_law_235 rfl ?_
  refine k_st (st2 := (.int (xs (i + 1)) :: _)) (congrArg (fun z => Value.int z :: _) (show xs (nI (i + 1)).toNatClampNeg = xs (i + 1) from congrArg xs (nI_clamp (n := i + 1) (by omega)))) ?_
  refine k_st (st2 := (.int (nI p) :: _)) (congrArg (fun z => Value.int z :: _) (show xs (i + 1) = nI p from hx1)) ?_
  refine k_callVI (n := 1) (q := 239) (pre := ([(ob, .inl (cy 4, 1, .inr (.inl (vp_updL ou 0 (h p).toInt64))))] ++ ((wXo b cy (a 0) r ((nx + 1) % 6) (min (sn + 1) 6) ln (svOf sk) (kpOf sk) ik bf ++ wRd r kd hg nu dg ng tk) ++ (wSky a cy (n - 1) lit (sDn h p n) (sDn t p n) s g kn lo lf nm ++ wOth sk cy (updS S nx (cLike (n, lit, h, t, s, g, kn, lo, lf, nm) (S nx))))))) (post := ([] : va_W)) (w2 := (([(ob, .inl (cy 4, 1, .inr (.inl (vp_updL ou 0 (h p).toInt64))))] ++ ((wXo b cy (a 0) r ((nx + 1) % 6) (min (sn + 1) 6) ln (svOf sk) (kpOf sk) ik bf ++ wRd r kd hg nu dg ng tk) ++ (wSky a cy (n - 1) lit (sDn h p n) (sDn t p n) s g kn lo lf nm ++ wOth sk cy (updS S nx (cLike (n, lit, h, t, s, g, kn, lo, lf, nm) (S nx)))))) ++ (wM aM cy 0 (min (smM + 1) 6) lnM ptM sgM fiM seM (mSt (nM - 1) oM (sDn hM p nM) (sDn tM p nM) sM gM knM loM lfM nmM) (mSave svM (mSt nM oM hM tM sM gM knM loM lfM nmM) smM) slM ikM bfM coM goM foM))) (As := [.int (nI p)]) (rest := []) C (c_X4_clear cy aM thM smM lnM ptM sgM fiM seM nM oM hM tM sM gM knM loM lfM nmM svM slM ikM bfM coM goM foM p hn hp hsm) gL_law_X4_clear rfl rfl rfl (by decide +kernel) (k_room hR (by decide)) (k_le hR (by omega)) (ci := 4) rfl 0 rfl rfl rfl (Nat.le_of_ble_eq_true rfl) (k_pre) (k_pre.symm) dL_law_236 rfl ?_
  refine k_st (st2 := (.int (h p) :: _)) (congrArg (fun z => Value.int z :: _) (show hM p = h p from (hH p hp).symm)) ?_
  refine k_istore (q := 241) (fr2 := [(6, .int (h p)), (5, .int 0), (4, .int (nI i)), (3, .ref ob), (2, .ref (aM 0)), (1, .ref (b 0)), (0, .ref sb)]) C dL_law_239 (by decide) rfl rfl ?_
  refine k_aload_n (q := 242) C 4 dL_law_241 rfl rfl ?_
  refine k_callVI (n := 0) (q := 245) (pre := ([(ob, .inl (cy 4, 1, .inr (.inl (vp_updL ou 0 (h p).toInt64))))] ++ ((wXo b cy (a 0) r ((nx + 1) % 6) (min (sn + 1) 6) ln (svOf sk) (kpOf sk) ik bf ++ wRd r kd hg nu dg ng tk) ++ (wSky a cy (n - 1) lit (sDn h p n) (sDn t p n) s g kn lo lf nm ++ wOth sk cy (updS S nx (cLike (n, lit, h, t, s, g, kn, lo, lf, nm) (S nx))))))) (post := ([] : va_W)) (w2 := (([(ob, .inl (cy 4, 1, .inr (.inl (vp_updL ou 0 (h p).toInt64))))] ++ ((wXo b cy (a 0) r ((nx + 1) % 6) (min (sn + 1) 6) ln (svOf sk) (kpOf sk) ik bf ++ wRd r kd hg nu dg ng tk) ++ (wSky a cy (n - 1) lit (sDn h p n) (sDn t p n) s g kn lo lf nm ++ wOth sk cy (updS S nx (cLike (n, lit, h, t, s, g, kn, lo, lf, nm) (S nx)))))) ++ (wM aM cy 0 (min (smM + 1) 6) lnM ptM sgM fiM seM (mSt (nM - 1) oM (sDn hM p nM) (sDn tM p nM) sM gM knM loM lfM nmM) (mSave svM (mSt nM oM hM tM sM gM knM loM lfM nmM) smM) slM ikM bfM coM goM foM))) (As := []) (rest := []) C (c_X4_thrown cy aM 0 (min (smM + 1) 6) lnM ptM sgM fiM seM (nM - 1) oM (sDn hM p nM) (sDn tM p nM) sM gM knM loM lfM nmM (mSave svM (mSt nM oM hM tM sM gM knM loM lfM nmM) smM) slM ikM bfM coM goM foM) gL_law_X4_thrown rfl rfl rfl (by decide +kernel) (k_room hR (by decide)) (k_le hR (by omega)) (ci := 4) rfl 0 rfl rfl rfl (Nat.le_of_ble_eq_true rfl) (k_pre) (k_pre.symm) dL_law_242 rfl ?_
  refine k_iload (q := 247) C 1 dL_law_245 rfl rfl ?_
  refine k_icmp_eq (tgt := 252) (q := 250) C dL_law_247 (by decide) rfl ?_ ?_
  · intro c_247
    refine k_iload (q := 254) C 1 dL_law_252 rfl rfl ?_
    refine k_if_ne (tgt := 269) (q := 257) C dL_law_254 (by decide) rfl ?_ ?_
    · exact fun c_254 => absurd c_254 (by decide)
    · intro c_254
      refine k_aload_n (q := 258) C 3 dL_law_257 rfl rfl ?_
      refine k_iconst (q := 259) (v := 0) C dL_law_258 (by decide) rfl ?_
      refine k_lald (q := 260) C 0 rfl (vp_in_nI (n := 0) (by decide) (by decide)) dL_law_259 rfl ?_
      refine k_st (st2 := (.long ((h p).toInt64) :: _)) (congrArg (fun z => Value.long z :: _) (show (vp_updL ou 0 (h p).toInt64) ((0 : Int32).toNatClampNeg) = (h p).toInt64 from if_pos rfl)) ?_
      refine k_iload (q := 262) C 0 dL_law_260 rfl rfl ?_
      refine k_i2l (q := 263) C dL_law_262 rfl ?_
      refine k_lcmp (q := 264) C dL_law_263 rfl ?_
      refine k_st (st2 := (.int 0 :: _)) (congrArg (fun z => Value.int z :: _) (show lg_cmp ((h p).toInt64) ((h p).toInt64) = 0 from lcmp_0 _)) ?_
      refine k_if_eq (tgt := 269) (q := 267) C dL_law_264 (by decide) rfl ?_ ?_
      · intro c_264
        refine k_goto (q := 1415) C dL_law_269 (by decide) ?_
        refine k_fr (fr2 := [(4, .int (nI i)), (3, .ref ob), (2, .ref (aM 0)), (1, .ref (b 0)), (0, .ref sb)]) ⟨[2, 3, 4, 5, 6], rfl⟩ ?_
        exact E ((nx + 1) % 6) (min (sn + 1) 6) ln (updS S nx (cLike (n, lit, h, t, s, g, kn, lo, lf, nm) (S nx))) ik bf kd hg nu dg ng tk ((n - 1, lit, sDn h p n, sDn t p n, s, g, kn, lo, lf, nm) : CK) (vp_updL ou 0 (h p).toInt64) 0 (min (smM + 1) 6) lnM ptM sgM fiM seM ((nM - 1, oM, sDn hM p nM, sDn tM p nM, sM, gM, knM, loM, lfM, nmM) : SK) (mSave svM (mSt nM oM hM tM sM gM knM loM lfM nmM) smM) slM ikM bfM coM goM foM (⟨r_drop hr hp, by omega, ring_save hri hr, kept_save hke hnx, hln, hl60, hbf, hb126⟩)
      · exact fun c_264 => absurd c_264 (by decide)
  · exact fun c_247 => absurd c_247 (by decide)
set_option maxHeartbeats 4000000 in
set_option maxRecDepth 100000 in
theorem lw_clear_e (cy : Nat → ClassId) (a : Nat → Nat) (b : Nat → Nat) (r : Nat) (nx : Nat) (sn : Nat) (ln : Nat) (sk : Nat → Nat → Nat) (S : Nat → CK) (ik : Nat → Int32) (bf : Nat → Nat) (kd : Nat) (hg : Nat) (nu : Nat) (dg : Nat) (ng : Bool) (tk : Bool) (n : Nat) (lit : Int32) (h : Nat → Int32) (t : Nat → Int32) (s : Nat → Int32) (g : Nat → Int32) (kn : Nat) (lo : Int32) (lf : Int32) (nm : Nat → Int32) (ob : Nat) (ou : Nat → Int64) (aM : Nat → Nat) (thM : Int32) (smM : Nat) (lnM : Nat) (ptM : Nat) (sgM : Nat) (fiM : Int32) (seM : Int32) (nM : Nat) (oM : Nat → Int32) (hM : Nat → Int32) (tM : Nat → Int32) (sM : Nat → Int32) (gM : Nat → Int32) (knM : Nat) (loM : Int32) (lfM : Int32) (nmM : Nat → Int32) (svM : Nat → Int32) (slM : Nat → Int32) (ikM : Nat → Int32) (bfM : Nat → Nat) (coM : Nat → Int32) (goM : Nat → Int32) (foM : Nat → Int32) (X : kX) (hR : xR X = room_1) (C : kC X 9 RL cL_law wsL_law cy) (Z : kZ (xA X) (xS X) (xS X).heap) (hst : (xL X).stackTraces = false) (sb i L ce sl : Nat) (xs : Nat → Int32) (hX : va_X sb L xs (xS X) (xS X).heap) (hbl : sb < (xS X).heap.size) (hbA : ¬ (xA X) sb) (hL : L ≤ 2048) (hi : i + 4 ≤ L) (hce : ce + 1 ≤ 620303 ∧ sl + 6 ≤ 7235195) (E : lwE X cy a b r sk ob aM sb i ce sl) (hgR : gR nx sn ln ik bf ((n, lit, h, t, s, g, kn, lo, lf, nm) : CK) S smM lnM ((nM, oM, hM, tM, sM, gM, knM, loM, lfM, nmM) : SK) svM slM ikM bfM) (hx : ¬ (0 ≤ xs (i + 1) ∧ xs (i + 1) < nI nM)) : kG X 9 ce sl (([(ob, .inl (cy 4, 1, .inr (.inl ou)))] ++ ((wXo b cy (a 0) r nx sn ln (svOf sk) (kpOf sk) ik bf ++ wRd r kd hg nu dg ng tk) ++ (wSky a cy n lit h t s g kn lo lf nm ++ wOth sk cy S))) ++ (wM aM cy thM smM lnM ptM sgM fiM seM (mSt nM oM hM tM sM gM knM loM lfM nmM) svM slM ikM bfM coM goM foM)) 216 [(4, .int (nI i)), (3, .ref ob), (2, .ref (aM 0)), (1, .ref (b 0)), (0, .ref sb)] [] := by
  obtain ⟨hr, hsn, hri, hke, hln, hl60, hbf, hb126⟩ := id hgR
  have hnx := hri.2.1
  have hsm := hri.1
  have hn := hr.1.1
  have en : n = nM := hr.2.1
  have el : lit = mLit oM := hr.2.2.1
  have hH := hr.2.2.2.1
  have hT := hr.2.2.2.2.1
  have hS := hr.2.2.2.2.2.1
  have hG := hr.2.2.2.2.2.2.1
  have ekn : kn = knM := hr.2.2.2.2.2.2.2.1
  have ho := hr.1.2.1
  have hs0 := hr.1.2.2.1
  have hs1 := hr.1.2.2.2.1
  have hk8 := hr.1.2.2.2.2.1
  have hn6 : n ≤ 6 := by rw [en]; exact hn
  have hkn8 : kn ≤ 8 := by rw [ekn]; exact hk8
  have hsn6 : sn ≤ 6 := by omega
  have hx2 : ¬ (0 ≤ xs (i + 1) ∧ xs (i + 1) < nI n) := by rw [en]; exact hx
  refine k_aload_n (q := 217) C 3 dL_law_216 rfl rfl ?_
  refine k_aload_n (q := 218) C 4 dL_law_217 rfl rfl ?_
  refine k_iload (q := 220) C 0 dL_law_218 rfl rfl ?_
  refine k_iconst (q := 221) (v := 1) C dL_law_220 (by decide) rfl ?_
  refine k_iadd (q := 222) C dL_law_221 rfl ?_
  refine k_st (st2 := (.int (nI (i + 1)) :: _)) (congrArg (fun z => Value.int z :: _) (show (nI i) + 1 = nI (i + 1) from nI_add i 1)) ?_
  refine k_sld (q := 223) C hX hbl hbA (vp_in_nI (n := i + 1) (by omega) (by omega)) dL_law_222 rfl ?_
  refine k_st (st2 := (.int (xs (i + 1)) :: _)) (congrArg (fun z => Value.int z :: _) (show xs (nI (i + 1)).toNatClampNeg = xs (i + 1) from congrArg xs (nI_clamp (n := i + 1) (by omega)))) ?_
  refine k_aload_n (q := 224) C 1 dL_law_223 rfl rfl ?_
  refine k_callSL (n := 3) (q := 227) (pre := ([] : va_W)) (post := (wM aM cy thM smM lnM ptM sgM fiM seM (mSt nM oM hM tM sM gM knM loM lfM nmM) svM slM ikM bfM coM goM foM)) (w2 := (([(ob, .inl (cy 4, 1, .inr (.inl ou)))] ++ ((wXo b cy (a 0) r nx sn ln (svOf sk) (kpOf sk) ik bf ++ wRd r kd hg nu dg ng tk) ++ (wSky a cy n lit h t s g kn lo lf nm ++ wOth sk cy S))) ++ (wM aM cy thM smM lnM ptM sgM fiM seM (mSt nM oM hM tM sM gM knM loM lfM nmM) svM slM ikM bfM coM goM foM))) (As := [.ref (b 0), .int (xs (i + 1)), .ref ob]) (rest := []) C Z hst (c_L_clear_e cy a b r nx sn ln sk S ik bf kd hg nu dg ng tk n lit h t s g kn lo lf nm ob ou (xs (i + 1)) hx2) gL_law_L_clear rfl rfl rfl (by decide +kernel) (k_room hR (by decide)) (k_le hR (by omega)) rfl rfl (Nat.le_of_ble_eq_true rfl) (rfl) (rfl) dL_law_224 rfl ?_
  refine k_istore (q := 229) (fr2 := [(5, .int 1), (4, .int (nI i)), (3, .ref ob), (2, .ref (aM 0)), (1, .ref (b 0)), (0, .ref sb)]) C dL_law_227 (by decide) rfl rfl ?_
  refine k_aload_n (q := 230) C 3 dL_law_229 rfl rfl ?_
  refine k_aload_n (q := 231) C 5 dL_law_230 rfl rfl ?_
  refine k_iload (q := 233) C 1 dL_law_231 rfl rfl ?_
  refine k_iconst (q := 234) (v := 1) C dL_law_233 (by decide) rfl ?_
  refine k_iadd (q := 235) C dL_law_234 rfl ?_
  refine k_st (st2 := (.int (nI (i + 1)) :: _)) (congrArg (fun z => Value.int z :: _) (show (nI i) + 1 = nI (i + 1) from nI_add i 1)) ?_
  refine k_sld (q := 236) C hX hbl hbA (vp_in_nI (n := i + 1) (by omega) (by omega)) dL_law_235 rfl ?_
  refine k_st (st2 := (.int (xs (i + 1)) :: _)) (congrArg (fun z => Value.int z :: _) (show xs (nI (i + 1)).toNatClampNeg = xs (i + 1) from congrArg xs (nI_clamp (n := i + 1) (by omega)))) ?_
  refine k_callVI (n := 1) (q := 239) (pre := ([(ob, .inl (cy 4, 1, .inr (.inl ou)))] ++ ((wXo b cy (a 0) r nx sn ln (svOf sk) (kpOf sk) ik bf ++ wRd r kd hg nu dg ng tk) ++ (wSky a cy n lit h t s g kn lo lf nm ++ wOth sk cy S)))) (post := ([] : va_W)) (w2 := (([(ob, .inl (cy 4, 1, .inr (.inl ou)))] ++ ((wXo b cy (a 0) r nx sn ln (svOf sk) (kpOf sk) ik bf ++ wRd r kd hg nu dg ng tk) ++ (wSky a cy n lit h t s g kn lo lf nm ++ wOth sk cy S))) ++ (wM aM cy 1 smM lnM ptM sgM fiM seM (mSt nM oM hM tM sM gM knM loM lfM nmM) svM slM ikM bfM coM goM foM))) (As := [.int (xs (i + 1))]) (rest := []) C (c_X4_clear_e cy aM thM smM lnM ptM sgM fiM seM nM oM hM tM sM gM knM loM lfM nmM svM slM ikM bfM coM goM foM (xs (i + 1)) hn hx) gL_law_X4_clear rfl rfl rfl (by decide +kernel) (k_room hR (by decide)) (k_le hR (by omega)) (ci := 4) rfl 0 rfl rfl rfl (Nat.le_of_ble_eq_true rfl) (k_pre) (k_pre.symm) dL_law_236 rfl ?_
  refine k_istore (q := 241) (fr2 := [(6, .int 0), (5, .int 1), (4, .int (nI i)), (3, .ref ob), (2, .ref (aM 0)), (1, .ref (b 0)), (0, .ref sb)]) C dL_law_239 (by decide) rfl rfl ?_
  refine k_aload_n (q := 242) C 4 dL_law_241 rfl rfl ?_
  refine k_callVI (n := 0) (q := 245) (pre := ([(ob, .inl (cy 4, 1, .inr (.inl ou)))] ++ ((wXo b cy (a 0) r nx sn ln (svOf sk) (kpOf sk) ik bf ++ wRd r kd hg nu dg ng tk) ++ (wSky a cy n lit h t s g kn lo lf nm ++ wOth sk cy S)))) (post := ([] : va_W)) (w2 := (([(ob, .inl (cy 4, 1, .inr (.inl ou)))] ++ ((wXo b cy (a 0) r nx sn ln (svOf sk) (kpOf sk) ik bf ++ wRd r kd hg nu dg ng tk) ++ (wSky a cy n lit h t s g kn lo lf nm ++ wOth sk cy S))) ++ (wM aM cy 1 smM lnM ptM sgM fiM seM (mSt nM oM hM tM sM gM knM loM lfM nmM) svM slM ikM bfM coM goM foM))) (As := []) (rest := []) C (c_X4_thrown cy aM 1 smM lnM ptM sgM fiM seM nM oM hM tM sM gM knM loM lfM nmM svM slM ikM bfM coM goM foM) gL_law_X4_thrown rfl rfl rfl (by decide +kernel) (k_room hR (by decide)) (k_le hR (by omega)) (ci := 4) rfl 0 rfl rfl rfl (Nat.le_of_ble_eq_true rfl) (k_pre) (k_pre.symm) dL_law_242 rfl ?_
  refine k_iload (q := 247) C 1 dL_law_245 rfl rfl ?_
  refine k_icmp_eq (tgt := 252) (q := 250) C dL_law_247 (by decide) rfl ?_ ?_
  · intro c_247
    refine k_iload (q := 254) C 1 dL_law_252 rfl rfl ?_
    refine k_if_ne (tgt := 269) (q := 257) C dL_law_254 (by decide) rfl ?_ ?_
    · intro c_254
      refine k_goto (q := 1415) C dL_law_269 (by decide) ?_
      refine k_fr (fr2 := [(4, .int (nI i)), (3, .ref ob), (2, .ref (aM 0)), (1, .ref (b 0)), (0, .ref sb)]) ⟨[2, 3, 4, 5, 6], rfl⟩ ?_
      exact E nx sn ln S ik bf kd hg nu dg ng tk ((n, lit, h, t, s, g, kn, lo, lf, nm) : CK) ou 1 smM lnM ptM sgM fiM seM ((nM, oM, hM, tM, sM, gM, knM, loM, lfM, nmM) : SK) svM slM ikM bfM coM goM foM (hgR)
    · exact fun c_254 => absurd c_254 (by decide)
  · exact fun c_247 => absurd c_247 (by decide)
set_option maxHeartbeats 4000000 in
set_option maxRecDepth 100000 in
theorem lw_clearThin_e (cy : Nat → ClassId) (a : Nat → Nat) (b : Nat → Nat) (r : Nat) (nx : Nat) (sn : Nat) (ln : Nat) (sk : Nat → Nat → Nat) (S : Nat → CK) (ik : Nat → Int32) (bf : Nat → Nat) (kd : Nat) (hg : Nat) (nu : Nat) (dg : Nat) (ng : Bool) (tk : Bool) (n : Nat) (lit : Int32) (h : Nat → Int32) (t : Nat → Int32) (s : Nat → Int32) (g : Nat → Int32) (kn : Nat) (lo : Int32) (lf : Int32) (nm : Nat → Int32) (ob : Nat) (ou : Nat → Int64) (aM : Nat → Nat) (thM : Int32) (smM : Nat) (lnM : Nat) (ptM : Nat) (sgM : Nat) (fiM : Int32) (seM : Int32) (nM : Nat) (oM : Nat → Int32) (hM : Nat → Int32) (tM : Nat → Int32) (sM : Nat → Int32) (gM : Nat → Int32) (knM : Nat) (loM : Int32) (lfM : Int32) (nmM : Nat → Int32) (svM : Nat → Int32) (slM : Nat → Int32) (ikM : Nat → Int32) (bfM : Nat → Nat) (coM : Nat → Int32) (goM : Nat → Int32) (foM : Nat → Int32) (X : kX) (hR : xR X = room_1) (C : kC X 9 RL cL_law wsL_law cy) (Z : kZ (xA X) (xS X) (xS X).heap) (hst : (xL X).stackTraces = false) (sb i L ce sl : Nat) (xs : Nat → Int32) (hX : va_X sb L xs (xS X) (xS X).heap) (hbl : sb < (xS X).heap.size) (hbA : ¬ (xA X) sb) (hL : L ≤ 2048) (hi : i + 4 ≤ L) (hce : ce + 1 ≤ 620303 ∧ sl + 6 ≤ 7235195) (E : lwE X cy a b r sk ob aM sb i ce sl) (hgR : gR nx sn ln ik bf ((n, lit, h, t, s, g, kn, lo, lf, nm) : CK) S smM lnM ((nM, oM, hM, tM, sM, gM, knM, loM, lfM, nmM) : SK) svM slM ikM bfM) (hx : ¬ (1 ≤ xs (i + 1) ∧ xs (i + 1) ≤ 100)) : kG X 9 ce sl (([(ob, .inl (cy 4, 1, .inr (.inl ou)))] ++ ((wXo b cy (a 0) r nx sn ln (svOf sk) (kpOf sk) ik bf ++ wRd r kd hg nu dg ng tk) ++ (wSky a cy n lit h t s g kn lo lf nm ++ wOth sk cy S))) ++ (wM aM cy thM smM lnM ptM sgM fiM seM (mSt nM oM hM tM sM gM knM loM lfM nmM) svM slM ikM bfM coM goM foM)) 272 [(4, .int (nI i)), (3, .ref ob), (2, .ref (aM 0)), (1, .ref (b 0)), (0, .ref sb)] [] := by
  obtain ⟨hr, hsn, hri, hke, hln, hl60, hbf, hb126⟩ := id hgR
  have hnx := hri.2.1
  have hsm := hri.1
  have hn := hr.1.1
  have en : n = nM := hr.2.1
  have el : lit = mLit oM := hr.2.2.1
  have hH := hr.2.2.2.1
  have hT := hr.2.2.2.2.1
  have hS := hr.2.2.2.2.2.1
  have hG := hr.2.2.2.2.2.2.1
  have ekn : kn = knM := hr.2.2.2.2.2.2.2.1
  have ho := hr.1.2.1
  have hs0 := hr.1.2.2.1
  have hs1 := hr.1.2.2.2.1
  have hk8 := hr.1.2.2.2.2.1
  have hn6 : n ≤ 6 := by rw [en]; exact hn
  have hkn8 : kn ≤ 8 := by rw [ekn]; exact hk8
  have hsn6 : sn ≤ 6 := by omega
  refine k_aload_n (q := 273) C 3 dL_law_272 rfl rfl ?_
  refine k_aload_n (q := 274) C 4 dL_law_273 rfl rfl ?_
  refine k_iload (q := 276) C 0 dL_law_274 rfl rfl ?_
  refine k_iconst (q := 277) (v := 1) C dL_law_276 (by decide) rfl ?_
  refine k_iadd (q := 278) C dL_law_277 rfl ?_
  refine k_st (st2 := (.int (nI (i + 1)) :: _)) (congrArg (fun z => Value.int z :: _) (show (nI i) + 1 = nI (i + 1) from nI_add i 1)) ?_
  refine k_sld (q := 279) C hX hbl hbA (vp_in_nI (n := i + 1) (by omega) (by omega)) dL_law_278 rfl ?_
  refine k_st (st2 := (.int (xs (i + 1)) :: _)) (congrArg (fun z => Value.int z :: _) (show xs (nI (i + 1)).toNatClampNeg = xs (i + 1) from congrArg xs (nI_clamp (n := i + 1) (by omega)))) ?_
  refine k_aload_n (q := 280) C 1 dL_law_279 rfl rfl ?_
  refine k_callSL (n := 3) (q := 283) (pre := ([] : va_W)) (post := (wM aM cy thM smM lnM ptM sgM fiM seM (mSt nM oM hM tM sM gM knM loM lfM nmM) svM slM ikM bfM coM goM foM)) (w2 := (([(ob, .inl (cy 4, 1, .inr (.inl ou)))] ++ ((wXo b cy (a 0) r nx sn ln (svOf sk) (kpOf sk) ik bf ++ wRd r kd hg nu dg ng tk) ++ (wSky a cy n lit h t s g kn lo lf nm ++ wOth sk cy S))) ++ (wM aM cy thM smM lnM ptM sgM fiM seM (mSt nM oM hM tM sM gM knM loM lfM nmM) svM slM ikM bfM coM goM foM))) (As := [.ref (b 0), .int (xs (i + 1)), .ref ob]) (rest := []) C Z hst (c_L_clearThin_e cy a b r nx sn ln sk S ik bf kd hg nu dg ng tk n lit h t s g kn lo lf nm ob ou (xs (i + 1)) hx) gL_law_L_clearThin rfl rfl rfl (by decide +kernel) (k_room hR (by decide)) (k_le hR (by omega)) rfl rfl (Nat.le_of_ble_eq_true rfl) (rfl) (rfl) dL_law_280 rfl ?_
  refine k_istore (q := 285) (fr2 := [(5, .int 1), (4, .int (nI i)), (3, .ref ob), (2, .ref (aM 0)), (1, .ref (b 0)), (0, .ref sb)]) C dL_law_283 (by decide) rfl rfl ?_
  refine k_aload_n (q := 286) C 3 dL_law_285 rfl rfl ?_
  refine k_aload_n (q := 287) C 5 dL_law_286 rfl rfl ?_
  refine k_iload (q := 289) C 1 dL_law_287 rfl rfl ?_
  refine k_iconst (q := 290) (v := 1) C dL_law_289 (by decide) rfl ?_
  refine k_iadd (q := 291) C dL_law_290 rfl ?_
  refine k_st (st2 := (.int (nI (i + 1)) :: _)) (congrArg (fun z => Value.int z :: _) (show (nI i) + 1 = nI (i + 1) from nI_add i 1)) ?_
  refine k_sld (q := 292) C hX hbl hbA (vp_in_nI (n := i + 1) (by omega) (by omega)) dL_law_291 rfl ?_
  refine k_st (st2 := (.int (xs (i + 1)) :: _)) (congrArg (fun z => Value.int z :: _) (show xs (nI (i + 1)).toNatClampNeg = xs (i + 1) from congrArg xs (nI_clamp (n := i + 1) (by omega)))) ?_
  refine k_callVI (n := 1) (q := 295) (pre := ([(ob, .inl (cy 4, 1, .inr (.inl ou)))] ++ ((wXo b cy (a 0) r nx sn ln (svOf sk) (kpOf sk) ik bf ++ wRd r kd hg nu dg ng tk) ++ (wSky a cy n lit h t s g kn lo lf nm ++ wOth sk cy S)))) (post := ([] : va_W)) (w2 := (([(ob, .inl (cy 4, 1, .inr (.inl ou)))] ++ ((wXo b cy (a 0) r nx sn ln (svOf sk) (kpOf sk) ik bf ++ wRd r kd hg nu dg ng tk) ++ (wSky a cy n lit h t s g kn lo lf nm ++ wOth sk cy S))) ++ (wM aM cy 1 smM lnM ptM sgM fiM seM (mSt nM oM hM tM sM gM knM loM lfM nmM) svM slM ikM bfM coM goM foM))) (As := [.int (xs (i + 1))]) (rest := []) C (c_X4_clearThin_e cy aM thM smM lnM ptM sgM fiM seM nM oM hM tM sM gM knM loM lfM nmM svM slM ikM bfM coM goM foM (xs (i + 1)) hx) gL_law_X4_clearThin rfl rfl rfl (by decide +kernel) (k_room hR (by decide)) (k_le hR (by omega)) (ci := 4) rfl 0 rfl rfl rfl (Nat.le_of_ble_eq_true rfl) (k_pre) (k_pre.symm) dL_law_292 rfl ?_
  refine k_istore (q := 297) (fr2 := [(6, .int 0), (5, .int 1), (4, .int (nI i)), (3, .ref ob), (2, .ref (aM 0)), (1, .ref (b 0)), (0, .ref sb)]) C dL_law_295 (by decide) rfl rfl ?_
  refine k_aload_n (q := 298) C 4 dL_law_297 rfl rfl ?_
  refine k_callVI (n := 0) (q := 301) (pre := ([(ob, .inl (cy 4, 1, .inr (.inl ou)))] ++ ((wXo b cy (a 0) r nx sn ln (svOf sk) (kpOf sk) ik bf ++ wRd r kd hg nu dg ng tk) ++ (wSky a cy n lit h t s g kn lo lf nm ++ wOth sk cy S)))) (post := ([] : va_W)) (w2 := (([(ob, .inl (cy 4, 1, .inr (.inl ou)))] ++ ((wXo b cy (a 0) r nx sn ln (svOf sk) (kpOf sk) ik bf ++ wRd r kd hg nu dg ng tk) ++ (wSky a cy n lit h t s g kn lo lf nm ++ wOth sk cy S))) ++ (wM aM cy 1 smM lnM ptM sgM fiM seM (mSt nM oM hM tM sM gM knM loM lfM nmM) svM slM ikM bfM coM goM foM))) (As := []) (rest := []) C (c_X4_thrown cy aM 1 smM lnM ptM sgM fiM seM nM oM hM tM sM gM knM loM lfM nmM svM slM ikM bfM coM goM foM) gL_law_X4_thrown rfl rfl rfl (by decide +kernel) (k_room hR (by decide)) (k_le hR (by omega)) (ci := 4) rfl 0 rfl rfl rfl (Nat.le_of_ble_eq_true rfl) (k_pre) (k_pre.symm) dL_law_298 rfl ?_
  refine k_iload (q := 303) C 1 dL_law_301 rfl rfl ?_
  refine k_icmp_eq (tgt := 308) (q := 306) C dL_law_303 (by decide) rfl ?_ ?_
  · intro c_303
    refine k_iload (q := 310) C 1 dL_law_308 rfl rfl ?_
    refine k_if_ne (tgt := 325) (q := 313) C dL_law_310 (by decide) rfl ?_ ?_
    · intro c_310
      refine k_goto (q := 1415) C dL_law_325 (by decide) ?_
      refine k_fr (fr2 := [(4, .int (nI i)), (3, .ref ob), (2, .ref (aM 0)), (1, .ref (b 0)), (0, .ref sb)]) ⟨[2, 3, 4, 5, 6], rfl⟩ ?_
      exact E nx sn ln S ik bf kd hg nu dg ng tk ((n, lit, h, t, s, g, kn, lo, lf, nm) : CK) ou 1 smM lnM ptM sgM fiM seM ((nM, oM, hM, tM, sM, gM, knM, loM, lfM, nmM) : SK) svM slM ikM bfM coM goM foM (hgR)
    · exact fun c_310 => absurd c_310 (by decide)
  · exact fun c_303 => absurd c_303 (by decide)
set_option maxHeartbeats 4000000 in
set_option maxRecDepth 100000 in
theorem lw_aim (cy : Nat → ClassId) (a : Nat → Nat) (b : Nat → Nat) (r : Nat) (nx : Nat) (sn : Nat) (ln : Nat) (sk : Nat → Nat → Nat) (S : Nat → CK) (ik : Nat → Int32) (bf : Nat → Nat) (kd : Nat) (hg : Nat) (nu : Nat) (dg : Nat) (ng : Bool) (tk : Bool) (n : Nat) (lit : Int32) (h : Nat → Int32) (t : Nat → Int32) (s : Nat → Int32) (g : Nat → Int32) (kn : Nat) (lo : Int32) (lf : Int32) (nm : Nat → Int32) (ob : Nat) (ou : Nat → Int64) (aM : Nat → Nat) (thM : Int32) (smM : Nat) (lnM : Nat) (ptM : Nat) (sgM : Nat) (fiM : Int32) (seM : Int32) (nM : Nat) (oM : Nat → Int32) (hM : Nat → Int32) (tM : Nat → Int32) (sM : Nat → Int32) (gM : Nat → Int32) (knM : Nat) (loM : Int32) (lfM : Int32) (nmM : Nat → Int32) (svM : Nat → Int32) (slM : Nat → Int32) (ikM : Nat → Int32) (bfM : Nat → Nat) (coM : Nat → Int32) (goM : Nat → Int32) (foM : Nat → Int32) (j : Nat) (X : kX) (hR : xR X = room_1) (C : kC X 9 RL cL_law wsL_law cy) (Z : kZ (xA X) (xS X) (xS X).heap) (hst : (xL X).stackTraces = false) (sb i L ce sl : Nat) (xs : Nat → Int32) (hX : va_X sb L xs (xS X) (xS X).heap) (hbl : sb < (xS X).heap.size) (hbA : ¬ (xA X) sb) (hL : L ≤ 2048) (hi : i + 4 ≤ L) (hce : ce + 1 ≤ 620303 ∧ sl + 6 ≤ 7235195) (E : lwE X cy a b r sk ob aM sb i ce sl) (hgR : gR nx sn ln ik bf ((n, lit, h, t, s, g, kn, lo, lf, nm) : CK) S smM lnM ((nM, oM, hM, tM, sM, gM, knM, loM, lfM, nmM) : SK) svM slM ikM bfM) (hj : j < 2) (hx1 : xs (i + 1) = nI j) (hy : -30 ≤ xs (i + 2) ∧ xs (i + 2) ≤ 30) : kG X 9 ce sl (([(ob, .inl (cy 4, 1, .inr (.inl ou)))] ++ ((wXo b cy (a 0) r nx sn ln (svOf sk) (kpOf sk) ik bf ++ wRd r kd hg nu dg ng tk) ++ (wSky a cy n lit h t s g kn lo lf nm ++ wOth sk cy S))) ++ (wM aM cy thM smM lnM ptM sgM fiM seM (mSt nM oM hM tM sM gM knM loM lfM nmM) svM slM ikM bfM coM goM foM)) 328 [(4, .int (nI i)), (3, .ref ob), (2, .ref (aM 0)), (1, .ref (b 0)), (0, .ref sb)] [] := by
  obtain ⟨hr, hsn, hri, hke, hln, hl60, hbf, hb126⟩ := id hgR
  have hnx := hri.2.1
  have hsm := hri.1
  have hn := hr.1.1
  have en : n = nM := hr.2.1
  have el : lit = mLit oM := hr.2.2.1
  have hH := hr.2.2.2.1
  have hT := hr.2.2.2.2.1
  have hS := hr.2.2.2.2.2.1
  have hG := hr.2.2.2.2.2.2.1
  have ekn : kn = knM := hr.2.2.2.2.2.2.2.1
  have ho := hr.1.2.1
  have hs0 := hr.1.2.2.1
  have hs1 := hr.1.2.2.2.1
  have hk8 := hr.1.2.2.2.2.1
  have hn6 : n ≤ 6 := by rw [en]; exact hn
  have hkn8 : kn ≤ 8 := by rw [ekn]; exact hk8
  have hsn6 : sn ≤ 6 := by omega
  refine k_aload_n (q := 329) C 3 dL_law_328 rfl rfl ?_
  refine k_aload_n (q := 330) C 4 dL_law_329 rfl rfl ?_
  refine k_iload (q := 332) C 0 dL_law_330 rfl rfl ?_
  refine k_iconst (q := 333) (v := 1) C dL_law_332 (by decide) rfl ?_
  refine k_iadd (q := 334) C dL_law_333 rfl ?_
  refine k_st (st2 := (.int (nI (i + 1)) :: _)) (congrArg (fun z => Value.int z :: _) (show (nI i) + 1 = nI (i + 1) from nI_add i 1)) ?_
  refine k_sld (q := 335) C hX hbl hbA (vp_in_nI (n := i + 1) (by omega) (by omega)) dL_law_334 rfl ?_
  refine k_st (st2 := (.int (xs (i + 1)) :: _)) (congrArg (fun z => Value.int z :: _) (show xs (nI (i + 1)).toNatClampNeg = xs (i + 1) from congrArg xs (nI_clamp (n := i + 1) (by omega)))) ?_
  refine k_st (st2 := (.int (nI j) :: _)) (congrArg (fun z => Value.int z :: _) (show xs (i + 1) = nI j from hx1)) ?_
  refine k_aload_n (q := 336) C 4 dL_law_335 rfl rfl ?_
  refine k_iload (q := 338) C 0 dL_law_336 rfl rfl ?_
  refine k_iconst (q := 339) (v := 2) C dL_law_338 (by decide) rfl ?_
  refine k_iadd (q := 340) C dL_law_339 rfl ?_
  refine k_st (st2 := (.int (nI (i + 2)) :: _)) (congrArg (fun z => Value.int z :: _) (show (nI i) + 2 = nI (i + 2) from nI_add i 2)) ?_
  refine k_sld (q := 341) C hX hbl hbA (vp_in_nI (n := i + 2) (by omega) (by omega)) dL_law_340 rfl ?_
  refine k_st (st2 := (.int (xs (i + 2)) :: _)) (congrArg (fun z => Value.int z :: _) (show xs (nI (i + 2)).toNatClampNeg = xs (i + 2) from congrArg xs (nI_clamp (n := i + 2) (by omega)))) ?_
  refine k_aload_n (q := 342) C 1 dL_law_341 rfl rfl ?_
  refine k_callSL (n := 4) (q := 345) (pre := ([] : va_W)) (post := (wM aM cy thM smM lnM ptM sgM fiM seM (mSt nM oM hM tM sM gM knM loM lfM nmM) svM slM ikM bfM coM goM foM)) (w2 := (([(ob, .inl (cy 4, 1, .inr (.inl (vp_updL ou 0 (s j).toInt64))))] ++ ((wXo b cy (a 0) r ((nx + 1) % 6) (min (sn + 1) 6) ln (svOf sk) (kpOf sk) ik bf ++ wRd r kd hg nu dg ng tk) ++ (wSky a cy n lit h t (upd s j (xs (i + 2))) g kn lo lf nm ++ wOth sk cy (updS S nx (cLike (n, lit, h, t, s, g, kn, lo, lf, nm) (S nx)))))) ++ (wM aM cy thM smM lnM ptM sgM fiM seM (mSt nM oM hM tM sM gM knM loM lfM nmM) svM slM ikM bfM coM goM foM))) (As := [.ref (b 0), .int (nI j), .int (xs (i + 2)), .ref ob]) (rest := []) C Z hst (c_L_aim cy a b r nx sn ln sk S ik bf kd hg nu dg ng tk n lit h t s g kn lo lf nm ob ou j (xs (i + 2)) hnx hsn6 hj hy) gL_law_L_aim rfl rfl rfl (by decide +kernel) (k_room hR (by decide)) (k_le hR (by omega)) rfl rfl (Nat.le_of_ble_eq_true rfl) (rfl) (rfl) dL_law_342 rfl ?_
  refine k_istore (q := 347) (fr2 := [(5, .int 0), (4, .int (nI i)), (3, .ref ob), (2, .ref (aM 0)), (1, .ref (b 0)), (0, .ref sb)]) C dL_law_345 (by decide) rfl rfl ?_
  refine k_aload_n (q := 348) C 3 dL_law_347 rfl rfl ?_
  refine k_aload_n (q := 349) C 5 dL_law_348 rfl rfl ?_
  refine k_iload (q := 351) C 1 dL_law_349 rfl rfl ?_
  refine k_iconst (q := 352) (v := 1) C dL_law_351 (by decide) rfl ?_
  refine k_iadd (q := 353) C dL_law_352 rfl ?_
  refine k_st (st2 := (.int (nI (i + 1)) :: _)) (congrArg (fun z => Value.int z :: _) (show (nI i) + 1 = nI (i + 1) from nI_add i 1)) ?_
  refine k_sld (q := 354) C hX hbl hbA (vp_in_nI (n := i + 1) (by omega) (by omega)) dL_law_353 rfl ?_
  refine k_st (st2 := (.int (xs (i + 1)) :: _)) (congrArg (fun z => Value.int z :: _) (show xs (nI (i + 1)).toNatClampNeg = xs (i + 1) from congrArg xs (nI_clamp (n := i + 1) (by omega)))) ?_
  refine k_st (st2 := (.int (nI j) :: _)) (congrArg (fun z => Value.int z :: _) (show xs (i + 1) = nI j from hx1)) ?_
  refine k_aload_n (q := 355) C 5 dL_law_354 rfl rfl ?_
  refine k_iload (q := 357) C 1 dL_law_355 rfl rfl ?_
  refine k_iconst (q := 358) (v := 2) C dL_law_357 (by decide) rfl ?_
  refine k_iadd (q := 359) C dL_law_358 rfl ?_
  refine k_st (st2 := (.int (nI (i + 2)) :: _)) (congrArg (fun z => Value.int z :: _) (show (nI i) + 2 = nI (i + 2) from nI_add i 2)) ?_
  refine k_sld (q := 360) C hX hbl hbA (vp_in_nI (n := i + 2) (by omega) (by omega)) dL_law_359 rfl ?_
  refine k_st (st2 := (.int (xs (i + 2)) :: _)) (congrArg (fun z => Value.int z :: _) (show xs (nI (i + 2)).toNatClampNeg = xs (i + 2) from congrArg xs (nI_clamp (n := i + 2) (by omega)))) ?_
  refine k_callVI (n := 2) (q := 363) (pre := ([(ob, .inl (cy 4, 1, .inr (.inl (vp_updL ou 0 (s j).toInt64))))] ++ ((wXo b cy (a 0) r ((nx + 1) % 6) (min (sn + 1) 6) ln (svOf sk) (kpOf sk) ik bf ++ wRd r kd hg nu dg ng tk) ++ (wSky a cy n lit h t (upd s j (xs (i + 2))) g kn lo lf nm ++ wOth sk cy (updS S nx (cLike (n, lit, h, t, s, g, kn, lo, lf, nm) (S nx))))))) (post := ([] : va_W)) (w2 := (([(ob, .inl (cy 4, 1, .inr (.inl (vp_updL ou 0 (s j).toInt64))))] ++ ((wXo b cy (a 0) r ((nx + 1) % 6) (min (sn + 1) 6) ln (svOf sk) (kpOf sk) ik bf ++ wRd r kd hg nu dg ng tk) ++ (wSky a cy n lit h t (upd s j (xs (i + 2))) g kn lo lf nm ++ wOth sk cy (updS S nx (cLike (n, lit, h, t, s, g, kn, lo, lf, nm) (S nx)))))) ++ (wM aM cy 0 (min (smM + 1) 6) lnM ptM sgM fiM seM (mSt nM oM hM tM (upd sM j (xs (i + 2))) gM knM loM lfM nmM) (mSave svM (mSt nM oM hM tM sM gM knM loM lfM nmM) smM) slM ikM bfM coM goM foM))) (As := [.int (nI j), .int (xs (i + 2))]) (rest := []) C (c_X4_aim cy aM thM smM lnM ptM sgM fiM seM nM oM hM tM sM gM knM loM lfM nmM svM slM ikM bfM coM goM foM j (xs (i + 2)) hj hy hsm) gL_law_X4_aim rfl rfl rfl (by decide +kernel) (k_room hR (by decide)) (k_le hR (by omega)) (ci := 4) rfl 0 rfl rfl rfl (Nat.le_of_ble_eq_true rfl) (k_pre) (k_pre.symm) dL_law_360 rfl ?_
  refine k_st (st2 := (.int (s j) :: _)) (congrArg (fun z => Value.int z :: _) (show sM j = s j from (hS j hj).symm)) ?_
  refine k_istore (q := 365) (fr2 := [(6, .int (s j)), (5, .int 0), (4, .int (nI i)), (3, .ref ob), (2, .ref (aM 0)), (1, .ref (b 0)), (0, .ref sb)]) C dL_law_363 (by decide) rfl rfl ?_
  refine k_aload_n (q := 366) C 4 dL_law_365 rfl rfl ?_
  refine k_callVI (n := 0) (q := 369) (pre := ([(ob, .inl (cy 4, 1, .inr (.inl (vp_updL ou 0 (s j).toInt64))))] ++ ((wXo b cy (a 0) r ((nx + 1) % 6) (min (sn + 1) 6) ln (svOf sk) (kpOf sk) ik bf ++ wRd r kd hg nu dg ng tk) ++ (wSky a cy n lit h t (upd s j (xs (i + 2))) g kn lo lf nm ++ wOth sk cy (updS S nx (cLike (n, lit, h, t, s, g, kn, lo, lf, nm) (S nx))))))) (post := ([] : va_W)) (w2 := (([(ob, .inl (cy 4, 1, .inr (.inl (vp_updL ou 0 (s j).toInt64))))] ++ ((wXo b cy (a 0) r ((nx + 1) % 6) (min (sn + 1) 6) ln (svOf sk) (kpOf sk) ik bf ++ wRd r kd hg nu dg ng tk) ++ (wSky a cy n lit h t (upd s j (xs (i + 2))) g kn lo lf nm ++ wOth sk cy (updS S nx (cLike (n, lit, h, t, s, g, kn, lo, lf, nm) (S nx)))))) ++ (wM aM cy 0 (min (smM + 1) 6) lnM ptM sgM fiM seM (mSt nM oM hM tM (upd sM j (xs (i + 2))) gM knM loM lfM nmM) (mSave svM (mSt nM oM hM tM sM gM knM loM lfM nmM) smM) slM ikM bfM coM goM foM))) (As := []) (rest := []) C (c_X4_thrown cy aM 0 (min (smM + 1) 6) lnM ptM sgM fiM seM nM oM hM tM (upd sM j (xs (i + 2))) gM knM loM lfM nmM (mSave svM (mSt nM oM hM tM sM gM knM loM lfM nmM) smM) slM ikM bfM coM goM foM) gL_law_X4_thrown rfl rfl rfl (by decide +kernel) (k_room hR (by decide)) (k_le hR (by omega)) (ci := 4) rfl 0 rfl rfl rfl (Nat.le_of_ble_eq_true rfl) (k_pre) (k_pre.symm) dL_law_366 rfl ?_
  refine k_iload (q := 371) C 1 dL_law_369 rfl rfl ?_
  refine k_icmp_eq (tgt := 376) (q := 374) C dL_law_371 (by decide) rfl ?_ ?_
  · intro c_371
    refine k_iload (q := 378) C 1 dL_law_376 rfl rfl ?_
    refine k_if_ne (tgt := 393) (q := 381) C dL_law_378 (by decide) rfl ?_ ?_
    · exact fun c_378 => absurd c_378 (by decide)
    · intro c_378
      refine k_aload_n (q := 382) C 3 dL_law_381 rfl rfl ?_
      refine k_iconst (q := 383) (v := 0) C dL_law_382 (by decide) rfl ?_
      refine k_lald (q := 384) C 0 rfl (vp_in_nI (n := 0) (by decide) (by decide)) dL_law_383 rfl ?_
      refine k_st (st2 := (.long ((s j).toInt64) :: _)) (congrArg (fun z => Value.long z :: _) (show (vp_updL ou 0 (s j).toInt64) ((0 : Int32).toNatClampNeg) = (s j).toInt64 from if_pos rfl)) ?_
      refine k_iload (q := 386) C 0 dL_law_384 rfl rfl ?_
      refine k_i2l (q := 387) C dL_law_386 rfl ?_
      refine k_lcmp (q := 388) C dL_law_387 rfl ?_
      refine k_st (st2 := (.int 0 :: _)) (congrArg (fun z => Value.int z :: _) (show lg_cmp ((s j).toInt64) ((s j).toInt64) = 0 from lcmp_0 _)) ?_
      refine k_if_eq (tgt := 393) (q := 391) C dL_law_388 (by decide) rfl ?_ ?_
      · intro c_388
        refine k_goto (q := 1415) C dL_law_393 (by decide) ?_
        refine k_fr (fr2 := [(4, .int (nI i)), (3, .ref ob), (2, .ref (aM 0)), (1, .ref (b 0)), (0, .ref sb)]) ⟨[2, 3, 4, 5, 6], rfl⟩ ?_
        exact E ((nx + 1) % 6) (min (sn + 1) 6) ln (updS S nx (cLike (n, lit, h, t, s, g, kn, lo, lf, nm) (S nx))) ik bf kd hg nu dg ng tk ((n, lit, h, t, upd s j (xs (i + 2)), g, kn, lo, lf, nm) : CK) (vp_updL ou 0 (s j).toInt64) 0 (min (smM + 1) 6) lnM ptM sgM fiM seM ((nM, oM, hM, tM, upd sM j (xs (i + 2)), gM, knM, loM, lfM, nmM) : SK) (mSave svM (mSt nM oM hM tM sM gM knM loM lfM nmM) smM) slM ikM bfM coM goM foM (⟨r_aim hr hj (sOk_of hy), by omega, ring_save hri hr, kept_save hke hnx, hln, hl60, hbf, hb126⟩)
      · exact fun c_388 => absurd c_388 (by decide)
  · exact fun c_371 => absurd c_371 (by decide)
set_option maxHeartbeats 4000000 in
set_option maxRecDepth 100000 in
theorem lw_aim_e (cy : Nat → ClassId) (a : Nat → Nat) (b : Nat → Nat) (r : Nat) (nx : Nat) (sn : Nat) (ln : Nat) (sk : Nat → Nat → Nat) (S : Nat → CK) (ik : Nat → Int32) (bf : Nat → Nat) (kd : Nat) (hg : Nat) (nu : Nat) (dg : Nat) (ng : Bool) (tk : Bool) (n : Nat) (lit : Int32) (h : Nat → Int32) (t : Nat → Int32) (s : Nat → Int32) (g : Nat → Int32) (kn : Nat) (lo : Int32) (lf : Int32) (nm : Nat → Int32) (ob : Nat) (ou : Nat → Int64) (aM : Nat → Nat) (thM : Int32) (smM : Nat) (lnM : Nat) (ptM : Nat) (sgM : Nat) (fiM : Int32) (seM : Int32) (nM : Nat) (oM : Nat → Int32) (hM : Nat → Int32) (tM : Nat → Int32) (sM : Nat → Int32) (gM : Nat → Int32) (knM : Nat) (loM : Int32) (lfM : Int32) (nmM : Nat → Int32) (svM : Nat → Int32) (slM : Nat → Int32) (ikM : Nat → Int32) (bfM : Nat → Nat) (coM : Nat → Int32) (goM : Nat → Int32) (foM : Nat → Int32) (X : kX) (hR : xR X = room_1) (C : kC X 9 RL cL_law wsL_law cy) (Z : kZ (xA X) (xS X) (xS X).heap) (hst : (xL X).stackTraces = false) (sb i L ce sl : Nat) (xs : Nat → Int32) (hX : va_X sb L xs (xS X) (xS X).heap) (hbl : sb < (xS X).heap.size) (hbA : ¬ (xA X) sb) (hL : L ≤ 2048) (hi : i + 4 ≤ L) (hce : ce + 1 ≤ 620303 ∧ sl + 6 ≤ 7235195) (E : lwE X cy a b r sk ob aM sb i ce sl) (hgR : gR nx sn ln ik bf ((n, lit, h, t, s, g, kn, lo, lf, nm) : CK) S smM lnM ((nM, oM, hM, tM, sM, gM, knM, loM, lfM, nmM) : SK) svM slM ikM bfM) (hx : ¬ (0 ≤ xs (i + 1) ∧ xs (i + 1) ≤ 1)) : kG X 9 ce sl (([(ob, .inl (cy 4, 1, .inr (.inl ou)))] ++ ((wXo b cy (a 0) r nx sn ln (svOf sk) (kpOf sk) ik bf ++ wRd r kd hg nu dg ng tk) ++ (wSky a cy n lit h t s g kn lo lf nm ++ wOth sk cy S))) ++ (wM aM cy thM smM lnM ptM sgM fiM seM (mSt nM oM hM tM sM gM knM loM lfM nmM) svM slM ikM bfM coM goM foM)) 328 [(4, .int (nI i)), (3, .ref ob), (2, .ref (aM 0)), (1, .ref (b 0)), (0, .ref sb)] [] := by
  obtain ⟨hr, hsn, hri, hke, hln, hl60, hbf, hb126⟩ := id hgR
  have hnx := hri.2.1
  have hsm := hri.1
  have hn := hr.1.1
  have en : n = nM := hr.2.1
  have el : lit = mLit oM := hr.2.2.1
  have hH := hr.2.2.2.1
  have hT := hr.2.2.2.2.1
  have hS := hr.2.2.2.2.2.1
  have hG := hr.2.2.2.2.2.2.1
  have ekn : kn = knM := hr.2.2.2.2.2.2.2.1
  have ho := hr.1.2.1
  have hs0 := hr.1.2.2.1
  have hs1 := hr.1.2.2.2.1
  have hk8 := hr.1.2.2.2.2.1
  have hn6 : n ≤ 6 := by rw [en]; exact hn
  have hkn8 : kn ≤ 8 := by rw [ekn]; exact hk8
  have hsn6 : sn ≤ 6 := by omega
  refine k_aload_n (q := 329) C 3 dL_law_328 rfl rfl ?_
  refine k_aload_n (q := 330) C 4 dL_law_329 rfl rfl ?_
  refine k_iload (q := 332) C 0 dL_law_330 rfl rfl ?_
  refine k_iconst (q := 333) (v := 1) C dL_law_332 (by decide) rfl ?_
  refine k_iadd (q := 334) C dL_law_333 rfl ?_
  refine k_st (st2 := (.int (nI (i + 1)) :: _)) (congrArg (fun z => Value.int z :: _) (show (nI i) + 1 = nI (i + 1) from nI_add i 1)) ?_
  refine k_sld (q := 335) C hX hbl hbA (vp_in_nI (n := i + 1) (by omega) (by omega)) dL_law_334 rfl ?_
  refine k_st (st2 := (.int (xs (i + 1)) :: _)) (congrArg (fun z => Value.int z :: _) (show xs (nI (i + 1)).toNatClampNeg = xs (i + 1) from congrArg xs (nI_clamp (n := i + 1) (by omega)))) ?_
  refine k_aload_n (q := 336) C 4 dL_law_335 rfl rfl ?_
  refine k_iload (q := 338) C 0 dL_law_336 rfl rfl ?_
  refine k_iconst (q := 339) (v := 2) C dL_law_338 (by decide) rfl ?_
  refine k_iadd (q := 340) C dL_law_339 rfl ?_
  refine k_st (st2 := (.int (nI (i + 2)) :: _)) (congrArg (fun z => Value.int z :: _) (show (nI i) + 2 = nI (i + 2) from nI_add i 2)) ?_
  refine k_sld (q := 341) C hX hbl hbA (vp_in_nI (n := i + 2) (by omega) (by omega)) dL_law_340 rfl ?_
  refine k_st (st2 := (.int (xs (i + 2)) :: _)) (congrArg (fun z => Value.int z :: _) (show xs (nI (i + 2)).toNatClampNeg = xs (i + 2) from congrArg xs (nI_clamp (n := i + 2) (by omega)))) ?_
  refine k_aload_n (q := 342) C 1 dL_law_341 rfl rfl ?_
  refine k_callSL (n := 4) (q := 345) (pre := ([] : va_W)) (post := (wM aM cy thM smM lnM ptM sgM fiM seM (mSt nM oM hM tM sM gM knM loM lfM nmM) svM slM ikM bfM coM goM foM)) (w2 := (([(ob, .inl (cy 4, 1, .inr (.inl ou)))] ++ ((wXo b cy (a 0) r nx sn ln (svOf sk) (kpOf sk) ik bf ++ wRd r kd hg nu dg ng tk) ++ (wSky a cy n lit h t s g kn lo lf nm ++ wOth sk cy S))) ++ (wM aM cy thM smM lnM ptM sgM fiM seM (mSt nM oM hM tM sM gM knM loM lfM nmM) svM slM ikM bfM coM goM foM))) (As := [.ref (b 0), .int (xs (i + 1)), .int (xs (i + 2)), .ref ob]) (rest := []) C Z hst (c_L_aim_e cy a b r nx sn ln sk S ik bf kd hg nu dg ng tk n lit h t s g kn lo lf nm ob ou (xs (i + 1)) (xs (i + 2)) hx) gL_law_L_aim rfl rfl rfl (by decide +kernel) (k_room hR (by decide)) (k_le hR (by omega)) rfl rfl (Nat.le_of_ble_eq_true rfl) (rfl) (rfl) dL_law_342 rfl ?_
  refine k_istore (q := 347) (fr2 := [(5, .int 1), (4, .int (nI i)), (3, .ref ob), (2, .ref (aM 0)), (1, .ref (b 0)), (0, .ref sb)]) C dL_law_345 (by decide) rfl rfl ?_
  refine k_aload_n (q := 348) C 3 dL_law_347 rfl rfl ?_
  refine k_aload_n (q := 349) C 5 dL_law_348 rfl rfl ?_
  refine k_iload (q := 351) C 1 dL_law_349 rfl rfl ?_
  refine k_iconst (q := 352) (v := 1) C dL_law_351 (by decide) rfl ?_
  refine k_iadd (q := 353) C dL_law_352 rfl ?_
  refine k_st (st2 := (.int (nI (i + 1)) :: _)) (congrArg (fun z => Value.int z :: _) (show (nI i) + 1 = nI (i + 1) from nI_add i 1)) ?_
  refine k_sld (q := 354) C hX hbl hbA (vp_in_nI (n := i + 1) (by omega) (by omega)) dL_law_353 rfl ?_
  refine k_st (st2 := (.int (xs (i + 1)) :: _)) (congrArg (fun z => Value.int z :: _) (show xs (nI (i + 1)).toNatClampNeg = xs (i + 1) from congrArg xs (nI_clamp (n := i + 1) (by omega)))) ?_
  refine k_aload_n (q := 355) C 5 dL_law_354 rfl rfl ?_
  refine k_iload (q := 357) C 1 dL_law_355 rfl rfl ?_
  refine k_iconst (q := 358) (v := 2) C dL_law_357 (by decide) rfl ?_
  refine k_iadd (q := 359) C dL_law_358 rfl ?_
  refine k_st (st2 := (.int (nI (i + 2)) :: _)) (congrArg (fun z => Value.int z :: _) (show (nI i) + 2 = nI (i + 2) from nI_add i 2)) ?_
  refine k_sld (q := 360) C hX hbl hbA (vp_in_nI (n := i + 2) (by omega) (by omega)) dL_law_359 rfl ?_
  refine k_st (st2 := (.int (xs (i + 2)) :: _)) (congrArg (fun z => Value.int z :: _) (show xs (nI (i + 2)).toNatClampNeg = xs (i + 2) from congrArg xs (nI_clamp (n := i + 2) (by omega)))) ?_
  refine k_callVI (n := 2) (q := 363) (pre := ([(ob, .inl (cy 4, 1, .inr (.inl ou)))] ++ ((wXo b cy (a 0) r nx sn ln (svOf sk) (kpOf sk) ik bf ++ wRd r kd hg nu dg ng tk) ++ (wSky a cy n lit h t s g kn lo lf nm ++ wOth sk cy S)))) (post := ([] : va_W)) (w2 := (([(ob, .inl (cy 4, 1, .inr (.inl ou)))] ++ ((wXo b cy (a 0) r nx sn ln (svOf sk) (kpOf sk) ik bf ++ wRd r kd hg nu dg ng tk) ++ (wSky a cy n lit h t s g kn lo lf nm ++ wOth sk cy S))) ++ (wM aM cy 1 smM lnM ptM sgM fiM seM (mSt nM oM hM tM sM gM knM loM lfM nmM) svM slM ikM bfM coM goM foM))) (As := [.int (xs (i + 1)), .int (xs (i + 2))]) (rest := []) C (c_X4_aim_e cy aM thM smM lnM ptM sgM fiM seM nM oM hM tM sM gM knM loM lfM nmM svM slM ikM bfM coM goM foM (xs (i + 1)) (xs (i + 2)) hx) gL_law_X4_aim rfl rfl rfl (by decide +kernel) (k_room hR (by decide)) (k_le hR (by omega)) (ci := 4) rfl 0 rfl rfl rfl (Nat.le_of_ble_eq_true rfl) (k_pre) (k_pre.symm) dL_law_360 rfl ?_
  refine k_istore (q := 365) (fr2 := [(6, .int 0), (5, .int 1), (4, .int (nI i)), (3, .ref ob), (2, .ref (aM 0)), (1, .ref (b 0)), (0, .ref sb)]) C dL_law_363 (by decide) rfl rfl ?_
  refine k_aload_n (q := 366) C 4 dL_law_365 rfl rfl ?_
  refine k_callVI (n := 0) (q := 369) (pre := ([(ob, .inl (cy 4, 1, .inr (.inl ou)))] ++ ((wXo b cy (a 0) r nx sn ln (svOf sk) (kpOf sk) ik bf ++ wRd r kd hg nu dg ng tk) ++ (wSky a cy n lit h t s g kn lo lf nm ++ wOth sk cy S)))) (post := ([] : va_W)) (w2 := (([(ob, .inl (cy 4, 1, .inr (.inl ou)))] ++ ((wXo b cy (a 0) r nx sn ln (svOf sk) (kpOf sk) ik bf ++ wRd r kd hg nu dg ng tk) ++ (wSky a cy n lit h t s g kn lo lf nm ++ wOth sk cy S))) ++ (wM aM cy 1 smM lnM ptM sgM fiM seM (mSt nM oM hM tM sM gM knM loM lfM nmM) svM slM ikM bfM coM goM foM))) (As := []) (rest := []) C (c_X4_thrown cy aM 1 smM lnM ptM sgM fiM seM nM oM hM tM sM gM knM loM lfM nmM svM slM ikM bfM coM goM foM) gL_law_X4_thrown rfl rfl rfl (by decide +kernel) (k_room hR (by decide)) (k_le hR (by omega)) (ci := 4) rfl 0 rfl rfl rfl (Nat.le_of_ble_eq_true rfl) (k_pre) (k_pre.symm) dL_law_366 rfl ?_
  refine k_iload (q := 371) C 1 dL_law_369 rfl rfl ?_
  refine k_icmp_eq (tgt := 376) (q := 374) C dL_law_371 (by decide) rfl ?_ ?_
  · intro c_371
    refine k_iload (q := 378) C 1 dL_law_376 rfl rfl ?_
    refine k_if_ne (tgt := 393) (q := 381) C dL_law_378 (by decide) rfl ?_ ?_
    · intro c_378
      refine k_goto (q := 1415) C dL_law_393 (by decide) ?_
      refine k_fr (fr2 := [(4, .int (nI i)), (3, .ref ob), (2, .ref (aM 0)), (1, .ref (b 0)), (0, .ref sb)]) ⟨[2, 3, 4, 5, 6], rfl⟩ ?_
      exact E nx sn ln S ik bf kd hg nu dg ng tk ((n, lit, h, t, s, g, kn, lo, lf, nm) : CK) ou 1 smM lnM ptM sgM fiM seM ((nM, oM, hM, tM, sM, gM, knM, loM, lfM, nmM) : SK) svM slM ikM bfM coM goM foM (hgR)
    · exact fun c_378 => absurd c_378 (by decide)
  · exact fun c_371 => absurd c_371 (by decide)
set_option maxHeartbeats 4000000 in
set_option maxRecDepth 100000 in
theorem lw_aim_e2 (cy : Nat → ClassId) (a : Nat → Nat) (b : Nat → Nat) (r : Nat) (nx : Nat) (sn : Nat) (ln : Nat) (sk : Nat → Nat → Nat) (S : Nat → CK) (ik : Nat → Int32) (bf : Nat → Nat) (kd : Nat) (hg : Nat) (nu : Nat) (dg : Nat) (ng : Bool) (tk : Bool) (n : Nat) (lit : Int32) (h : Nat → Int32) (t : Nat → Int32) (s : Nat → Int32) (g : Nat → Int32) (kn : Nat) (lo : Int32) (lf : Int32) (nm : Nat → Int32) (ob : Nat) (ou : Nat → Int64) (aM : Nat → Nat) (thM : Int32) (smM : Nat) (lnM : Nat) (ptM : Nat) (sgM : Nat) (fiM : Int32) (seM : Int32) (nM : Nat) (oM : Nat → Int32) (hM : Nat → Int32) (tM : Nat → Int32) (sM : Nat → Int32) (gM : Nat → Int32) (knM : Nat) (loM : Int32) (lfM : Int32) (nmM : Nat → Int32) (svM : Nat → Int32) (slM : Nat → Int32) (ikM : Nat → Int32) (bfM : Nat → Nat) (coM : Nat → Int32) (goM : Nat → Int32) (foM : Nat → Int32) (j : Nat) (X : kX) (hR : xR X = room_1) (C : kC X 9 RL cL_law wsL_law cy) (Z : kZ (xA X) (xS X) (xS X).heap) (hst : (xL X).stackTraces = false) (sb i L ce sl : Nat) (xs : Nat → Int32) (hX : va_X sb L xs (xS X) (xS X).heap) (hbl : sb < (xS X).heap.size) (hbA : ¬ (xA X) sb) (hL : L ≤ 2048) (hi : i + 4 ≤ L) (hce : ce + 1 ≤ 620303 ∧ sl + 6 ≤ 7235195) (E : lwE X cy a b r sk ob aM sb i ce sl) (hgR : gR nx sn ln ik bf ((n, lit, h, t, s, g, kn, lo, lf, nm) : CK) S smM lnM ((nM, oM, hM, tM, sM, gM, knM, loM, lfM, nmM) : SK) svM slM ikM bfM) (hj : j < 2) (hx1 : xs (i + 1) = nI j) (hy : ¬ (-30 ≤ xs (i + 2) ∧ xs (i + 2) ≤ 30)) : kG X 9 ce sl (([(ob, .inl (cy 4, 1, .inr (.inl ou)))] ++ ((wXo b cy (a 0) r nx sn ln (svOf sk) (kpOf sk) ik bf ++ wRd r kd hg nu dg ng tk) ++ (wSky a cy n lit h t s g kn lo lf nm ++ wOth sk cy S))) ++ (wM aM cy thM smM lnM ptM sgM fiM seM (mSt nM oM hM tM sM gM knM loM lfM nmM) svM slM ikM bfM coM goM foM)) 328 [(4, .int (nI i)), (3, .ref ob), (2, .ref (aM 0)), (1, .ref (b 0)), (0, .ref sb)] [] := by
  obtain ⟨hr, hsn, hri, hke, hln, hl60, hbf, hb126⟩ := id hgR
  have hnx := hri.2.1
  have hsm := hri.1
  have hn := hr.1.1
  have en : n = nM := hr.2.1
  have el : lit = mLit oM := hr.2.2.1
  have hH := hr.2.2.2.1
  have hT := hr.2.2.2.2.1
  have hS := hr.2.2.2.2.2.1
  have hG := hr.2.2.2.2.2.2.1
  have ekn : kn = knM := hr.2.2.2.2.2.2.2.1
  have ho := hr.1.2.1
  have hs0 := hr.1.2.2.1
  have hs1 := hr.1.2.2.2.1
  have hk8 := hr.1.2.2.2.2.1
  have hn6 : n ≤ 6 := by rw [en]; exact hn
  have hkn8 : kn ≤ 8 := by rw [ekn]; exact hk8
  have hsn6 : sn ≤ 6 := by omega
  refine k_aload_n (q := 329) C 3 dL_law_328 rfl rfl ?_
  refine k_aload_n (q := 330) C 4 dL_law_329 rfl rfl ?_
  refine k_iload (q := 332) C 0 dL_law_330 rfl rfl ?_
  refine k_iconst (q := 333) (v := 1) C dL_law_332 (by decide) rfl ?_
  refine k_iadd (q := 334) C dL_law_333 rfl ?_
  refine k_st (st2 := (.int (nI (i + 1)) :: _)) (congrArg (fun z => Value.int z :: _) (show (nI i) + 1 = nI (i + 1) from nI_add i 1)) ?_
  refine k_sld (q := 335) C hX hbl hbA (vp_in_nI (n := i + 1) (by omega) (by omega)) dL_law_334 rfl ?_
  refine k_st (st2 := (.int (xs (i + 1)) :: _)) (congrArg (fun z => Value.int z :: _) (show xs (nI (i + 1)).toNatClampNeg = xs (i + 1) from congrArg xs (nI_clamp (n := i + 1) (by omega)))) ?_
  refine k_st (st2 := (.int (nI j) :: _)) (congrArg (fun z => Value.int z :: _) (show xs (i + 1) = nI j from hx1)) ?_
  refine k_aload_n (q := 336) C 4 dL_law_335 rfl rfl ?_
  refine k_iload (q := 338) C 0 dL_law_336 rfl rfl ?_
  refine k_iconst (q := 339) (v := 2) C dL_law_338 (by decide) rfl ?_
  refine k_iadd (q := 340) C dL_law_339 rfl ?_
  refine k_st (st2 := (.int (nI (i + 2)) :: _)) (congrArg (fun z => Value.int z :: _) (show (nI i) + 2 = nI (i + 2) from nI_add i 2)) ?_
  refine k_sld (q := 341) C hX hbl hbA (vp_in_nI (n := i + 2) (by omega) (by omega)) dL_law_340 rfl ?_
  refine k_st (st2 := (.int (xs (i + 2)) :: _)) (congrArg (fun z => Value.int z :: _) (show xs (nI (i + 2)).toNatClampNeg = xs (i + 2) from congrArg xs (nI_clamp (n := i + 2) (by omega)))) ?_
  refine k_aload_n (q := 342) C 1 dL_law_341 rfl rfl ?_
  refine k_callSL (n := 4) (q := 345) (pre := ([] : va_W)) (post := (wM aM cy thM smM lnM ptM sgM fiM seM (mSt nM oM hM tM sM gM knM loM lfM nmM) svM slM ikM bfM coM goM foM)) (w2 := (([(ob, .inl (cy 4, 1, .inr (.inl ou)))] ++ ((wXo b cy (a 0) r nx sn ln (svOf sk) (kpOf sk) ik bf ++ wRd r kd hg nu dg ng tk) ++ (wSky a cy n lit h t s g kn lo lf nm ++ wOth sk cy S))) ++ (wM aM cy thM smM lnM ptM sgM fiM seM (mSt nM oM hM tM sM gM knM loM lfM nmM) svM slM ikM bfM coM goM foM))) (As := [.ref (b 0), .int (nI j), .int (xs (i + 2)), .ref ob]) (rest := []) C Z hst (c_L_aim_e2 cy a b r nx sn ln sk S ik bf kd hg nu dg ng tk n lit h t s g kn lo lf nm ob ou j (xs (i + 2)) hj hy) gL_law_L_aim rfl rfl rfl (by decide +kernel) (k_room hR (by decide)) (k_le hR (by omega)) rfl rfl (Nat.le_of_ble_eq_true rfl) (rfl) (rfl) dL_law_342 rfl ?_
  refine k_istore (q := 347) (fr2 := [(5, .int 2), (4, .int (nI i)), (3, .ref ob), (2, .ref (aM 0)), (1, .ref (b 0)), (0, .ref sb)]) C dL_law_345 (by decide) rfl rfl ?_
  refine k_aload_n (q := 348) C 3 dL_law_347 rfl rfl ?_
  refine k_aload_n (q := 349) C 5 dL_law_348 rfl rfl ?_
  refine k_iload (q := 351) C 1 dL_law_349 rfl rfl ?_
  refine k_iconst (q := 352) (v := 1) C dL_law_351 (by decide) rfl ?_
  refine k_iadd (q := 353) C dL_law_352 rfl ?_
  refine k_st (st2 := (.int (nI (i + 1)) :: _)) (congrArg (fun z => Value.int z :: _) (show (nI i) + 1 = nI (i + 1) from nI_add i 1)) ?_
  refine k_sld (q := 354) C hX hbl hbA (vp_in_nI (n := i + 1) (by omega) (by omega)) dL_law_353 rfl ?_
  refine k_st (st2 := (.int (xs (i + 1)) :: _)) (congrArg (fun z => Value.int z :: _) (show xs (nI (i + 1)).toNatClampNeg = xs (i + 1) from congrArg xs (nI_clamp (n := i + 1) (by omega)))) ?_
  refine k_st (st2 := (.int (nI j) :: _)) (congrArg (fun z => Value.int z :: _) (show xs (i + 1) = nI j from hx1)) ?_
  refine k_aload_n (q := 355) C 5 dL_law_354 rfl rfl ?_
  refine k_iload (q := 357) C 1 dL_law_355 rfl rfl ?_
  refine k_iconst (q := 358) (v := 2) C dL_law_357 (by decide) rfl ?_
  refine k_iadd (q := 359) C dL_law_358 rfl ?_
  refine k_st (st2 := (.int (nI (i + 2)) :: _)) (congrArg (fun z => Value.int z :: _) (show (nI i) + 2 = nI (i + 2) from nI_add i 2)) ?_
  refine k_sld (q := 360) C hX hbl hbA (vp_in_nI (n := i + 2) (by omega) (by omega)) dL_law_359 rfl ?_
  refine k_st (st2 := (.int (xs (i + 2)) :: _)) (congrArg (fun z => Value.int z :: _) (show xs (nI (i + 2)).toNatClampNeg = xs (i + 2) from congrArg xs (nI_clamp (n := i + 2) (by omega)))) ?_
  refine k_callVI (n := 2) (q := 363) (pre := ([(ob, .inl (cy 4, 1, .inr (.inl ou)))] ++ ((wXo b cy (a 0) r nx sn ln (svOf sk) (kpOf sk) ik bf ++ wRd r kd hg nu dg ng tk) ++ (wSky a cy n lit h t s g kn lo lf nm ++ wOth sk cy S)))) (post := ([] : va_W)) (w2 := (([(ob, .inl (cy 4, 1, .inr (.inl ou)))] ++ ((wXo b cy (a 0) r nx sn ln (svOf sk) (kpOf sk) ik bf ++ wRd r kd hg nu dg ng tk) ++ (wSky a cy n lit h t s g kn lo lf nm ++ wOth sk cy S))) ++ (wM aM cy 2 smM lnM ptM sgM fiM seM (mSt nM oM hM tM sM gM knM loM lfM nmM) svM slM ikM bfM coM goM foM))) (As := [.int (nI j), .int (xs (i + 2))]) (rest := []) C (c_X4_aim_e2 cy aM thM smM lnM ptM sgM fiM seM nM oM hM tM sM gM knM loM lfM nmM svM slM ikM bfM coM goM foM j (xs (i + 2)) hj hy) gL_law_X4_aim rfl rfl rfl (by decide +kernel) (k_room hR (by decide)) (k_le hR (by omega)) (ci := 4) rfl 0 rfl rfl rfl (Nat.le_of_ble_eq_true rfl) (k_pre) (k_pre.symm) dL_law_360 rfl ?_
  refine k_istore (q := 365) (fr2 := [(6, .int 0), (5, .int 2), (4, .int (nI i)), (3, .ref ob), (2, .ref (aM 0)), (1, .ref (b 0)), (0, .ref sb)]) C dL_law_363 (by decide) rfl rfl ?_
  refine k_aload_n (q := 366) C 4 dL_law_365 rfl rfl ?_
  refine k_callVI (n := 0) (q := 369) (pre := ([(ob, .inl (cy 4, 1, .inr (.inl ou)))] ++ ((wXo b cy (a 0) r nx sn ln (svOf sk) (kpOf sk) ik bf ++ wRd r kd hg nu dg ng tk) ++ (wSky a cy n lit h t s g kn lo lf nm ++ wOth sk cy S)))) (post := ([] : va_W)) (w2 := (([(ob, .inl (cy 4, 1, .inr (.inl ou)))] ++ ((wXo b cy (a 0) r nx sn ln (svOf sk) (kpOf sk) ik bf ++ wRd r kd hg nu dg ng tk) ++ (wSky a cy n lit h t s g kn lo lf nm ++ wOth sk cy S))) ++ (wM aM cy 2 smM lnM ptM sgM fiM seM (mSt nM oM hM tM sM gM knM loM lfM nmM) svM slM ikM bfM coM goM foM))) (As := []) (rest := []) C (c_X4_thrown cy aM 2 smM lnM ptM sgM fiM seM nM oM hM tM sM gM knM loM lfM nmM svM slM ikM bfM coM goM foM) gL_law_X4_thrown rfl rfl rfl (by decide +kernel) (k_room hR (by decide)) (k_le hR (by omega)) (ci := 4) rfl 0 rfl rfl rfl (Nat.le_of_ble_eq_true rfl) (k_pre) (k_pre.symm) dL_law_366 rfl ?_
  refine k_iload (q := 371) C 1 dL_law_369 rfl rfl ?_
  refine k_icmp_eq (tgt := 376) (q := 374) C dL_law_371 (by decide) rfl ?_ ?_
  · intro c_371
    refine k_iload (q := 378) C 1 dL_law_376 rfl rfl ?_
    refine k_if_ne (tgt := 393) (q := 381) C dL_law_378 (by decide) rfl ?_ ?_
    · intro c_378
      refine k_goto (q := 1415) C dL_law_393 (by decide) ?_
      refine k_fr (fr2 := [(4, .int (nI i)), (3, .ref ob), (2, .ref (aM 0)), (1, .ref (b 0)), (0, .ref sb)]) ⟨[2, 3, 4, 5, 6], rfl⟩ ?_
      exact E nx sn ln S ik bf kd hg nu dg ng tk ((n, lit, h, t, s, g, kn, lo, lf, nm) : CK) ou 2 smM lnM ptM sgM fiM seM ((nM, oM, hM, tM, sM, gM, knM, loM, lfM, nmM) : SK) svM slM ikM bfM coM goM foM (hgR)
    · exact fun c_378 => absurd c_378 (by decide)
  · exact fun c_371 => absurd c_371 (by decide)
set_option maxHeartbeats 4000000 in
set_option maxRecDepth 100000 in
theorem lw_turn_e (cy : Nat → ClassId) (a : Nat → Nat) (b : Nat → Nat) (r : Nat) (nx : Nat) (sn : Nat) (ln : Nat) (sk : Nat → Nat → Nat) (S : Nat → CK) (ik : Nat → Int32) (bf : Nat → Nat) (kd : Nat) (hg : Nat) (nu : Nat) (dg : Nat) (ng : Bool) (tk : Bool) (n : Nat) (lit : Int32) (h : Nat → Int32) (t : Nat → Int32) (s : Nat → Int32) (g : Nat → Int32) (kn : Nat) (lo : Int32) (lf : Int32) (nm : Nat → Int32) (ob : Nat) (ou : Nat → Int64) (aM : Nat → Nat) (thM : Int32) (smM : Nat) (lnM : Nat) (ptM : Nat) (sgM : Nat) (fiM : Int32) (seM : Int32) (nM : Nat) (oM : Nat → Int32) (hM : Nat → Int32) (tM : Nat → Int32) (sM : Nat → Int32) (gM : Nat → Int32) (knM : Nat) (loM : Int32) (lfM : Int32) (nmM : Nat → Int32) (svM : Nat → Int32) (slM : Nat → Int32) (ikM : Nat → Int32) (bfM : Nat → Nat) (coM : Nat → Int32) (goM : Nat → Int32) (foM : Nat → Int32) (X : kX) (hR : xR X = room_1) (C : kC X 9 RL cL_law wsL_law cy) (Z : kZ (xA X) (xS X) (xS X).heap) (hst : (xL X).stackTraces = false) (sb i L ce sl : Nat) (xs : Nat → Int32) (hX : va_X sb L xs (xS X) (xS X).heap) (hbl : sb < (xS X).heap.size) (hbA : ¬ (xA X) sb) (hL : L ≤ 2048) (hi : i + 4 ≤ L) (hce : ce + 1 ≤ 620303 ∧ sl + 6 ≤ 7235195) (E : lwE X cy a b r sk ob aM sb i ce sl) (hgR : gR nx sn ln ik bf ((n, lit, h, t, s, g, kn, lo, lf, nm) : CK) S smM lnM ((nM, oM, hM, tM, sM, gM, knM, loM, lfM, nmM) : SK) svM slM ikM bfM) (hx : ¬ (0 ≤ xs (i + 1) ∧ xs (i + 1) ≤ 1)) : kG X 9 ce sl (([(ob, .inl (cy 4, 1, .inr (.inl ou)))] ++ ((wXo b cy (a 0) r nx sn ln (svOf sk) (kpOf sk) ik bf ++ wRd r kd hg nu dg ng tk) ++ (wSky a cy n lit h t s g kn lo lf nm ++ wOth sk cy S))) ++ (wM aM cy thM smM lnM ptM sgM fiM seM (mSt nM oM hM tM sM gM knM loM lfM nmM) svM slM ikM bfM coM goM foM)) 396 [(4, .int (nI i)), (3, .ref ob), (2, .ref (aM 0)), (1, .ref (b 0)), (0, .ref sb)] [] := by
  obtain ⟨hr, hsn, hri, hke, hln, hl60, hbf, hb126⟩ := id hgR
  have hnx := hri.2.1
  have hsm := hri.1
  have hn := hr.1.1
  have en : n = nM := hr.2.1
  have el : lit = mLit oM := hr.2.2.1
  have hH := hr.2.2.2.1
  have hT := hr.2.2.2.2.1
  have hS := hr.2.2.2.2.2.1
  have hG := hr.2.2.2.2.2.2.1
  have ekn : kn = knM := hr.2.2.2.2.2.2.2.1
  have ho := hr.1.2.1
  have hs0 := hr.1.2.2.1
  have hs1 := hr.1.2.2.2.1
  have hk8 := hr.1.2.2.2.2.1
  have hn6 : n ≤ 6 := by rw [en]; exact hn
  have hkn8 : kn ≤ 8 := by rw [ekn]; exact hk8
  have hsn6 : sn ≤ 6 := by omega
  refine k_aload_n (q := 397) C 3 dL_law_396 rfl rfl ?_
  refine k_aload_n (q := 398) C 4 dL_law_397 rfl rfl ?_
  refine k_iload (q := 400) C 0 dL_law_398 rfl rfl ?_
  refine k_iconst (q := 401) (v := 1) C dL_law_400 (by decide) rfl ?_
  refine k_iadd (q := 402) C dL_law_401 rfl ?_
  refine k_st (st2 := (.int (nI (i + 1)) :: _)) (congrArg (fun z => Value.int z :: _) (show (nI i) + 1 = nI (i + 1) from nI_add i 1)) ?_
  refine k_sld (q := 403) C hX hbl hbA (vp_in_nI (n := i + 1) (by omega) (by omega)) dL_law_402 rfl ?_
  refine k_st (st2 := (.int (xs (i + 1)) :: _)) (congrArg (fun z => Value.int z :: _) (show xs (nI (i + 1)).toNatClampNeg = xs (i + 1) from congrArg xs (nI_clamp (n := i + 1) (by omega)))) ?_
  refine k_aload_n (q := 404) C 1 dL_law_403 rfl rfl ?_
  refine k_callSL (n := 3) (q := 407) (pre := ([] : va_W)) (post := (wM aM cy thM smM lnM ptM sgM fiM seM (mSt nM oM hM tM sM gM knM loM lfM nmM) svM slM ikM bfM coM goM foM)) (w2 := (([(ob, .inl (cy 4, 1, .inr (.inl ou)))] ++ ((wXo b cy (a 0) r nx sn ln (svOf sk) (kpOf sk) ik bf ++ wRd r kd hg nu dg ng tk) ++ (wSky a cy n lit h t s g kn lo lf nm ++ wOth sk cy S))) ++ (wM aM cy thM smM lnM ptM sgM fiM seM (mSt nM oM hM tM sM gM knM loM lfM nmM) svM slM ikM bfM coM goM foM))) (As := [.ref (b 0), .int (xs (i + 1)), .ref ob]) (rest := []) C Z hst (c_L_turn_e cy a b r nx sn ln sk S ik bf kd hg nu dg ng tk n lit h t s g kn lo lf nm ob ou (xs (i + 1)) hx) gL_law_L_turn rfl rfl rfl (by decide +kernel) (k_room hR (by decide)) (k_le hR (by omega)) rfl rfl (Nat.le_of_ble_eq_true rfl) (rfl) (rfl) dL_law_404 rfl ?_
  refine k_istore (q := 409) (fr2 := [(5, .int 1), (4, .int (nI i)), (3, .ref ob), (2, .ref (aM 0)), (1, .ref (b 0)), (0, .ref sb)]) C dL_law_407 (by decide) rfl rfl ?_
  refine k_aload_n (q := 410) C 3 dL_law_409 rfl rfl ?_
  refine k_aload_n (q := 411) C 5 dL_law_410 rfl rfl ?_
  refine k_iload (q := 413) C 1 dL_law_411 rfl rfl ?_
  refine k_iconst (q := 414) (v := 1) C dL_law_413 (by decide) rfl ?_
  refine k_iadd (q := 415) C dL_law_414 rfl ?_
  refine k_st (st2 := (.int (nI (i + 1)) :: _)) (congrArg (fun z => Value.int z :: _) (show (nI i) + 1 = nI (i + 1) from nI_add i 1)) ?_
  refine k_sld (q := 416) C hX hbl hbA (vp_in_nI (n := i + 1) (by omega) (by omega)) dL_law_415 rfl ?_
  refine k_st (st2 := (.int (xs (i + 1)) :: _)) (congrArg (fun z => Value.int z :: _) (show xs (nI (i + 1)).toNatClampNeg = xs (i + 1) from congrArg xs (nI_clamp (n := i + 1) (by omega)))) ?_
  refine k_callVI (n := 1) (q := 419) (pre := ([(ob, .inl (cy 4, 1, .inr (.inl ou)))] ++ ((wXo b cy (a 0) r nx sn ln (svOf sk) (kpOf sk) ik bf ++ wRd r kd hg nu dg ng tk) ++ (wSky a cy n lit h t s g kn lo lf nm ++ wOth sk cy S)))) (post := ([] : va_W)) (w2 := (([(ob, .inl (cy 4, 1, .inr (.inl ou)))] ++ ((wXo b cy (a 0) r nx sn ln (svOf sk) (kpOf sk) ik bf ++ wRd r kd hg nu dg ng tk) ++ (wSky a cy n lit h t s g kn lo lf nm ++ wOth sk cy S))) ++ (wM aM cy 1 smM lnM ptM sgM fiM seM (mSt nM oM hM tM sM gM knM loM lfM nmM) svM slM ikM bfM coM goM foM))) (As := [.int (xs (i + 1))]) (rest := []) C (c_X4_turn_e cy aM thM smM lnM ptM sgM fiM seM nM oM hM tM sM gM knM loM lfM nmM svM slM ikM bfM coM goM foM (xs (i + 1)) hx) gL_law_X4_turn rfl rfl rfl (by decide +kernel) (k_room hR (by decide)) (k_le hR (by omega)) (ci := 4) rfl 0 rfl rfl rfl (Nat.le_of_ble_eq_true rfl) (k_pre) (k_pre.symm) dL_law_416 rfl ?_
  refine k_istore (q := 421) (fr2 := [(6, .int 0), (5, .int 1), (4, .int (nI i)), (3, .ref ob), (2, .ref (aM 0)), (1, .ref (b 0)), (0, .ref sb)]) C dL_law_419 (by decide) rfl rfl ?_
  refine k_aload_n (q := 422) C 4 dL_law_421 rfl rfl ?_
  refine k_callVI (n := 0) (q := 425) (pre := ([(ob, .inl (cy 4, 1, .inr (.inl ou)))] ++ ((wXo b cy (a 0) r nx sn ln (svOf sk) (kpOf sk) ik bf ++ wRd r kd hg nu dg ng tk) ++ (wSky a cy n lit h t s g kn lo lf nm ++ wOth sk cy S)))) (post := ([] : va_W)) (w2 := (([(ob, .inl (cy 4, 1, .inr (.inl ou)))] ++ ((wXo b cy (a 0) r nx sn ln (svOf sk) (kpOf sk) ik bf ++ wRd r kd hg nu dg ng tk) ++ (wSky a cy n lit h t s g kn lo lf nm ++ wOth sk cy S))) ++ (wM aM cy 1 smM lnM ptM sgM fiM seM (mSt nM oM hM tM sM gM knM loM lfM nmM) svM slM ikM bfM coM goM foM))) (As := []) (rest := []) C (c_X4_thrown cy aM 1 smM lnM ptM sgM fiM seM nM oM hM tM sM gM knM loM lfM nmM svM slM ikM bfM coM goM foM) gL_law_X4_thrown rfl rfl rfl (by decide +kernel) (k_room hR (by decide)) (k_le hR (by omega)) (ci := 4) rfl 0 rfl rfl rfl (Nat.le_of_ble_eq_true rfl) (k_pre) (k_pre.symm) dL_law_422 rfl ?_
  refine k_iload (q := 427) C 1 dL_law_425 rfl rfl ?_
  refine k_icmp_eq (tgt := 432) (q := 430) C dL_law_427 (by decide) rfl ?_ ?_
  · intro c_427
    refine k_iload (q := 434) C 1 dL_law_432 rfl rfl ?_
    refine k_if_ne (tgt := 449) (q := 437) C dL_law_434 (by decide) rfl ?_ ?_
    · intro c_434
      refine k_goto (q := 1415) C dL_law_449 (by decide) ?_
      refine k_fr (fr2 := [(4, .int (nI i)), (3, .ref ob), (2, .ref (aM 0)), (1, .ref (b 0)), (0, .ref sb)]) ⟨[2, 3, 4, 5, 6], rfl⟩ ?_
      exact E nx sn ln S ik bf kd hg nu dg ng tk ((n, lit, h, t, s, g, kn, lo, lf, nm) : CK) ou 1 smM lnM ptM sgM fiM seM ((nM, oM, hM, tM, sM, gM, knM, loM, lfM, nmM) : SK) svM slM ikM bfM coM goM foM (hgR)
    · exact fun c_434 => absurd c_434 (by decide)
  · exact fun c_427 => absurd c_427 (by decide)
set_option maxHeartbeats 4000000 in
set_option maxRecDepth 100000 in
theorem lw_set_e (cy : Nat → ClassId) (a : Nat → Nat) (b : Nat → Nat) (r : Nat) (nx : Nat) (sn : Nat) (ln : Nat) (sk : Nat → Nat → Nat) (S : Nat → CK) (ik : Nat → Int32) (bf : Nat → Nat) (kd : Nat) (hg : Nat) (nu : Nat) (dg : Nat) (ng : Bool) (tk : Bool) (n : Nat) (lit : Int32) (h : Nat → Int32) (t : Nat → Int32) (s : Nat → Int32) (g : Nat → Int32) (kn : Nat) (lo : Int32) (lf : Int32) (nm : Nat → Int32) (ob : Nat) (ou : Nat → Int64) (aM : Nat → Nat) (thM : Int32) (smM : Nat) (lnM : Nat) (ptM : Nat) (sgM : Nat) (fiM : Int32) (seM : Int32) (nM : Nat) (oM : Nat → Int32) (hM : Nat → Int32) (tM : Nat → Int32) (sM : Nat → Int32) (gM : Nat → Int32) (knM : Nat) (loM : Int32) (lfM : Int32) (nmM : Nat → Int32) (svM : Nat → Int32) (slM : Nat → Int32) (ikM : Nat → Int32) (bfM : Nat → Nat) (coM : Nat → Int32) (goM : Nat → Int32) (foM : Nat → Int32) (X : kX) (hR : xR X = room_1) (C : kC X 9 RL cL_law wsL_law cy) (Z : kZ (xA X) (xS X) (xS X).heap) (hst : (xL X).stackTraces = false) (sb i L ce sl : Nat) (xs : Nat → Int32) (hX : va_X sb L xs (xS X) (xS X).heap) (hbl : sb < (xS X).heap.size) (hbA : ¬ (xA X) sb) (hL : L ≤ 2048) (hi : i + 4 ≤ L) (hce : ce + 1 ≤ 620303 ∧ sl + 6 ≤ 7235195) (E : lwE X cy a b r sk ob aM sb i ce sl) (hgR : gR nx sn ln ik bf ((n, lit, h, t, s, g, kn, lo, lf, nm) : CK) S smM lnM ((nM, oM, hM, tM, sM, gM, knM, loM, lfM, nmM) : SK) svM slM ikM bfM) (hx : ¬ (0 ≤ xs (i + 1) ∧ xs (i + 1) ≤ 3)) : kG X 9 ce sl (([(ob, .inl (cy 4, 1, .inr (.inl ou)))] ++ ((wXo b cy (a 0) r nx sn ln (svOf sk) (kpOf sk) ik bf ++ wRd r kd hg nu dg ng tk) ++ (wSky a cy n lit h t s g kn lo lf nm ++ wOth sk cy S))) ++ (wM aM cy thM smM lnM ptM sgM fiM seM (mSt nM oM hM tM sM gM knM loM lfM nmM) svM slM ikM bfM coM goM foM)) 452 [(4, .int (nI i)), (3, .ref ob), (2, .ref (aM 0)), (1, .ref (b 0)), (0, .ref sb)] [] := by
  obtain ⟨hr, hsn, hri, hke, hln, hl60, hbf, hb126⟩ := id hgR
  have hnx := hri.2.1
  have hsm := hri.1
  have hn := hr.1.1
  have en : n = nM := hr.2.1
  have el : lit = mLit oM := hr.2.2.1
  have hH := hr.2.2.2.1
  have hT := hr.2.2.2.2.1
  have hS := hr.2.2.2.2.2.1
  have hG := hr.2.2.2.2.2.2.1
  have ekn : kn = knM := hr.2.2.2.2.2.2.2.1
  have ho := hr.1.2.1
  have hs0 := hr.1.2.2.1
  have hs1 := hr.1.2.2.2.1
  have hk8 := hr.1.2.2.2.2.1
  have hn6 : n ≤ 6 := by rw [en]; exact hn
  have hkn8 : kn ≤ 8 := by rw [ekn]; exact hk8
  have hsn6 : sn ≤ 6 := by omega
  refine k_aload_n (q := 453) C 3 dL_law_452 rfl rfl ?_
  refine k_aload_n (q := 454) C 4 dL_law_453 rfl rfl ?_
  refine k_iload (q := 456) C 0 dL_law_454 rfl rfl ?_
  refine k_iconst (q := 457) (v := 1) C dL_law_456 (by decide) rfl ?_
  refine k_iadd (q := 458) C dL_law_457 rfl ?_
  refine k_st (st2 := (.int (nI (i + 1)) :: _)) (congrArg (fun z => Value.int z :: _) (show (nI i) + 1 = nI (i + 1) from nI_add i 1)) ?_
  refine k_sld (q := 459) C hX hbl hbA (vp_in_nI (n := i + 1) (by omega) (by omega)) dL_law_458 rfl ?_
  refine k_st (st2 := (.int (xs (i + 1)) :: _)) (congrArg (fun z => Value.int z :: _) (show xs (nI (i + 1)).toNatClampNeg = xs (i + 1) from congrArg xs (nI_clamp (n := i + 1) (by omega)))) ?_
  refine k_aload_n (q := 460) C 4 dL_law_459 rfl rfl ?_
  refine k_iload (q := 462) C 0 dL_law_460 rfl rfl ?_
  refine k_iconst (q := 463) (v := 2) C dL_law_462 (by decide) rfl ?_
  refine k_iadd (q := 464) C dL_law_463 rfl ?_
  refine k_st (st2 := (.int (nI (i + 2)) :: _)) (congrArg (fun z => Value.int z :: _) (show (nI i) + 2 = nI (i + 2) from nI_add i 2)) ?_
  refine k_sld (q := 465) C hX hbl hbA (vp_in_nI (n := i + 2) (by omega) (by omega)) dL_law_464 rfl ?_
  refine k_st (st2 := (.int (xs (i + 2)) :: _)) (congrArg (fun z => Value.int z :: _) (show xs (nI (i + 2)).toNatClampNeg = xs (i + 2) from congrArg xs (nI_clamp (n := i + 2) (by omega)))) ?_
  refine k_aload_n (q := 466) C 1 dL_law_465 rfl rfl ?_
  refine k_callSL (n := 4) (q := 469) (pre := ([] : va_W)) (post := (wM aM cy thM smM lnM ptM sgM fiM seM (mSt nM oM hM tM sM gM knM loM lfM nmM) svM slM ikM bfM coM goM foM)) (w2 := (([(ob, .inl (cy 4, 1, .inr (.inl ou)))] ++ ((wXo b cy (a 0) r nx sn ln (svOf sk) (kpOf sk) ik bf ++ wRd r kd hg nu dg ng tk) ++ (wSky a cy n lit h t s g kn lo lf nm ++ wOth sk cy S))) ++ (wM aM cy thM smM lnM ptM sgM fiM seM (mSt nM oM hM tM sM gM knM loM lfM nmM) svM slM ikM bfM coM goM foM))) (As := [.ref (b 0), .int (xs (i + 1)), .int (xs (i + 2)), .ref ob]) (rest := []) C Z hst (c_L_set_e cy a b r nx sn ln sk S ik bf kd hg nu dg ng tk n lit h t s g kn lo lf nm ob ou (xs (i + 1)) (xs (i + 2)) hx) gL_law_L_set rfl rfl rfl (by decide +kernel) (k_room hR (by decide)) (k_le hR (by omega)) rfl rfl (Nat.le_of_ble_eq_true rfl) (rfl) (rfl) dL_law_466 rfl ?_
  refine k_istore (q := 471) (fr2 := [(5, .int 1), (4, .int (nI i)), (3, .ref ob), (2, .ref (aM 0)), (1, .ref (b 0)), (0, .ref sb)]) C dL_law_469 (by decide) rfl rfl ?_
  refine k_aload_n (q := 472) C 3 dL_law_471 rfl rfl ?_
  refine k_aload_n (q := 473) C 5 dL_law_472 rfl rfl ?_
  refine k_iload (q := 475) C 1 dL_law_473 rfl rfl ?_
  refine k_iconst (q := 476) (v := 1) C dL_law_475 (by decide) rfl ?_
  refine k_iadd (q := 477) C dL_law_476 rfl ?_
  refine k_st (st2 := (.int (nI (i + 1)) :: _)) (congrArg (fun z => Value.int z :: _) (show (nI i) + 1 = nI (i + 1) from nI_add i 1)) ?_
  refine k_sld (q := 478) C hX hbl hbA (vp_in_nI (n := i + 1) (by omega) (by omega)) dL_law_477 rfl ?_
  refine k_st (st2 := (.int (xs (i + 1)) :: _)) (congrArg (fun z => Value.int z :: _) (show xs (nI (i + 1)).toNatClampNeg = xs (i + 1) from congrArg xs (nI_clamp (n := i + 1) (by omega)))) ?_
  refine k_aload_n (q := 479) C 5 dL_law_478 rfl rfl ?_
  refine k_iload (q := 481) C 1 dL_law_479 rfl rfl ?_
  refine k_iconst (q := 482) (v := 2) C dL_law_481 (by decide) rfl ?_
  refine k_iadd (q := 483) C dL_law_482 rfl ?_
  refine k_st (st2 := (.int (nI (i + 2)) :: _)) (congrArg (fun z => Value.int z :: _) (show (nI i) + 2 = nI (i + 2) from nI_add i 2)) ?_
  refine k_sld (q := 484) C hX hbl hbA (vp_in_nI (n := i + 2) (by omega) (by omega)) dL_law_483 rfl ?_
  refine k_st (st2 := (.int (xs (i + 2)) :: _)) (congrArg (fun z => Value.int z :: _) (show xs (nI (i + 2)).toNatClampNeg = xs (i + 2) from congrArg xs (nI_clamp (n := i + 2) (by omega)))) ?_
  refine k_callVI (n := 2) (q := 487) (pre := ([(ob, .inl (cy 4, 1, .inr (.inl ou)))] ++ ((wXo b cy (a 0) r nx sn ln (svOf sk) (kpOf sk) ik bf ++ wRd r kd hg nu dg ng tk) ++ (wSky a cy n lit h t s g kn lo lf nm ++ wOth sk cy S)))) (post := ([] : va_W)) (w2 := (([(ob, .inl (cy 4, 1, .inr (.inl ou)))] ++ ((wXo b cy (a 0) r nx sn ln (svOf sk) (kpOf sk) ik bf ++ wRd r kd hg nu dg ng tk) ++ (wSky a cy n lit h t s g kn lo lf nm ++ wOth sk cy S))) ++ (wM aM cy 1 smM lnM ptM sgM fiM seM (mSt nM oM hM tM sM gM knM loM lfM nmM) svM slM ikM bfM coM goM foM))) (As := [.int (xs (i + 1)), .int (xs (i + 2))]) (rest := []) C (c_X4_set_e cy aM thM smM lnM ptM sgM fiM seM nM oM hM tM sM gM knM loM lfM nmM svM slM ikM bfM coM goM foM (xs (i + 1)) (xs (i + 2)) hx) gL_law_X4_set rfl rfl rfl (by decide +kernel) (k_room hR (by decide)) (k_le hR (by omega)) (ci := 4) rfl 0 rfl rfl rfl (Nat.le_of_ble_eq_true rfl) (k_pre) (k_pre.symm) dL_law_484 rfl ?_
  refine k_istore (q := 489) (fr2 := [(6, .int 0), (5, .int 1), (4, .int (nI i)), (3, .ref ob), (2, .ref (aM 0)), (1, .ref (b 0)), (0, .ref sb)]) C dL_law_487 (by decide) rfl rfl ?_
  refine k_aload_n (q := 490) C 4 dL_law_489 rfl rfl ?_
  refine k_callVI (n := 0) (q := 493) (pre := ([(ob, .inl (cy 4, 1, .inr (.inl ou)))] ++ ((wXo b cy (a 0) r nx sn ln (svOf sk) (kpOf sk) ik bf ++ wRd r kd hg nu dg ng tk) ++ (wSky a cy n lit h t s g kn lo lf nm ++ wOth sk cy S)))) (post := ([] : va_W)) (w2 := (([(ob, .inl (cy 4, 1, .inr (.inl ou)))] ++ ((wXo b cy (a 0) r nx sn ln (svOf sk) (kpOf sk) ik bf ++ wRd r kd hg nu dg ng tk) ++ (wSky a cy n lit h t s g kn lo lf nm ++ wOth sk cy S))) ++ (wM aM cy 1 smM lnM ptM sgM fiM seM (mSt nM oM hM tM sM gM knM loM lfM nmM) svM slM ikM bfM coM goM foM))) (As := []) (rest := []) C (c_X4_thrown cy aM 1 smM lnM ptM sgM fiM seM nM oM hM tM sM gM knM loM lfM nmM svM slM ikM bfM coM goM foM) gL_law_X4_thrown rfl rfl rfl (by decide +kernel) (k_room hR (by decide)) (k_le hR (by omega)) (ci := 4) rfl 0 rfl rfl rfl (Nat.le_of_ble_eq_true rfl) (k_pre) (k_pre.symm) dL_law_490 rfl ?_
  refine k_iload (q := 495) C 1 dL_law_493 rfl rfl ?_
  refine k_icmp_eq (tgt := 500) (q := 498) C dL_law_495 (by decide) rfl ?_ ?_
  · intro c_495
    refine k_iload (q := 502) C 1 dL_law_500 rfl rfl ?_
    refine k_if_ne (tgt := 517) (q := 505) C dL_law_502 (by decide) rfl ?_ ?_
    · intro c_502
      refine k_goto (q := 1415) C dL_law_517 (by decide) ?_
      refine k_fr (fr2 := [(4, .int (nI i)), (3, .ref ob), (2, .ref (aM 0)), (1, .ref (b 0)), (0, .ref sb)]) ⟨[2, 3, 4, 5, 6], rfl⟩ ?_
      exact E nx sn ln S ik bf kd hg nu dg ng tk ((n, lit, h, t, s, g, kn, lo, lf, nm) : CK) ou 1 smM lnM ptM sgM fiM seM ((nM, oM, hM, tM, sM, gM, knM, loM, lfM, nmM) : SK) svM slM ikM bfM coM goM foM (hgR)
    · exact fun c_502 => absurd c_502 (by decide)
  · exact fun c_495 => absurd c_495 (by decide)
set_option maxHeartbeats 4000000 in
set_option maxRecDepth 100000 in
theorem lw_set_e2 (cy : Nat → ClassId) (a : Nat → Nat) (b : Nat → Nat) (r : Nat) (nx : Nat) (sn : Nat) (ln : Nat) (sk : Nat → Nat → Nat) (S : Nat → CK) (ik : Nat → Int32) (bf : Nat → Nat) (kd : Nat) (hg : Nat) (nu : Nat) (dg : Nat) (ng : Bool) (tk : Bool) (n : Nat) (lit : Int32) (h : Nat → Int32) (t : Nat → Int32) (s : Nat → Int32) (g : Nat → Int32) (kn : Nat) (lo : Int32) (lf : Int32) (nm : Nat → Int32) (ob : Nat) (ou : Nat → Int64) (aM : Nat → Nat) (thM : Int32) (smM : Nat) (lnM : Nat) (ptM : Nat) (sgM : Nat) (fiM : Int32) (seM : Int32) (nM : Nat) (oM : Nat → Int32) (hM : Nat → Int32) (tM : Nat → Int32) (sM : Nat → Int32) (gM : Nat → Int32) (knM : Nat) (loM : Int32) (lfM : Int32) (nmM : Nat → Int32) (svM : Nat → Int32) (slM : Nat → Int32) (ikM : Nat → Int32) (bfM : Nat → Nat) (coM : Nat → Int32) (goM : Nat → Int32) (foM : Nat → Int32) (j : Nat) (X : kX) (hR : xR X = room_1) (C : kC X 9 RL cL_law wsL_law cy) (Z : kZ (xA X) (xS X) (xS X).heap) (hst : (xL X).stackTraces = false) (sb i L ce sl : Nat) (xs : Nat → Int32) (hX : va_X sb L xs (xS X) (xS X).heap) (hbl : sb < (xS X).heap.size) (hbA : ¬ (xA X) sb) (hL : L ≤ 2048) (hi : i + 4 ≤ L) (hce : ce + 1 ≤ 620303 ∧ sl + 6 ≤ 7235195) (E : lwE X cy a b r sk ob aM sb i ce sl) (hgR : gR nx sn ln ik bf ((n, lit, h, t, s, g, kn, lo, lf, nm) : CK) S smM lnM ((nM, oM, hM, tM, sM, gM, knM, loM, lfM, nmM) : SK) svM slM ikM bfM) (hj : j < 4) (hx1 : xs (i + 1) = nI j) (hy : ¬ (mLeast j ≤ xs (i + 2) ∧ xs (i + 2) ≤ mMost j)) : kG X 9 ce sl (([(ob, .inl (cy 4, 1, .inr (.inl ou)))] ++ ((wXo b cy (a 0) r nx sn ln (svOf sk) (kpOf sk) ik bf ++ wRd r kd hg nu dg ng tk) ++ (wSky a cy n lit h t s g kn lo lf nm ++ wOth sk cy S))) ++ (wM aM cy thM smM lnM ptM sgM fiM seM (mSt nM oM hM tM sM gM knM loM lfM nmM) svM slM ikM bfM coM goM foM)) 452 [(4, .int (nI i)), (3, .ref ob), (2, .ref (aM 0)), (1, .ref (b 0)), (0, .ref sb)] [] := by
  obtain ⟨hr, hsn, hri, hke, hln, hl60, hbf, hb126⟩ := id hgR
  have hnx := hri.2.1
  have hsm := hri.1
  have hn := hr.1.1
  have en : n = nM := hr.2.1
  have el : lit = mLit oM := hr.2.2.1
  have hH := hr.2.2.2.1
  have hT := hr.2.2.2.2.1
  have hS := hr.2.2.2.2.2.1
  have hG := hr.2.2.2.2.2.2.1
  have ekn : kn = knM := hr.2.2.2.2.2.2.2.1
  have ho := hr.1.2.1
  have hs0 := hr.1.2.2.1
  have hs1 := hr.1.2.2.2.1
  have hk8 := hr.1.2.2.2.2.1
  have hn6 : n ≤ 6 := by rw [en]; exact hn
  have hkn8 : kn ≤ 8 := by rw [ekn]; exact hk8
  have hsn6 : sn ≤ 6 := by omega
  refine k_aload_n (q := 453) C 3 dL_law_452 rfl rfl ?_
  refine k_aload_n (q := 454) C 4 dL_law_453 rfl rfl ?_
  refine k_iload (q := 456) C 0 dL_law_454 rfl rfl ?_
  refine k_iconst (q := 457) (v := 1) C dL_law_456 (by decide) rfl ?_
  refine k_iadd (q := 458) C dL_law_457 rfl ?_
  refine k_st (st2 := (.int (nI (i + 1)) :: _)) (congrArg (fun z => Value.int z :: _) (show (nI i) + 1 = nI (i + 1) from nI_add i 1)) ?_
  refine k_sld (q := 459) C hX hbl hbA (vp_in_nI (n := i + 1) (by omega) (by omega)) dL_law_458 rfl ?_
  refine k_st (st2 := (.int (xs (i + 1)) :: _)) (congrArg (fun z => Value.int z :: _) (show xs (nI (i + 1)).toNatClampNeg = xs (i + 1) from congrArg xs (nI_clamp (n := i + 1) (by omega)))) ?_
  refine k_st (st2 := (.int (nI j) :: _)) (congrArg (fun z => Value.int z :: _) (show xs (i + 1) = nI j from hx1)) ?_
  refine k_aload_n (q := 460) C 4 dL_law_459 rfl rfl ?_
  refine k_iload (q := 462) C 0 dL_law_460 rfl rfl ?_
  refine k_iconst (q := 463) (v := 2) C dL_law_462 (by decide) rfl ?_
  refine k_iadd (q := 464) C dL_law_463 rfl ?_
  refine k_st (st2 := (.int (nI (i + 2)) :: _)) (congrArg (fun z => Value.int z :: _) (show (nI i) + 2 = nI (i + 2) from nI_add i 2)) ?_
  refine k_sld (q := 465) C hX hbl hbA (vp_in_nI (n := i + 2) (by omega) (by omega)) dL_law_464 rfl ?_
  refine k_st (st2 := (.int (xs (i + 2)) :: _)) (congrArg (fun z => Value.int z :: _) (show xs (nI (i + 2)).toNatClampNeg = xs (i + 2) from congrArg xs (nI_clamp (n := i + 2) (by omega)))) ?_
  refine k_aload_n (q := 466) C 1 dL_law_465 rfl rfl ?_
  refine k_callSL (n := 4) (q := 469) (pre := ([] : va_W)) (post := (wM aM cy thM smM lnM ptM sgM fiM seM (mSt nM oM hM tM sM gM knM loM lfM nmM) svM slM ikM bfM coM goM foM)) (w2 := (([(ob, .inl (cy 4, 1, .inr (.inl ou)))] ++ ((wXo b cy (a 0) r nx sn ln (svOf sk) (kpOf sk) ik bf ++ wRd r kd hg nu dg ng tk) ++ (wSky a cy n lit h t s g kn lo lf nm ++ wOth sk cy S))) ++ (wM aM cy thM smM lnM ptM sgM fiM seM (mSt nM oM hM tM sM gM knM loM lfM nmM) svM slM ikM bfM coM goM foM))) (As := [.ref (b 0), .int (nI j), .int (xs (i + 2)), .ref ob]) (rest := []) C Z hst (c_L_set_e2 cy a b r nx sn ln sk S ik bf kd hg nu dg ng tk n lit h t s g kn lo lf nm ob ou j (xs (i + 2)) hj hy) gL_law_L_set rfl rfl rfl (by decide +kernel) (k_room hR (by decide)) (k_le hR (by omega)) rfl rfl (Nat.le_of_ble_eq_true rfl) (rfl) (rfl) dL_law_466 rfl ?_
  refine k_istore (q := 471) (fr2 := [(5, .int 2), (4, .int (nI i)), (3, .ref ob), (2, .ref (aM 0)), (1, .ref (b 0)), (0, .ref sb)]) C dL_law_469 (by decide) rfl rfl ?_
  refine k_aload_n (q := 472) C 3 dL_law_471 rfl rfl ?_
  refine k_aload_n (q := 473) C 5 dL_law_472 rfl rfl ?_
  refine k_iload (q := 475) C 1 dL_law_473 rfl rfl ?_
  refine k_iconst (q := 476) (v := 1) C dL_law_475 (by decide) rfl ?_
  refine k_iadd (q := 477) C dL_law_476 rfl ?_
  refine k_st (st2 := (.int (nI (i + 1)) :: _)) (congrArg (fun z => Value.int z :: _) (show (nI i) + 1 = nI (i + 1) from nI_add i 1)) ?_
  refine k_sld (q := 478) C hX hbl hbA (vp_in_nI (n := i + 1) (by omega) (by omega)) dL_law_477 rfl ?_
  refine k_st (st2 := (.int (xs (i + 1)) :: _)) (congrArg (fun z => Value.int z :: _) (show xs (nI (i + 1)).toNatClampNeg = xs (i + 1) from congrArg xs (nI_clamp (n := i + 1) (by omega)))) ?_
  refine k_st (st2 := (.int (nI j) :: _)) (congrArg (fun z => Value.int z :: _) (show xs (i + 1) = nI j from hx1)) ?_
  refine k_aload_n (q := 479) C 5 dL_law_478 rfl rfl ?_
  refine k_iload (q := 481) C 1 dL_law_479 rfl rfl ?_
  refine k_iconst (q := 482) (v := 2) C dL_law_481 (by decide) rfl ?_
  refine k_iadd (q := 483) C dL_law_482 rfl ?_
  refine k_st (st2 := (.int (nI (i + 2)) :: _)) (congrArg (fun z => Value.int z :: _) (show (nI i) + 2 = nI (i + 2) from nI_add i 2)) ?_
  refine k_sld (q := 484) C hX hbl hbA (vp_in_nI (n := i + 2) (by omega) (by omega)) dL_law_483 rfl ?_
  refine k_st (st2 := (.int (xs (i + 2)) :: _)) (congrArg (fun z => Value.int z :: _) (show xs (nI (i + 2)).toNatClampNeg = xs (i + 2) from congrArg xs (nI_clamp (n := i + 2) (by omega)))) ?_
  refine k_callVI (n := 2) (q := 487) (pre := ([(ob, .inl (cy 4, 1, .inr (.inl ou)))] ++ ((wXo b cy (a 0) r nx sn ln (svOf sk) (kpOf sk) ik bf ++ wRd r kd hg nu dg ng tk) ++ (wSky a cy n lit h t s g kn lo lf nm ++ wOth sk cy S)))) (post := ([] : va_W)) (w2 := (([(ob, .inl (cy 4, 1, .inr (.inl ou)))] ++ ((wXo b cy (a 0) r nx sn ln (svOf sk) (kpOf sk) ik bf ++ wRd r kd hg nu dg ng tk) ++ (wSky a cy n lit h t s g kn lo lf nm ++ wOth sk cy S))) ++ (wM aM cy 2 smM lnM ptM sgM fiM seM (mSt nM oM hM tM sM gM knM loM lfM nmM) svM slM ikM bfM coM goM foM))) (As := [.int (nI j), .int (xs (i + 2))]) (rest := []) C (c_X4_set_e2 cy aM thM smM lnM ptM sgM fiM seM nM oM hM tM sM gM knM loM lfM nmM svM slM ikM bfM coM goM foM j (xs (i + 2)) hj hy) gL_law_X4_set rfl rfl rfl (by decide +kernel) (k_room hR (by decide)) (k_le hR (by omega)) (ci := 4) rfl 0 rfl rfl rfl (Nat.le_of_ble_eq_true rfl) (k_pre) (k_pre.symm) dL_law_484 rfl ?_
  refine k_istore (q := 489) (fr2 := [(6, .int 0), (5, .int 2), (4, .int (nI i)), (3, .ref ob), (2, .ref (aM 0)), (1, .ref (b 0)), (0, .ref sb)]) C dL_law_487 (by decide) rfl rfl ?_
  refine k_aload_n (q := 490) C 4 dL_law_489 rfl rfl ?_
  refine k_callVI (n := 0) (q := 493) (pre := ([(ob, .inl (cy 4, 1, .inr (.inl ou)))] ++ ((wXo b cy (a 0) r nx sn ln (svOf sk) (kpOf sk) ik bf ++ wRd r kd hg nu dg ng tk) ++ (wSky a cy n lit h t s g kn lo lf nm ++ wOth sk cy S)))) (post := ([] : va_W)) (w2 := (([(ob, .inl (cy 4, 1, .inr (.inl ou)))] ++ ((wXo b cy (a 0) r nx sn ln (svOf sk) (kpOf sk) ik bf ++ wRd r kd hg nu dg ng tk) ++ (wSky a cy n lit h t s g kn lo lf nm ++ wOth sk cy S))) ++ (wM aM cy 2 smM lnM ptM sgM fiM seM (mSt nM oM hM tM sM gM knM loM lfM nmM) svM slM ikM bfM coM goM foM))) (As := []) (rest := []) C (c_X4_thrown cy aM 2 smM lnM ptM sgM fiM seM nM oM hM tM sM gM knM loM lfM nmM svM slM ikM bfM coM goM foM) gL_law_X4_thrown rfl rfl rfl (by decide +kernel) (k_room hR (by decide)) (k_le hR (by omega)) (ci := 4) rfl 0 rfl rfl rfl (Nat.le_of_ble_eq_true rfl) (k_pre) (k_pre.symm) dL_law_490 rfl ?_
  refine k_iload (q := 495) C 1 dL_law_493 rfl rfl ?_
  refine k_icmp_eq (tgt := 500) (q := 498) C dL_law_495 (by decide) rfl ?_ ?_
  · intro c_495
    refine k_iload (q := 502) C 1 dL_law_500 rfl rfl ?_
    refine k_if_ne (tgt := 517) (q := 505) C dL_law_502 (by decide) rfl ?_ ?_
    · intro c_502
      refine k_goto (q := 1415) C dL_law_517 (by decide) ?_
      refine k_fr (fr2 := [(4, .int (nI i)), (3, .ref ob), (2, .ref (aM 0)), (1, .ref (b 0)), (0, .ref sb)]) ⟨[2, 3, 4, 5, 6], rfl⟩ ?_
      exact E nx sn ln S ik bf kd hg nu dg ng tk ((n, lit, h, t, s, g, kn, lo, lf, nm) : CK) ou 2 smM lnM ptM sgM fiM seM ((nM, oM, hM, tM, sM, gM, knM, loM, lfM, nmM) : SK) svM slM ikM bfM coM goM foM (hgR)
    · exact fun c_502 => absurd c_502 (by decide)
  · exact fun c_495 => absurd c_495 (by decide)
set_option maxHeartbeats 4000000 in
set_option maxRecDepth 100000 in
theorem lw_scan_e (cy : Nat → ClassId) (a : Nat → Nat) (b : Nat → Nat) (r : Nat) (nx : Nat) (sn : Nat) (ln : Nat) (sk : Nat → Nat → Nat) (S : Nat → CK) (ik : Nat → Int32) (bf : Nat → Nat) (kd : Nat) (hg : Nat) (nu : Nat) (dg : Nat) (ng : Bool) (tk : Bool) (n : Nat) (lit : Int32) (h : Nat → Int32) (t : Nat → Int32) (s : Nat → Int32) (g : Nat → Int32) (kn : Nat) (lo : Int32) (lf : Int32) (nm : Nat → Int32) (ob : Nat) (ou : Nat → Int64) (aM : Nat → Nat) (thM : Int32) (smM : Nat) (lnM : Nat) (ptM : Nat) (sgM : Nat) (fiM : Int32) (seM : Int32) (nM : Nat) (oM : Nat → Int32) (hM : Nat → Int32) (tM : Nat → Int32) (sM : Nat → Int32) (gM : Nat → Int32) (knM : Nat) (loM : Int32) (lfM : Int32) (nmM : Nat → Int32) (svM : Nat → Int32) (slM : Nat → Int32) (ikM : Nat → Int32) (bfM : Nat → Nat) (coM : Nat → Int32) (goM : Nat → Int32) (foM : Nat → Int32) (X : kX) (hR : xR X = room_1) (C : kC X 9 RL cL_law wsL_law cy) (Z : kZ (xA X) (xS X) (xS X).heap) (hst : (xL X).stackTraces = false) (sb i L ce sl : Nat) (xs : Nat → Int32) (hX : va_X sb L xs (xS X) (xS X).heap) (hbl : sb < (xS X).heap.size) (hbA : ¬ (xA X) sb) (hL : L ≤ 2048) (hi : i + 4 ≤ L) (hce : ce + 1 ≤ 620303 ∧ sl + 6 ≤ 7235195) (E : lwE X cy a b r sk ob aM sb i ce sl) (hgR : gR nx sn ln ik bf ((n, lit, h, t, s, g, kn, lo, lf, nm) : CK) S smM lnM ((nM, oM, hM, tM, sM, gM, knM, loM, lfM, nmM) : SK) svM slM ikM bfM) (hx : ¬ ((0 ≤ xs (i + 1) ∧ xs (i + 1) ≤ 1) ∧ (0 ≤ xs (i + 2) ∧ xs (i + 2) < nI nM))) : kG X 9 ce sl (([(ob, .inl (cy 4, 1, .inr (.inl ou)))] ++ ((wXo b cy (a 0) r nx sn ln (svOf sk) (kpOf sk) ik bf ++ wRd r kd hg nu dg ng tk) ++ (wSky a cy n lit h t s g kn lo lf nm ++ wOth sk cy S))) ++ (wM aM cy thM smM lnM ptM sgM fiM seM (mSt nM oM hM tM sM gM knM loM lfM nmM) svM slM ikM bfM coM goM foM)) 520 [(4, .int (nI i)), (3, .ref ob), (2, .ref (aM 0)), (1, .ref (b 0)), (0, .ref sb)] [] := by
  obtain ⟨hr, hsn, hri, hke, hln, hl60, hbf, hb126⟩ := id hgR
  have hnx := hri.2.1
  have hsm := hri.1
  have hn := hr.1.1
  have en : n = nM := hr.2.1
  have el : lit = mLit oM := hr.2.2.1
  have hH := hr.2.2.2.1
  have hT := hr.2.2.2.2.1
  have hS := hr.2.2.2.2.2.1
  have hG := hr.2.2.2.2.2.2.1
  have ekn : kn = knM := hr.2.2.2.2.2.2.2.1
  have ho := hr.1.2.1
  have hs0 := hr.1.2.2.1
  have hs1 := hr.1.2.2.2.1
  have hk8 := hr.1.2.2.2.2.1
  have hn6 : n ≤ 6 := by rw [en]; exact hn
  have hkn8 : kn ≤ 8 := by rw [ekn]; exact hk8
  have hsn6 : sn ≤ 6 := by omega
  have hx2 : ¬ ((0 ≤ xs (i + 1) ∧ xs (i + 1) ≤ 1) ∧ (0 ≤ xs (i + 2) ∧ xs (i + 2) < nI n)) := by rw [en]; exact hx
  refine k_aload_n (q := 521) C 3 dL_law_520 rfl rfl ?_
  refine k_aload_n (q := 522) C 4 dL_law_521 rfl rfl ?_
  refine k_iload (q := 524) C 0 dL_law_522 rfl rfl ?_
  refine k_iconst (q := 525) (v := 1) C dL_law_524 (by decide) rfl ?_
  refine k_iadd (q := 526) C dL_law_525 rfl ?_
  refine k_st (st2 := (.int (nI (i + 1)) :: _)) (congrArg (fun z => Value.int z :: _) (show (nI i) + 1 = nI (i + 1) from nI_add i 1)) ?_
  refine k_sld (q := 527) C hX hbl hbA (vp_in_nI (n := i + 1) (by omega) (by omega)) dL_law_526 rfl ?_
  refine k_st (st2 := (.int (xs (i + 1)) :: _)) (congrArg (fun z => Value.int z :: _) (show xs (nI (i + 1)).toNatClampNeg = xs (i + 1) from congrArg xs (nI_clamp (n := i + 1) (by omega)))) ?_
  refine k_aload_n (q := 528) C 4 dL_law_527 rfl rfl ?_
  refine k_iload (q := 530) C 0 dL_law_528 rfl rfl ?_
  refine k_iconst (q := 531) (v := 2) C dL_law_530 (by decide) rfl ?_
  refine k_iadd (q := 532) C dL_law_531 rfl ?_
  refine k_st (st2 := (.int (nI (i + 2)) :: _)) (congrArg (fun z => Value.int z :: _) (show (nI i) + 2 = nI (i + 2) from nI_add i 2)) ?_
  refine k_sld (q := 533) C hX hbl hbA (vp_in_nI (n := i + 2) (by omega) (by omega)) dL_law_532 rfl ?_
  refine k_st (st2 := (.int (xs (i + 2)) :: _)) (congrArg (fun z => Value.int z :: _) (show xs (nI (i + 2)).toNatClampNeg = xs (i + 2) from congrArg xs (nI_clamp (n := i + 2) (by omega)))) ?_
  refine k_aload_n (q := 534) C 1 dL_law_533 rfl rfl ?_
  refine k_callSL (n := 4) (q := 537) (pre := ([] : va_W)) (post := (wM aM cy thM smM lnM ptM sgM fiM seM (mSt nM oM hM tM sM gM knM loM lfM nmM) svM slM ikM bfM coM goM foM)) (w2 := (([(ob, .inl (cy 4, 1, .inr (.inl ou)))] ++ ((wXo b cy (a 0) r nx sn ln (svOf sk) (kpOf sk) ik bf ++ wRd r kd hg nu dg ng tk) ++ (wSky a cy n lit h t s g kn lo lf nm ++ wOth sk cy S))) ++ (wM aM cy thM smM lnM ptM sgM fiM seM (mSt nM oM hM tM sM gM knM loM lfM nmM) svM slM ikM bfM coM goM foM))) (As := [.ref (b 0), .int (xs (i + 1)), .int (xs (i + 2)), .ref ob]) (rest := []) C Z hst (c_L_scan_e cy a b r nx sn ln sk S ik bf kd hg nu dg ng tk n lit h t s g kn lo lf nm ob ou (xs (i + 1)) (xs (i + 2)) hx2) gL_law_L_scan rfl rfl rfl (by decide +kernel) (k_room hR (by decide)) (k_le hR (by omega)) rfl rfl (Nat.le_of_ble_eq_true rfl) (rfl) (rfl) dL_law_534 rfl ?_
  refine k_istore (q := 539) (fr2 := [(5, .int 1), (4, .int (nI i)), (3, .ref ob), (2, .ref (aM 0)), (1, .ref (b 0)), (0, .ref sb)]) C dL_law_537 (by decide) rfl rfl ?_
  refine k_aload_n (q := 540) C 3 dL_law_539 rfl rfl ?_
  refine k_aload_n (q := 541) C 5 dL_law_540 rfl rfl ?_
  refine k_iload (q := 543) C 1 dL_law_541 rfl rfl ?_
  refine k_iconst (q := 544) (v := 1) C dL_law_543 (by decide) rfl ?_
  refine k_iadd (q := 545) C dL_law_544 rfl ?_
  refine k_st (st2 := (.int (nI (i + 1)) :: _)) (congrArg (fun z => Value.int z :: _) (show (nI i) + 1 = nI (i + 1) from nI_add i 1)) ?_
  refine k_sld (q := 546) C hX hbl hbA (vp_in_nI (n := i + 1) (by omega) (by omega)) dL_law_545 rfl ?_
  refine k_st (st2 := (.int (xs (i + 1)) :: _)) (congrArg (fun z => Value.int z :: _) (show xs (nI (i + 1)).toNatClampNeg = xs (i + 1) from congrArg xs (nI_clamp (n := i + 1) (by omega)))) ?_
  refine k_aload_n (q := 547) C 5 dL_law_546 rfl rfl ?_
  refine k_iload (q := 549) C 1 dL_law_547 rfl rfl ?_
  refine k_iconst (q := 550) (v := 2) C dL_law_549 (by decide) rfl ?_
  refine k_iadd (q := 551) C dL_law_550 rfl ?_
  refine k_st (st2 := (.int (nI (i + 2)) :: _)) (congrArg (fun z => Value.int z :: _) (show (nI i) + 2 = nI (i + 2) from nI_add i 2)) ?_
  refine k_sld (q := 552) C hX hbl hbA (vp_in_nI (n := i + 2) (by omega) (by omega)) dL_law_551 rfl ?_
  refine k_st (st2 := (.int (xs (i + 2)) :: _)) (congrArg (fun z => Value.int z :: _) (show xs (nI (i + 2)).toNatClampNeg = xs (i + 2) from congrArg xs (nI_clamp (n := i + 2) (by omega)))) ?_
  refine k_callVI (n := 2) (q := 555) (pre := ([(ob, .inl (cy 4, 1, .inr (.inl ou)))] ++ ((wXo b cy (a 0) r nx sn ln (svOf sk) (kpOf sk) ik bf ++ wRd r kd hg nu dg ng tk) ++ (wSky a cy n lit h t s g kn lo lf nm ++ wOth sk cy S)))) (post := ([] : va_W)) (w2 := (([(ob, .inl (cy 4, 1, .inr (.inl ou)))] ++ ((wXo b cy (a 0) r nx sn ln (svOf sk) (kpOf sk) ik bf ++ wRd r kd hg nu dg ng tk) ++ (wSky a cy n lit h t s g kn lo lf nm ++ wOth sk cy S))) ++ (wM aM cy 1 smM lnM ptM sgM fiM seM (mSt nM oM hM tM sM gM knM loM lfM nmM) svM slM ikM bfM coM goM foM))) (As := [.int (xs (i + 1)), .int (xs (i + 2))]) (rest := []) C (c_X4_scan_e cy aM thM smM lnM ptM sgM fiM seM nM oM hM tM sM gM knM loM lfM nmM svM slM ikM bfM coM goM foM (xs (i + 1)) (xs (i + 2)) hn hx) gL_law_X4_scan rfl rfl rfl (by decide +kernel) (k_room hR (by decide)) (k_le hR (by omega)) (ci := 4) rfl 0 rfl rfl rfl (Nat.le_of_ble_eq_true rfl) (k_pre) (k_pre.symm) dL_law_552 rfl ?_
  refine k_istore (q := 557) (fr2 := [(6, .int 0), (5, .int 1), (4, .int (nI i)), (3, .ref ob), (2, .ref (aM 0)), (1, .ref (b 0)), (0, .ref sb)]) C dL_law_555 (by decide) rfl rfl ?_
  refine k_aload_n (q := 558) C 4 dL_law_557 rfl rfl ?_
  refine k_callVI (n := 0) (q := 561) (pre := ([(ob, .inl (cy 4, 1, .inr (.inl ou)))] ++ ((wXo b cy (a 0) r nx sn ln (svOf sk) (kpOf sk) ik bf ++ wRd r kd hg nu dg ng tk) ++ (wSky a cy n lit h t s g kn lo lf nm ++ wOth sk cy S)))) (post := ([] : va_W)) (w2 := (([(ob, .inl (cy 4, 1, .inr (.inl ou)))] ++ ((wXo b cy (a 0) r nx sn ln (svOf sk) (kpOf sk) ik bf ++ wRd r kd hg nu dg ng tk) ++ (wSky a cy n lit h t s g kn lo lf nm ++ wOth sk cy S))) ++ (wM aM cy 1 smM lnM ptM sgM fiM seM (mSt nM oM hM tM sM gM knM loM lfM nmM) svM slM ikM bfM coM goM foM))) (As := []) (rest := []) C (c_X4_thrown cy aM 1 smM lnM ptM sgM fiM seM nM oM hM tM sM gM knM loM lfM nmM svM slM ikM bfM coM goM foM) gL_law_X4_thrown rfl rfl rfl (by decide +kernel) (k_room hR (by decide)) (k_le hR (by omega)) (ci := 4) rfl 0 rfl rfl rfl (Nat.le_of_ble_eq_true rfl) (k_pre) (k_pre.symm) dL_law_558 rfl ?_
  refine k_iload (q := 563) C 1 dL_law_561 rfl rfl ?_
  refine k_icmp_eq (tgt := 568) (q := 566) C dL_law_563 (by decide) rfl ?_ ?_
  · intro c_563
    refine k_iload (q := 570) C 1 dL_law_568 rfl rfl ?_
    refine k_if_ne (tgt := 585) (q := 573) C dL_law_570 (by decide) rfl ?_ ?_
    · intro c_570
      refine k_goto (q := 1415) C dL_law_585 (by decide) ?_
      refine k_fr (fr2 := [(4, .int (nI i)), (3, .ref ob), (2, .ref (aM 0)), (1, .ref (b 0)), (0, .ref sb)]) ⟨[2, 3, 4, 5, 6], rfl⟩ ?_
      exact E nx sn ln S ik bf kd hg nu dg ng tk ((n, lit, h, t, s, g, kn, lo, lf, nm) : CK) ou 1 smM lnM ptM sgM fiM seM ((nM, oM, hM, tM, sM, gM, knM, loM, lfM, nmM) : SK) svM slM ikM bfM coM goM foM (hgR)
    · exact fun c_570 => absurd c_570 (by decide)
  · exact fun c_563 => absurd c_563 (by decide)
set_option maxHeartbeats 4000000 in
set_option maxRecDepth 100000 in
theorem lw_spot_e (cy : Nat → ClassId) (a : Nat → Nat) (b : Nat → Nat) (r : Nat) (nx : Nat) (sn : Nat) (ln : Nat) (sk : Nat → Nat → Nat) (S : Nat → CK) (ik : Nat → Int32) (bf : Nat → Nat) (kd : Nat) (hg : Nat) (nu : Nat) (dg : Nat) (ng : Bool) (tk : Bool) (n : Nat) (lit : Int32) (h : Nat → Int32) (t : Nat → Int32) (s : Nat → Int32) (g : Nat → Int32) (kn : Nat) (lo : Int32) (lf : Int32) (nm : Nat → Int32) (ob : Nat) (ou : Nat → Int64) (aM : Nat → Nat) (thM : Int32) (smM : Nat) (lnM : Nat) (ptM : Nat) (sgM : Nat) (fiM : Int32) (seM : Int32) (nM : Nat) (oM : Nat → Int32) (hM : Nat → Int32) (tM : Nat → Int32) (sM : Nat → Int32) (gM : Nat → Int32) (knM : Nat) (loM : Int32) (lfM : Int32) (nmM : Nat → Int32) (svM : Nat → Int32) (slM : Nat → Int32) (ikM : Nat → Int32) (bfM : Nat → Nat) (coM : Nat → Int32) (goM : Nat → Int32) (foM : Nat → Int32) (X : kX) (hR : xR X = room_1) (C : kC X 9 RL cL_law wsL_law cy) (Z : kZ (xA X) (xS X) (xS X).heap) (hst : (xL X).stackTraces = false) (sb i L ce sl : Nat) (xs : Nat → Int32) (hX : va_X sb L xs (xS X) (xS X).heap) (hbl : sb < (xS X).heap.size) (hbA : ¬ (xA X) sb) (hL : L ≤ 2048) (hi : i + 4 ≤ L) (hce : ce + 1 ≤ 620303 ∧ sl + 6 ≤ 7235195) (E : lwE X cy a b r sk ob aM sb i ce sl) (hgR : gR nx sn ln ik bf ((n, lit, h, t, s, g, kn, lo, lf, nm) : CK) S smM lnM ((nM, oM, hM, tM, sM, gM, knM, loM, lfM, nmM) : SK) svM slM ikM bfM) (hx : ¬ ((0 ≤ xs (i + 1) ∧ xs (i + 1) ≤ 1) ∧ (0 ≤ xs (i + 2) ∧ xs (i + 2) < nI nM))) : kG X 9 ce sl (([(ob, .inl (cy 4, 1, .inr (.inl ou)))] ++ ((wXo b cy (a 0) r nx sn ln (svOf sk) (kpOf sk) ik bf ++ wRd r kd hg nu dg ng tk) ++ (wSky a cy n lit h t s g kn lo lf nm ++ wOth sk cy S))) ++ (wM aM cy thM smM lnM ptM sgM fiM seM (mSt nM oM hM tM sM gM knM loM lfM nmM) svM slM ikM bfM coM goM foM)) 951 [(4, .int (nI i)), (3, .ref ob), (2, .ref (aM 0)), (1, .ref (b 0)), (0, .ref sb)] [] := by
  obtain ⟨hr, hsn, hri, hke, hln, hl60, hbf, hb126⟩ := id hgR
  have hnx := hri.2.1
  have hsm := hri.1
  have hn := hr.1.1
  have en : n = nM := hr.2.1
  have el : lit = mLit oM := hr.2.2.1
  have hH := hr.2.2.2.1
  have hT := hr.2.2.2.2.1
  have hS := hr.2.2.2.2.2.1
  have hG := hr.2.2.2.2.2.2.1
  have ekn : kn = knM := hr.2.2.2.2.2.2.2.1
  have ho := hr.1.2.1
  have hs0 := hr.1.2.2.1
  have hs1 := hr.1.2.2.2.1
  have hk8 := hr.1.2.2.2.2.1
  have hn6 : n ≤ 6 := by rw [en]; exact hn
  have hkn8 : kn ≤ 8 := by rw [ekn]; exact hk8
  have hsn6 : sn ≤ 6 := by omega
  have hx2 : ¬ ((0 ≤ xs (i + 1) ∧ xs (i + 1) ≤ 1) ∧ (0 ≤ xs (i + 2) ∧ xs (i + 2) < nI n)) := by rw [en]; exact hx
  refine k_aload_n (q := 952) C 3 dL_law_951 rfl rfl ?_
  refine k_aload_n (q := 953) C 4 dL_law_952 rfl rfl ?_
  refine k_iload (q := 955) C 0 dL_law_953 rfl rfl ?_
  refine k_iconst (q := 956) (v := 1) C dL_law_955 (by decide) rfl ?_
  refine k_iadd (q := 957) C dL_law_956 rfl ?_
  refine k_st (st2 := (.int (nI (i + 1)) :: _)) (congrArg (fun z => Value.int z :: _) (show (nI i) + 1 = nI (i + 1) from nI_add i 1)) ?_
  refine k_sld (q := 958) C hX hbl hbA (vp_in_nI (n := i + 1) (by omega) (by omega)) dL_law_957 rfl ?_
  refine k_st (st2 := (.int (xs (i + 1)) :: _)) (congrArg (fun z => Value.int z :: _) (show xs (nI (i + 1)).toNatClampNeg = xs (i + 1) from congrArg xs (nI_clamp (n := i + 1) (by omega)))) ?_
  refine k_aload_n (q := 959) C 4 dL_law_958 rfl rfl ?_
  refine k_iload (q := 961) C 0 dL_law_959 rfl rfl ?_
  refine k_iconst (q := 962) (v := 2) C dL_law_961 (by decide) rfl ?_
  refine k_iadd (q := 963) C dL_law_962 rfl ?_
  refine k_st (st2 := (.int (nI (i + 2)) :: _)) (congrArg (fun z => Value.int z :: _) (show (nI i) + 2 = nI (i + 2) from nI_add i 2)) ?_
  refine k_sld (q := 964) C hX hbl hbA (vp_in_nI (n := i + 2) (by omega) (by omega)) dL_law_963 rfl ?_
  refine k_st (st2 := (.int (xs (i + 2)) :: _)) (congrArg (fun z => Value.int z :: _) (show xs (nI (i + 2)).toNatClampNeg = xs (i + 2) from congrArg xs (nI_clamp (n := i + 2) (by omega)))) ?_
  refine k_aload_n (q := 965) C 4 dL_law_964 rfl rfl ?_
  refine k_iload (q := 967) C 0 dL_law_965 rfl rfl ?_
  refine k_iconst (q := 968) (v := 3) C dL_law_967 (by decide) rfl ?_
  refine k_iadd (q := 969) C dL_law_968 rfl ?_
  refine k_st (st2 := (.int (nI (i + 3)) :: _)) (congrArg (fun z => Value.int z :: _) (show (nI i) + 3 = nI (i + 3) from nI_add i 3)) ?_
  refine k_sld (q := 970) C hX hbl hbA (vp_in_nI (n := i + 3) (by omega) (by omega)) dL_law_969 rfl ?_
  refine k_st (st2 := (.int (xs (i + 3)) :: _)) (congrArg (fun z => Value.int z :: _) (show xs (nI (i + 3)).toNatClampNeg = xs (i + 3) from congrArg xs (nI_clamp (n := i + 3) (by omega)))) ?_
  refine k_aload_n (q := 971) C 1 dL_law_970 rfl rfl ?_
  refine k_callSL (n := 5) (q := 974) (pre := ([] : va_W)) (post := (wM aM cy thM smM lnM ptM sgM fiM seM (mSt nM oM hM tM sM gM knM loM lfM nmM) svM slM ikM bfM coM goM foM)) (w2 := (([(ob, .inl (cy 4, 1, .inr (.inl ou)))] ++ ((wXo b cy (a 0) r nx sn ln (svOf sk) (kpOf sk) ik bf ++ wRd r kd hg nu dg ng tk) ++ (wSky a cy n lit h t s g kn lo lf nm ++ wOth sk cy S))) ++ (wM aM cy thM smM lnM ptM sgM fiM seM (mSt nM oM hM tM sM gM knM loM lfM nmM) svM slM ikM bfM coM goM foM))) (As := [.ref (b 0), .int (xs (i + 1)), .int (xs (i + 2)), .int (xs (i + 3)), .ref ob]) (rest := []) C Z hst (c_L_spot_e cy a b r nx sn ln sk S ik bf kd hg nu dg ng tk n lit h t s g kn lo lf nm ob ou (xs (i + 1)) (xs (i + 2)) (xs (i + 3)) hx2) gL_law_L_spot rfl rfl rfl (by decide +kernel) (k_room hR (by decide)) (k_le hR (by omega)) rfl rfl (Nat.le_of_ble_eq_true rfl) (rfl) (rfl) dL_law_971 rfl ?_
  refine k_istore (q := 976) (fr2 := [(5, .int 1), (4, .int (nI i)), (3, .ref ob), (2, .ref (aM 0)), (1, .ref (b 0)), (0, .ref sb)]) C dL_law_974 (by decide) rfl rfl ?_
  refine k_aload_n (q := 977) C 3 dL_law_976 rfl rfl ?_
  refine k_aload_n (q := 978) C 5 dL_law_977 rfl rfl ?_
  refine k_iload (q := 980) C 1 dL_law_978 rfl rfl ?_
  refine k_iconst (q := 981) (v := 1) C dL_law_980 (by decide) rfl ?_
  refine k_iadd (q := 982) C dL_law_981 rfl ?_
  refine k_st (st2 := (.int (nI (i + 1)) :: _)) (congrArg (fun z => Value.int z :: _) (show (nI i) + 1 = nI (i + 1) from nI_add i 1)) ?_
  refine k_sld (q := 983) C hX hbl hbA (vp_in_nI (n := i + 1) (by omega) (by omega)) dL_law_982 rfl ?_
  refine k_st (st2 := (.int (xs (i + 1)) :: _)) (congrArg (fun z => Value.int z :: _) (show xs (nI (i + 1)).toNatClampNeg = xs (i + 1) from congrArg xs (nI_clamp (n := i + 1) (by omega)))) ?_
  refine k_aload_n (q := 984) C 5 dL_law_983 rfl rfl ?_
  refine k_iload (q := 986) C 1 dL_law_984 rfl rfl ?_
  refine k_iconst (q := 987) (v := 2) C dL_law_986 (by decide) rfl ?_
  refine k_iadd (q := 988) C dL_law_987 rfl ?_
  refine k_st (st2 := (.int (nI (i + 2)) :: _)) (congrArg (fun z => Value.int z :: _) (show (nI i) + 2 = nI (i + 2) from nI_add i 2)) ?_
  refine k_sld (q := 989) C hX hbl hbA (vp_in_nI (n := i + 2) (by omega) (by omega)) dL_law_988 rfl ?_
  refine k_st (st2 := (.int (xs (i + 2)) :: _)) (congrArg (fun z => Value.int z :: _) (show xs (nI (i + 2)).toNatClampNeg = xs (i + 2) from congrArg xs (nI_clamp (n := i + 2) (by omega)))) ?_
  refine k_aload_n (q := 990) C 5 dL_law_989 rfl rfl ?_
  refine k_iload (q := 992) C 1 dL_law_990 rfl rfl ?_
  refine k_iconst (q := 993) (v := 3) C dL_law_992 (by decide) rfl ?_
  refine k_iadd (q := 994) C dL_law_993 rfl ?_
  refine k_st (st2 := (.int (nI (i + 3)) :: _)) (congrArg (fun z => Value.int z :: _) (show (nI i) + 3 = nI (i + 3) from nI_add i 3)) ?_
  refine k_sld (q := 995) C hX hbl hbA (vp_in_nI (n := i + 3) (by omega) (by omega)) dL_law_994 rfl ?_
  refine k_st (st2 := (.int (xs (i + 3)) :: _)) (congrArg (fun z => Value.int z :: _) (show xs (nI (i + 3)).toNatClampNeg = xs (i + 3) from congrArg xs (nI_clamp (n := i + 3) (by omega)))) ?_
  refine k_callVI (n := 3) (q := 998) (pre := ([(ob, .inl (cy 4, 1, .inr (.inl ou)))] ++ ((wXo b cy (a 0) r nx sn ln (svOf sk) (kpOf sk) ik bf ++ wRd r kd hg nu dg ng tk) ++ (wSky a cy n lit h t s g kn lo lf nm ++ wOth sk cy S)))) (post := ([] : va_W)) (w2 := (([(ob, .inl (cy 4, 1, .inr (.inl ou)))] ++ ((wXo b cy (a 0) r nx sn ln (svOf sk) (kpOf sk) ik bf ++ wRd r kd hg nu dg ng tk) ++ (wSky a cy n lit h t s g kn lo lf nm ++ wOth sk cy S))) ++ (wM aM cy 1 smM lnM ptM sgM fiM seM (mSt nM oM hM tM sM gM knM loM lfM nmM) svM slM ikM bfM coM goM foM))) (As := [.int (xs (i + 1)), .int (xs (i + 2)), .int (xs (i + 3))]) (rest := []) C (c_X4_spot_e cy aM thM smM lnM ptM sgM fiM seM nM oM hM tM sM gM knM loM lfM nmM svM slM ikM bfM coM goM foM (xs (i + 1)) (xs (i + 2)) (xs (i + 3)) hn hx) gL_law_X4_spot rfl rfl rfl (by decide +kernel) (k_room hR (by decide)) (k_le hR (by omega)) (ci := 4) rfl 0 rfl rfl rfl (Nat.le_of_ble_eq_true rfl) (k_pre) (k_pre.symm) dL_law_995 rfl ?_
  refine k_istore (q := 1000) (fr2 := [(6, .int 0), (5, .int 1), (4, .int (nI i)), (3, .ref ob), (2, .ref (aM 0)), (1, .ref (b 0)), (0, .ref sb)]) C dL_law_998 (by decide) rfl rfl ?_
  refine k_aload_n (q := 1001) C 4 dL_law_1000 rfl rfl ?_
  refine k_callVI (n := 0) (q := 1004) (pre := ([(ob, .inl (cy 4, 1, .inr (.inl ou)))] ++ ((wXo b cy (a 0) r nx sn ln (svOf sk) (kpOf sk) ik bf ++ wRd r kd hg nu dg ng tk) ++ (wSky a cy n lit h t s g kn lo lf nm ++ wOth sk cy S)))) (post := ([] : va_W)) (w2 := (([(ob, .inl (cy 4, 1, .inr (.inl ou)))] ++ ((wXo b cy (a 0) r nx sn ln (svOf sk) (kpOf sk) ik bf ++ wRd r kd hg nu dg ng tk) ++ (wSky a cy n lit h t s g kn lo lf nm ++ wOth sk cy S))) ++ (wM aM cy 1 smM lnM ptM sgM fiM seM (mSt nM oM hM tM sM gM knM loM lfM nmM) svM slM ikM bfM coM goM foM))) (As := []) (rest := []) C (c_X4_thrown cy aM 1 smM lnM ptM sgM fiM seM nM oM hM tM sM gM knM loM lfM nmM svM slM ikM bfM coM goM foM) gL_law_X4_thrown rfl rfl rfl (by decide +kernel) (k_room hR (by decide)) (k_le hR (by omega)) (ci := 4) rfl 0 rfl rfl rfl (Nat.le_of_ble_eq_true rfl) (k_pre) (k_pre.symm) dL_law_1001 rfl ?_
  refine k_iload (q := 1006) C 1 dL_law_1004 rfl rfl ?_
  refine k_icmp_eq (tgt := 1011) (q := 1009) C dL_law_1006 (by decide) rfl ?_ ?_
  · intro c_1006
    refine k_iload (q := 1013) C 1 dL_law_1011 rfl rfl ?_
    refine k_if_ne (tgt := 1028) (q := 1016) C dL_law_1013 (by decide) rfl ?_ ?_
    · intro c_1013
      refine k_goto (q := 1415) C dL_law_1028 (by decide) ?_
      refine k_fr (fr2 := [(4, .int (nI i)), (3, .ref ob), (2, .ref (aM 0)), (1, .ref (b 0)), (0, .ref sb)]) ⟨[2, 3, 4, 5, 6], rfl⟩ ?_
      exact E nx sn ln S ik bf kd hg nu dg ng tk ((n, lit, h, t, s, g, kn, lo, lf, nm) : CK) ou 1 smM lnM ptM sgM fiM seM ((nM, oM, hM, tM, sM, gM, knM, loM, lfM, nmM) : SK) svM slM ikM bfM coM goM foM (hgR)
    · exact fun c_1013 => absurd c_1013 (by decide)
  · exact fun c_1006 => absurd c_1006 (by decide)
set_option maxHeartbeats 4000000 in
set_option maxRecDepth 100000 in
theorem lw_nearest_e (cy : Nat → ClassId) (a : Nat → Nat) (b : Nat → Nat) (r : Nat) (nx : Nat) (sn : Nat) (ln : Nat) (sk : Nat → Nat → Nat) (S : Nat → CK) (ik : Nat → Int32) (bf : Nat → Nat) (kd : Nat) (hg : Nat) (nu : Nat) (dg : Nat) (ng : Bool) (tk : Bool) (n : Nat) (lit : Int32) (h : Nat → Int32) (t : Nat → Int32) (s : Nat → Int32) (g : Nat → Int32) (kn : Nat) (lo : Int32) (lf : Int32) (nm : Nat → Int32) (ob : Nat) (ou : Nat → Int64) (aM : Nat → Nat) (thM : Int32) (smM : Nat) (lnM : Nat) (ptM : Nat) (sgM : Nat) (fiM : Int32) (seM : Int32) (nM : Nat) (oM : Nat → Int32) (hM : Nat → Int32) (tM : Nat → Int32) (sM : Nat → Int32) (gM : Nat → Int32) (knM : Nat) (loM : Int32) (lfM : Int32) (nmM : Nat → Int32) (svM : Nat → Int32) (slM : Nat → Int32) (ikM : Nat → Int32) (bfM : Nat → Nat) (coM : Nat → Int32) (goM : Nat → Int32) (foM : Nat → Int32) (X : kX) (hR : xR X = room_1) (C : kC X 9 RL cL_law wsL_law cy) (Z : kZ (xA X) (xS X) (xS X).heap) (hst : (xL X).stackTraces = false) (sb i L ce sl : Nat) (xs : Nat → Int32) (hX : va_X sb L xs (xS X) (xS X).heap) (hbl : sb < (xS X).heap.size) (hbA : ¬ (xA X) sb) (hL : L ≤ 2048) (hi : i + 4 ≤ L) (hce : ce + 1 ≤ 620303 ∧ sl + 6 ≤ 7235195) (E : lwE X cy a b r sk ob aM sb i ce sl) (hgR : gR nx sn ln ik bf ((n, lit, h, t, s, g, kn, lo, lf, nm) : CK) S smM lnM ((nM, oM, hM, tM, sM, gM, knM, loM, lfM, nmM) : SK) svM slM ikM bfM) (hx : ¬ ((0 ≤ xs (i + 1) ∧ xs (i + 1) ≤ 1) ∧ (0 ≤ xs (i + 2) ∧ xs (i + 2) < nI nM))) : kG X 9 ce sl (([(ob, .inl (cy 4, 1, .inr (.inl ou)))] ++ ((wXo b cy (a 0) r nx sn ln (svOf sk) (kpOf sk) ik bf ++ wRd r kd hg nu dg ng tk) ++ (wSky a cy n lit h t s g kn lo lf nm ++ wOth sk cy S))) ++ (wM aM cy thM smM lnM ptM sgM fiM seM (mSt nM oM hM tM sM gM knM loM lfM nmM) svM slM ikM bfM coM goM foM)) 1211 [(4, .int (nI i)), (3, .ref ob), (2, .ref (aM 0)), (1, .ref (b 0)), (0, .ref sb)] [] := by
  obtain ⟨hr, hsn, hri, hke, hln, hl60, hbf, hb126⟩ := id hgR
  have hnx := hri.2.1
  have hsm := hri.1
  have hn := hr.1.1
  have en : n = nM := hr.2.1
  have el : lit = mLit oM := hr.2.2.1
  have hH := hr.2.2.2.1
  have hT := hr.2.2.2.2.1
  have hS := hr.2.2.2.2.2.1
  have hG := hr.2.2.2.2.2.2.1
  have ekn : kn = knM := hr.2.2.2.2.2.2.2.1
  have ho := hr.1.2.1
  have hs0 := hr.1.2.2.1
  have hs1 := hr.1.2.2.2.1
  have hk8 := hr.1.2.2.2.2.1
  have hn6 : n ≤ 6 := by rw [en]; exact hn
  have hkn8 : kn ≤ 8 := by rw [ekn]; exact hk8
  have hsn6 : sn ≤ 6 := by omega
  have hx2 : ¬ ((0 ≤ xs (i + 1) ∧ xs (i + 1) ≤ 1) ∧ (0 ≤ xs (i + 2) ∧ xs (i + 2) < nI n)) := by rw [en]; exact hx
  refine k_aload_n (q := 1212) C 3 dL_law_1211 rfl rfl ?_
  refine k_aload_n (q := 1213) C 4 dL_law_1212 rfl rfl ?_
  refine k_iload (q := 1215) C 0 dL_law_1213 rfl rfl ?_
  refine k_iconst (q := 1216) (v := 1) C dL_law_1215 (by decide) rfl ?_
  refine k_iadd (q := 1217) C dL_law_1216 rfl ?_
  refine k_st (st2 := (.int (nI (i + 1)) :: _)) (congrArg (fun z => Value.int z :: _) (show (nI i) + 1 = nI (i + 1) from nI_add i 1)) ?_
  refine k_sld (q := 1218) C hX hbl hbA (vp_in_nI (n := i + 1) (by omega) (by omega)) dL_law_1217 rfl ?_
  refine k_st (st2 := (.int (xs (i + 1)) :: _)) (congrArg (fun z => Value.int z :: _) (show xs (nI (i + 1)).toNatClampNeg = xs (i + 1) from congrArg xs (nI_clamp (n := i + 1) (by omega)))) ?_
  refine k_aload_n (q := 1219) C 4 dL_law_1218 rfl rfl ?_
  refine k_iload (q := 1221) C 0 dL_law_1219 rfl rfl ?_
  refine k_iconst (q := 1222) (v := 2) C dL_law_1221 (by decide) rfl ?_
  refine k_iadd (q := 1223) C dL_law_1222 rfl ?_
  refine k_st (st2 := (.int (nI (i + 2)) :: _)) (congrArg (fun z => Value.int z :: _) (show (nI i) + 2 = nI (i + 2) from nI_add i 2)) ?_
  refine k_sld (q := 1224) C hX hbl hbA (vp_in_nI (n := i + 2) (by omega) (by omega)) dL_law_1223 rfl ?_
  refine k_st (st2 := (.int (xs (i + 2)) :: _)) (congrArg (fun z => Value.int z :: _) (show xs (nI (i + 2)).toNatClampNeg = xs (i + 2) from congrArg xs (nI_clamp (n := i + 2) (by omega)))) ?_
  refine k_aload_n (q := 1225) C 4 dL_law_1224 rfl rfl ?_
  refine k_iload (q := 1227) C 0 dL_law_1225 rfl rfl ?_
  refine k_iconst (q := 1228) (v := 3) C dL_law_1227 (by decide) rfl ?_
  refine k_iadd (q := 1229) C dL_law_1228 rfl ?_
  refine k_st (st2 := (.int (nI (i + 3)) :: _)) (congrArg (fun z => Value.int z :: _) (show (nI i) + 3 = nI (i + 3) from nI_add i 3)) ?_
  refine k_sld (q := 1230) C hX hbl hbA (vp_in_nI (n := i + 3) (by omega) (by omega)) dL_law_1229 rfl ?_
  refine k_st (st2 := (.int (xs (i + 3)) :: _)) (congrArg (fun z => Value.int z :: _) (show xs (nI (i + 3)).toNatClampNeg = xs (i + 3) from congrArg xs (nI_clamp (n := i + 3) (by omega)))) ?_
  refine k_aload_n (q := 1231) C 1 dL_law_1230 rfl rfl ?_
  refine k_callSL (n := 5) (q := 1234) (pre := ([] : va_W)) (post := (wM aM cy thM smM lnM ptM sgM fiM seM (mSt nM oM hM tM sM gM knM loM lfM nmM) svM slM ikM bfM coM goM foM)) (w2 := (([(ob, .inl (cy 4, 1, .inr (.inl ou)))] ++ ((wXo b cy (a 0) r nx sn ln (svOf sk) (kpOf sk) ik bf ++ wRd r kd hg nu dg ng tk) ++ (wSky a cy n lit h t s g kn lo lf nm ++ wOth sk cy S))) ++ (wM aM cy thM smM lnM ptM sgM fiM seM (mSt nM oM hM tM sM gM knM loM lfM nmM) svM slM ikM bfM coM goM foM))) (As := [.ref (b 0), .int (xs (i + 1)), .int (xs (i + 2)), .int (xs (i + 3)), .ref ob]) (rest := []) C Z hst (c_L_nearest_e cy a b r nx sn ln sk S ik bf kd hg nu dg ng tk n lit h t s g kn lo lf nm ob ou (xs (i + 1)) (xs (i + 2)) (xs (i + 3)) hx2) gL_law_L_nearest rfl rfl rfl (by decide +kernel) (k_room hR (by decide)) (k_le hR (by omega)) rfl rfl (Nat.le_of_ble_eq_true rfl) (rfl) (rfl) dL_law_1231 rfl ?_
  refine k_istore (q := 1236) (fr2 := [(5, .int 1), (4, .int (nI i)), (3, .ref ob), (2, .ref (aM 0)), (1, .ref (b 0)), (0, .ref sb)]) C dL_law_1234 (by decide) rfl rfl ?_
  refine k_aload_n (q := 1237) C 3 dL_law_1236 rfl rfl ?_
  refine k_aload_n (q := 1238) C 5 dL_law_1237 rfl rfl ?_
  refine k_iload (q := 1240) C 1 dL_law_1238 rfl rfl ?_
  refine k_iconst (q := 1241) (v := 1) C dL_law_1240 (by decide) rfl ?_
  refine k_iadd (q := 1242) C dL_law_1241 rfl ?_
  refine k_st (st2 := (.int (nI (i + 1)) :: _)) (congrArg (fun z => Value.int z :: _) (show (nI i) + 1 = nI (i + 1) from nI_add i 1)) ?_
  refine k_sld (q := 1243) C hX hbl hbA (vp_in_nI (n := i + 1) (by omega) (by omega)) dL_law_1242 rfl ?_
  refine k_st (st2 := (.int (xs (i + 1)) :: _)) (congrArg (fun z => Value.int z :: _) (show xs (nI (i + 1)).toNatClampNeg = xs (i + 1) from congrArg xs (nI_clamp (n := i + 1) (by omega)))) ?_
  refine k_aload_n (q := 1244) C 5 dL_law_1243 rfl rfl ?_
  refine k_iload (q := 1246) C 1 dL_law_1244 rfl rfl ?_
  refine k_iconst (q := 1247) (v := 2) C dL_law_1246 (by decide) rfl ?_
  refine k_iadd (q := 1248) C dL_law_1247 rfl ?_
  refine k_st (st2 := (.int (nI (i + 2)) :: _)) (congrArg (fun z => Value.int z :: _) (show (nI i) + 2 = nI (i + 2) from nI_add i 2)) ?_
  refine k_sld (q := 1249) C hX hbl hbA (vp_in_nI (n := i + 2) (by omega) (by omega)) dL_law_1248 rfl ?_
  refine k_st (st2 := (.int (xs (i + 2)) :: _)) (congrArg (fun z => Value.int z :: _) (show xs (nI (i + 2)).toNatClampNeg = xs (i + 2) from congrArg xs (nI_clamp (n := i + 2) (by omega)))) ?_
  refine k_aload_n (q := 1250) C 5 dL_law_1249 rfl rfl ?_
  refine k_iload (q := 1252) C 1 dL_law_1250 rfl rfl ?_
  refine k_iconst (q := 1253) (v := 3) C dL_law_1252 (by decide) rfl ?_
  refine k_iadd (q := 1254) C dL_law_1253 rfl ?_
  refine k_st (st2 := (.int (nI (i + 3)) :: _)) (congrArg (fun z => Value.int z :: _) (show (nI i) + 3 = nI (i + 3) from nI_add i 3)) ?_
  refine k_sld (q := 1255) C hX hbl hbA (vp_in_nI (n := i + 3) (by omega) (by omega)) dL_law_1254 rfl ?_
  refine k_st (st2 := (.int (xs (i + 3)) :: _)) (congrArg (fun z => Value.int z :: _) (show xs (nI (i + 3)).toNatClampNeg = xs (i + 3) from congrArg xs (nI_clamp (n := i + 3) (by omega)))) ?_
  refine k_callVI (n := 3) (q := 1258) (pre := ([(ob, .inl (cy 4, 1, .inr (.inl ou)))] ++ ((wXo b cy (a 0) r nx sn ln (svOf sk) (kpOf sk) ik bf ++ wRd r kd hg nu dg ng tk) ++ (wSky a cy n lit h t s g kn lo lf nm ++ wOth sk cy S)))) (post := ([] : va_W)) (w2 := (([(ob, .inl (cy 4, 1, .inr (.inl ou)))] ++ ((wXo b cy (a 0) r nx sn ln (svOf sk) (kpOf sk) ik bf ++ wRd r kd hg nu dg ng tk) ++ (wSky a cy n lit h t s g kn lo lf nm ++ wOth sk cy S))) ++ (wM aM cy 1 smM lnM ptM sgM fiM seM (mSt nM oM hM tM sM gM knM loM lfM nmM) svM slM ikM bfM coM goM foM))) (As := [.int (xs (i + 1)), .int (xs (i + 2)), .int (xs (i + 3))]) (rest := []) C (c_X4_nearest_e cy aM thM smM lnM ptM sgM fiM seM nM oM hM tM sM gM knM loM lfM nmM svM slM ikM bfM coM goM foM (xs (i + 1)) (xs (i + 2)) (xs (i + 3)) hn hx) gL_law_X4_nearest rfl rfl rfl (by decide +kernel) (k_room hR (by decide)) (k_le hR (by omega)) (ci := 4) rfl 0 rfl rfl rfl (Nat.le_of_ble_eq_true rfl) (k_pre) (k_pre.symm) dL_law_1255 rfl ?_
  refine k_istore (q := 1260) (fr2 := [(6, .int 0), (5, .int 1), (4, .int (nI i)), (3, .ref ob), (2, .ref (aM 0)), (1, .ref (b 0)), (0, .ref sb)]) C dL_law_1258 (by decide) rfl rfl ?_
  refine k_aload_n (q := 1261) C 4 dL_law_1260 rfl rfl ?_
  refine k_callVI (n := 0) (q := 1264) (pre := ([(ob, .inl (cy 4, 1, .inr (.inl ou)))] ++ ((wXo b cy (a 0) r nx sn ln (svOf sk) (kpOf sk) ik bf ++ wRd r kd hg nu dg ng tk) ++ (wSky a cy n lit h t s g kn lo lf nm ++ wOth sk cy S)))) (post := ([] : va_W)) (w2 := (([(ob, .inl (cy 4, 1, .inr (.inl ou)))] ++ ((wXo b cy (a 0) r nx sn ln (svOf sk) (kpOf sk) ik bf ++ wRd r kd hg nu dg ng tk) ++ (wSky a cy n lit h t s g kn lo lf nm ++ wOth sk cy S))) ++ (wM aM cy 1 smM lnM ptM sgM fiM seM (mSt nM oM hM tM sM gM knM loM lfM nmM) svM slM ikM bfM coM goM foM))) (As := []) (rest := []) C (c_X4_thrown cy aM 1 smM lnM ptM sgM fiM seM nM oM hM tM sM gM knM loM lfM nmM svM slM ikM bfM coM goM foM) gL_law_X4_thrown rfl rfl rfl (by decide +kernel) (k_room hR (by decide)) (k_le hR (by omega)) (ci := 4) rfl 0 rfl rfl rfl (Nat.le_of_ble_eq_true rfl) (k_pre) (k_pre.symm) dL_law_1261 rfl ?_
  refine k_iload (q := 1266) C 1 dL_law_1264 rfl rfl ?_
  refine k_icmp_eq (tgt := 1271) (q := 1269) C dL_law_1266 (by decide) rfl ?_ ?_
  · intro c_1266
    refine k_iload (q := 1273) C 1 dL_law_1271 rfl rfl ?_
    refine k_if_ne (tgt := 1288) (q := 1276) C dL_law_1273 (by decide) rfl ?_ ?_
    · intro c_1273
      refine k_goto (q := 1415) C dL_law_1288 (by decide) ?_
      refine k_fr (fr2 := [(4, .int (nI i)), (3, .ref ob), (2, .ref (aM 0)), (1, .ref (b 0)), (0, .ref sb)]) ⟨[2, 3, 4, 5, 6], rfl⟩ ?_
      exact E nx sn ln S ik bf kd hg nu dg ng tk ((n, lit, h, t, s, g, kn, lo, lf, nm) : CK) ou 1 smM lnM ptM sgM fiM seM ((nM, oM, hM, tM, sM, gM, knM, loM, lfM, nmM) : SK) svM slM ikM bfM coM goM foM (hgR)
    · exact fun c_1273 => absurd c_1273 (by decide)
  · exact fun c_1266 => absurd c_1266 (by decide)
set_option maxHeartbeats 4000000 in
set_option maxRecDepth 100000 in
theorem lw_append_e (cy : Nat → ClassId) (a : Nat → Nat) (b : Nat → Nat) (r : Nat) (nx : Nat) (sn : Nat) (ln : Nat) (sk : Nat → Nat → Nat) (S : Nat → CK) (ik : Nat → Int32) (bf : Nat → Nat) (kd : Nat) (hg : Nat) (nu : Nat) (dg : Nat) (ng : Bool) (tk : Bool) (n : Nat) (lit : Int32) (h : Nat → Int32) (t : Nat → Int32) (s : Nat → Int32) (g : Nat → Int32) (kn : Nat) (lo : Int32) (lf : Int32) (nm : Nat → Int32) (ob : Nat) (ou : Nat → Int64) (aM : Nat → Nat) (thM : Int32) (smM : Nat) (lnM : Nat) (ptM : Nat) (sgM : Nat) (fiM : Int32) (seM : Int32) (nM : Nat) (oM : Nat → Int32) (hM : Nat → Int32) (tM : Nat → Int32) (sM : Nat → Int32) (gM : Nat → Int32) (knM : Nat) (loM : Int32) (lfM : Int32) (nmM : Nat → Int32) (svM : Nat → Int32) (slM : Nat → Int32) (ikM : Nat → Int32) (bfM : Nat → Nat) (coM : Nat → Int32) (goM : Nat → Int32) (foM : Nat → Int32) (X : kX) (hR : xR X = room_1) (C : kC X 9 RL cL_law wsL_law cy) (Z : kZ (xA X) (xS X) (xS X).heap) (hst : (xL X).stackTraces = false) (sb i L ce sl : Nat) (xs : Nat → Int32) (hX : va_X sb L xs (xS X) (xS X).heap) (hbl : sb < (xS X).heap.size) (hbA : ¬ (xA X) sb) (hL : L ≤ 2048) (hi : i + 4 ≤ L) (hce : ce + 1 ≤ 620303 ∧ sl + 6 ≤ 7235195) (E : lwE X cy a b r sk ob aM sb i ce sl) (hgR : gR nx sn ln ik bf ((n, lit, h, t, s, g, kn, lo, lf, nm) : CK) S smM lnM ((nM, oM, hM, tM, sM, gM, knM, loM, lfM, nmM) : SK) svM slM ikM bfM) (hx : ¬ (33 ≤ xs (i + 1) ∧ xs (i + 1) ≤ 126)) : kG X 9 ce sl (([(ob, .inl (cy 4, 1, .inr (.inl ou)))] ++ ((wXo b cy (a 0) r nx sn ln (svOf sk) (kpOf sk) ik bf ++ wRd r kd hg nu dg ng tk) ++ (wSky a cy n lit h t s g kn lo lf nm ++ wOth sk cy S))) ++ (wM aM cy thM smM lnM ptM sgM fiM seM (mSt nM oM hM tM sM gM knM loM lfM nmM) svM slM ikM bfM coM goM foM)) 601 [(4, .int (nI i)), (3, .ref ob), (2, .ref (aM 0)), (1, .ref (b 0)), (0, .ref sb)] [] := by
  obtain ⟨hr, hsn, hri, hke, hln, hl60, hbf, hb126⟩ := id hgR
  have hnx := hri.2.1
  have hsm := hri.1
  have hn := hr.1.1
  have en : n = nM := hr.2.1
  have el : lit = mLit oM := hr.2.2.1
  have hH := hr.2.2.2.1
  have hT := hr.2.2.2.2.1
  have hS := hr.2.2.2.2.2.1
  have hG := hr.2.2.2.2.2.2.1
  have ekn : kn = knM := hr.2.2.2.2.2.2.2.1
  have ho := hr.1.2.1
  have hs0 := hr.1.2.2.1
  have hs1 := hr.1.2.2.2.1
  have hk8 := hr.1.2.2.2.2.1
  have hn6 : n ≤ 6 := by rw [en]; exact hn
  have hkn8 : kn ≤ 8 := by rw [ekn]; exact hk8
  have hsn6 : sn ≤ 6 := by omega
  refine k_aload_n (q := 602) C 3 dL_law_601 rfl rfl ?_
  refine k_aload_n (q := 603) C 4 dL_law_602 rfl rfl ?_
  refine k_iload (q := 605) C 0 dL_law_603 rfl rfl ?_
  refine k_iconst (q := 606) (v := 1) C dL_law_605 (by decide) rfl ?_
  refine k_iadd (q := 607) C dL_law_606 rfl ?_
  refine k_st (st2 := (.int (nI (i + 1)) :: _)) (congrArg (fun z => Value.int z :: _) (show (nI i) + 1 = nI (i + 1) from nI_add i 1)) ?_
  refine k_sld (q := 608) C hX hbl hbA (vp_in_nI (n := i + 1) (by omega) (by omega)) dL_law_607 rfl ?_
  refine k_st (st2 := (.int (xs (i + 1)) :: _)) (congrArg (fun z => Value.int z :: _) (show xs (nI (i + 1)).toNatClampNeg = xs (i + 1) from congrArg xs (nI_clamp (n := i + 1) (by omega)))) ?_
  refine k_aload_n (q := 609) C 1 dL_law_608 rfl rfl ?_
  refine k_callSL (n := 3) (q := 612) (pre := ([] : va_W)) (post := (wM aM cy thM smM lnM ptM sgM fiM seM (mSt nM oM hM tM sM gM knM loM lfM nmM) svM slM ikM bfM coM goM foM)) (w2 := (([(ob, .inl (cy 4, 1, .inr (.inl ou)))] ++ ((wXo b cy (a 0) r nx sn ln (svOf sk) (kpOf sk) ik bf ++ wRd r kd hg nu dg ng tk) ++ (wSky a cy n lit h t s g kn lo lf nm ++ wOth sk cy S))) ++ (wM aM cy thM smM lnM ptM sgM fiM seM (mSt nM oM hM tM sM gM knM loM lfM nmM) svM slM ikM bfM coM goM foM))) (As := [.ref (b 0), .int (xs (i + 1)), .ref ob]) (rest := []) C Z hst (c_L_append_e cy a b r nx sn ln sk S ik bf kd hg nu dg ng tk n lit h t s g kn lo lf nm ob ou (xs (i + 1)) hx) gL_law_L_append rfl rfl rfl (by decide +kernel) (k_room hR (by decide)) (k_le hR (by omega)) rfl rfl (Nat.le_of_ble_eq_true rfl) (rfl) (rfl) dL_law_609 rfl ?_
  refine k_istore (q := 614) (fr2 := [(5, .int 1), (4, .int (nI i)), (3, .ref ob), (2, .ref (aM 0)), (1, .ref (b 0)), (0, .ref sb)]) C dL_law_612 (by decide) rfl rfl ?_
  refine k_aload_n (q := 615) C 3 dL_law_614 rfl rfl ?_
  refine k_aload_n (q := 616) C 5 dL_law_615 rfl rfl ?_
  refine k_iload (q := 618) C 1 dL_law_616 rfl rfl ?_
  refine k_iconst (q := 619) (v := 1) C dL_law_618 (by decide) rfl ?_
  refine k_iadd (q := 620) C dL_law_619 rfl ?_
  refine k_st (st2 := (.int (nI (i + 1)) :: _)) (congrArg (fun z => Value.int z :: _) (show (nI i) + 1 = nI (i + 1) from nI_add i 1)) ?_
  refine k_sld (q := 621) C hX hbl hbA (vp_in_nI (n := i + 1) (by omega) (by omega)) dL_law_620 rfl ?_
  refine k_st (st2 := (.int (xs (i + 1)) :: _)) (congrArg (fun z => Value.int z :: _) (show xs (nI (i + 1)).toNatClampNeg = xs (i + 1) from congrArg xs (nI_clamp (n := i + 1) (by omega)))) ?_
  refine k_callVI (n := 1) (q := 624) (pre := ([(ob, .inl (cy 4, 1, .inr (.inl ou)))] ++ ((wXo b cy (a 0) r nx sn ln (svOf sk) (kpOf sk) ik bf ++ wRd r kd hg nu dg ng tk) ++ (wSky a cy n lit h t s g kn lo lf nm ++ wOth sk cy S)))) (post := ([] : va_W)) (w2 := (([(ob, .inl (cy 4, 1, .inr (.inl ou)))] ++ ((wXo b cy (a 0) r nx sn ln (svOf sk) (kpOf sk) ik bf ++ wRd r kd hg nu dg ng tk) ++ (wSky a cy n lit h t s g kn lo lf nm ++ wOth sk cy S))) ++ (wM aM cy 1 smM lnM ptM sgM fiM seM (mSt nM oM hM tM sM gM knM loM lfM nmM) svM slM ikM bfM coM goM foM))) (As := [.int (xs (i + 1))]) (rest := []) C (c_X4_append_e cy aM thM smM lnM ptM sgM fiM seM nM oM hM tM sM gM knM loM lfM nmM svM slM ikM bfM coM goM foM (xs (i + 1)) hx) gL_law_X4_append rfl rfl rfl (by decide +kernel) (k_room hR (by decide)) (k_le hR (by omega)) (ci := 4) rfl 0 rfl rfl rfl (Nat.le_of_ble_eq_true rfl) (k_pre) (k_pre.symm) dL_law_621 rfl ?_
  refine k_istore (q := 626) (fr2 := [(6, .int 0), (5, .int 1), (4, .int (nI i)), (3, .ref ob), (2, .ref (aM 0)), (1, .ref (b 0)), (0, .ref sb)]) C dL_law_624 (by decide) rfl rfl ?_
  refine k_aload_n (q := 627) C 4 dL_law_626 rfl rfl ?_
  refine k_callVI (n := 0) (q := 630) (pre := ([(ob, .inl (cy 4, 1, .inr (.inl ou)))] ++ ((wXo b cy (a 0) r nx sn ln (svOf sk) (kpOf sk) ik bf ++ wRd r kd hg nu dg ng tk) ++ (wSky a cy n lit h t s g kn lo lf nm ++ wOth sk cy S)))) (post := ([] : va_W)) (w2 := (([(ob, .inl (cy 4, 1, .inr (.inl ou)))] ++ ((wXo b cy (a 0) r nx sn ln (svOf sk) (kpOf sk) ik bf ++ wRd r kd hg nu dg ng tk) ++ (wSky a cy n lit h t s g kn lo lf nm ++ wOth sk cy S))) ++ (wM aM cy 1 smM lnM ptM sgM fiM seM (mSt nM oM hM tM sM gM knM loM lfM nmM) svM slM ikM bfM coM goM foM))) (As := []) (rest := []) C (c_X4_thrown cy aM 1 smM lnM ptM sgM fiM seM nM oM hM tM sM gM knM loM lfM nmM svM slM ikM bfM coM goM foM) gL_law_X4_thrown rfl rfl rfl (by decide +kernel) (k_room hR (by decide)) (k_le hR (by omega)) (ci := 4) rfl 0 rfl rfl rfl (Nat.le_of_ble_eq_true rfl) (k_pre) (k_pre.symm) dL_law_627 rfl ?_
  refine k_iload (q := 632) C 1 dL_law_630 rfl rfl ?_
  refine k_icmp_eq (tgt := 637) (q := 635) C dL_law_632 (by decide) rfl ?_ ?_
  · intro c_632
    refine k_iload (q := 639) C 1 dL_law_637 rfl rfl ?_
    refine k_if_ne (tgt := 654) (q := 642) C dL_law_639 (by decide) rfl ?_ ?_
    · intro c_639
      refine k_goto (q := 1415) C dL_law_654 (by decide) ?_
      refine k_fr (fr2 := [(4, .int (nI i)), (3, .ref ob), (2, .ref (aM 0)), (1, .ref (b 0)), (0, .ref sb)]) ⟨[2, 3, 4, 5, 6], rfl⟩ ?_
      exact E nx sn ln S ik bf kd hg nu dg ng tk ((n, lit, h, t, s, g, kn, lo, lf, nm) : CK) ou 1 smM lnM ptM sgM fiM seM ((nM, oM, hM, tM, sM, gM, knM, loM, lfM, nmM) : SK) svM slM ikM bfM coM goM foM (hgR)
    · exact fun c_639 => absurd c_639 (by decide)
  · exact fun c_632 => absurd c_632 (by decide)
set_option maxHeartbeats 4000000 in
set_option maxRecDepth 100000 in
theorem lw_keep_e (cy : Nat → ClassId) (a : Nat → Nat) (b : Nat → Nat) (r : Nat) (nx : Nat) (sn : Nat) (ln : Nat) (sk : Nat → Nat → Nat) (S : Nat → CK) (ik : Nat → Int32) (bf : Nat → Nat) (kd : Nat) (hg : Nat) (nu : Nat) (dg : Nat) (ng : Bool) (tk : Bool) (n : Nat) (lit : Int32) (h : Nat → Int32) (t : Nat → Int32) (s : Nat → Int32) (g : Nat → Int32) (kn : Nat) (lo : Int32) (lf : Int32) (nm : Nat → Int32) (ob : Nat) (ou : Nat → Int64) (aM : Nat → Nat) (thM : Int32) (smM : Nat) (lnM : Nat) (ptM : Nat) (sgM : Nat) (fiM : Int32) (seM : Int32) (nM : Nat) (oM : Nat → Int32) (hM : Nat → Int32) (tM : Nat → Int32) (sM : Nat → Int32) (gM : Nat → Int32) (knM : Nat) (loM : Int32) (lfM : Int32) (nmM : Nat → Int32) (svM : Nat → Int32) (slM : Nat → Int32) (ikM : Nat → Int32) (bfM : Nat → Nat) (coM : Nat → Int32) (goM : Nat → Int32) (foM : Nat → Int32) (X : kX) (hR : xR X = room_1) (C : kC X 9 RL cL_law wsL_law cy) (Z : kZ (xA X) (xS X) (xS X).heap) (hst : (xL X).stackTraces = false) (sb i L ce sl : Nat) (xs : Nat → Int32) (hX : va_X sb L xs (xS X) (xS X).heap) (hbl : sb < (xS X).heap.size) (hbA : ¬ (xA X) sb) (hL : L ≤ 2048) (hi : i + 4 ≤ L) (hce : ce + 1 ≤ 620303 ∧ sl + 6 ≤ 7235195) (E : lwE X cy a b r sk ob aM sb i ce sl) (hgR : gR nx sn ln ik bf ((n, lit, h, t, s, g, kn, lo, lf, nm) : CK) S smM lnM ((nM, oM, hM, tM, sM, gM, knM, loM, lfM, nmM) : SK) svM slM ikM bfM) (hx : ¬ (0 ≤ xs (i + 1) ∧ xs (i + 1) ≤ 1)) : kG X 9 ce sl (([(ob, .inl (cy 4, 1, .inr (.inl ou)))] ++ ((wXo b cy (a 0) r nx sn ln (svOf sk) (kpOf sk) ik bf ++ wRd r kd hg nu dg ng tk) ++ (wSky a cy n lit h t s g kn lo lf nm ++ wOth sk cy S))) ++ (wM aM cy thM smM lnM ptM sgM fiM seM (mSt nM oM hM tM sM gM knM loM lfM nmM) svM slM ikM bfM coM goM foM)) 771 [(4, .int (nI i)), (3, .ref ob), (2, .ref (aM 0)), (1, .ref (b 0)), (0, .ref sb)] [] := by
  obtain ⟨hr, hsn, hri, hke, hln, hl60, hbf, hb126⟩ := id hgR
  have hnx := hri.2.1
  have hsm := hri.1
  have hn := hr.1.1
  have en : n = nM := hr.2.1
  have el : lit = mLit oM := hr.2.2.1
  have hH := hr.2.2.2.1
  have hT := hr.2.2.2.2.1
  have hS := hr.2.2.2.2.2.1
  have hG := hr.2.2.2.2.2.2.1
  have ekn : kn = knM := hr.2.2.2.2.2.2.2.1
  have ho := hr.1.2.1
  have hs0 := hr.1.2.2.1
  have hs1 := hr.1.2.2.2.1
  have hk8 := hr.1.2.2.2.2.1
  have hn6 : n ≤ 6 := by rw [en]; exact hn
  have hkn8 : kn ≤ 8 := by rw [ekn]; exact hk8
  have hsn6 : sn ≤ 6 := by omega
  refine k_aload_n (q := 772) C 3 dL_law_771 rfl rfl ?_
  refine k_aload_n (q := 773) C 4 dL_law_772 rfl rfl ?_
  refine k_iload (q := 775) C 0 dL_law_773 rfl rfl ?_
  refine k_iconst (q := 776) (v := 1) C dL_law_775 (by decide) rfl ?_
  refine k_iadd (q := 777) C dL_law_776 rfl ?_
  refine k_st (st2 := (.int (nI (i + 1)) :: _)) (congrArg (fun z => Value.int z :: _) (show (nI i) + 1 = nI (i + 1) from nI_add i 1)) ?_
  refine k_sld (q := 778) C hX hbl hbA (vp_in_nI (n := i + 1) (by omega) (by omega)) dL_law_777 rfl ?_
  refine k_st (st2 := (.int (xs (i + 1)) :: _)) (congrArg (fun z => Value.int z :: _) (show xs (nI (i + 1)).toNatClampNeg = xs (i + 1) from congrArg xs (nI_clamp (n := i + 1) (by omega)))) ?_
  refine k_aload_n (q := 779) C 1 dL_law_778 rfl rfl ?_
  refine k_callSL (n := 3) (q := 782) (pre := ([] : va_W)) (post := (wM aM cy thM smM lnM ptM sgM fiM seM (mSt nM oM hM tM sM gM knM loM lfM nmM) svM slM ikM bfM coM goM foM)) (w2 := (([(ob, .inl (cy 4, 1, .inr (.inl ou)))] ++ ((wXo b cy (a 0) r nx sn ln (svOf sk) (kpOf sk) ik bf ++ wRd r kd hg nu dg ng tk) ++ (wSky a cy n lit h t s g kn lo lf nm ++ wOth sk cy S))) ++ (wM aM cy thM smM lnM ptM sgM fiM seM (mSt nM oM hM tM sM gM knM loM lfM nmM) svM slM ikM bfM coM goM foM))) (As := [.ref (b 0), .int (xs (i + 1)), .ref ob]) (rest := []) C Z hst (c_L_keep_e cy a b r nx sn ln sk S ik bf kd hg nu dg ng tk n lit h t s g kn lo lf nm ob ou (xs (i + 1)) hx) gL_law_L_keep rfl rfl rfl (by decide +kernel) (k_room hR (by decide)) (k_le hR (by omega)) rfl rfl (Nat.le_of_ble_eq_true rfl) (rfl) (rfl) dL_law_779 rfl ?_
  refine k_istore (q := 784) (fr2 := [(5, .int 1), (4, .int (nI i)), (3, .ref ob), (2, .ref (aM 0)), (1, .ref (b 0)), (0, .ref sb)]) C dL_law_782 (by decide) rfl rfl ?_
  refine k_aload_n (q := 785) C 3 dL_law_784 rfl rfl ?_
  refine k_aload_n (q := 786) C 5 dL_law_785 rfl rfl ?_
  refine k_iload (q := 788) C 1 dL_law_786 rfl rfl ?_
  refine k_iconst (q := 789) (v := 1) C dL_law_788 (by decide) rfl ?_
  refine k_iadd (q := 790) C dL_law_789 rfl ?_
  refine k_st (st2 := (.int (nI (i + 1)) :: _)) (congrArg (fun z => Value.int z :: _) (show (nI i) + 1 = nI (i + 1) from nI_add i 1)) ?_
  refine k_sld (q := 791) C hX hbl hbA (vp_in_nI (n := i + 1) (by omega) (by omega)) dL_law_790 rfl ?_
  refine k_st (st2 := (.int (xs (i + 1)) :: _)) (congrArg (fun z => Value.int z :: _) (show xs (nI (i + 1)).toNatClampNeg = xs (i + 1) from congrArg xs (nI_clamp (n := i + 1) (by omega)))) ?_
  refine k_callVI (n := 1) (q := 794) (pre := ([(ob, .inl (cy 4, 1, .inr (.inl ou)))] ++ ((wXo b cy (a 0) r nx sn ln (svOf sk) (kpOf sk) ik bf ++ wRd r kd hg nu dg ng tk) ++ (wSky a cy n lit h t s g kn lo lf nm ++ wOth sk cy S)))) (post := ([] : va_W)) (w2 := (([(ob, .inl (cy 4, 1, .inr (.inl ou)))] ++ ((wXo b cy (a 0) r nx sn ln (svOf sk) (kpOf sk) ik bf ++ wRd r kd hg nu dg ng tk) ++ (wSky a cy n lit h t s g kn lo lf nm ++ wOth sk cy S))) ++ (wM aM cy 1 smM lnM ptM sgM fiM seM (mSt nM oM hM tM sM gM knM loM lfM nmM) svM slM ikM bfM coM goM foM))) (As := [.int (xs (i + 1))]) (rest := []) C (c_X4_keep_e cy aM thM smM lnM ptM sgM fiM seM (mSt nM oM hM tM sM gM knM loM lfM nmM) svM slM ikM bfM coM goM foM (xs (i + 1)) hx) gL_law_X4_keep rfl rfl rfl (by decide +kernel) (k_room hR (by decide)) (k_le hR (by omega)) (ci := 4) rfl 0 rfl rfl rfl (Nat.le_of_ble_eq_true rfl) (k_pre) (k_pre.symm) dL_law_791 rfl ?_
  refine k_istore (q := 796) (fr2 := [(6, .int 0), (5, .int 1), (4, .int (nI i)), (3, .ref ob), (2, .ref (aM 0)), (1, .ref (b 0)), (0, .ref sb)]) C dL_law_794 (by decide) rfl rfl ?_
  refine k_aload_n (q := 797) C 4 dL_law_796 rfl rfl ?_
  refine k_callVI (n := 0) (q := 800) (pre := ([(ob, .inl (cy 4, 1, .inr (.inl ou)))] ++ ((wXo b cy (a 0) r nx sn ln (svOf sk) (kpOf sk) ik bf ++ wRd r kd hg nu dg ng tk) ++ (wSky a cy n lit h t s g kn lo lf nm ++ wOth sk cy S)))) (post := ([] : va_W)) (w2 := (([(ob, .inl (cy 4, 1, .inr (.inl ou)))] ++ ((wXo b cy (a 0) r nx sn ln (svOf sk) (kpOf sk) ik bf ++ wRd r kd hg nu dg ng tk) ++ (wSky a cy n lit h t s g kn lo lf nm ++ wOth sk cy S))) ++ (wM aM cy 1 smM lnM ptM sgM fiM seM (mSt nM oM hM tM sM gM knM loM lfM nmM) svM slM ikM bfM coM goM foM))) (As := []) (rest := []) C (c_X4_thrown cy aM 1 smM lnM ptM sgM fiM seM nM oM hM tM sM gM knM loM lfM nmM svM slM ikM bfM coM goM foM) gL_law_X4_thrown rfl rfl rfl (by decide +kernel) (k_room hR (by decide)) (k_le hR (by omega)) (ci := 4) rfl 0 rfl rfl rfl (Nat.le_of_ble_eq_true rfl) (k_pre) (k_pre.symm) dL_law_797 rfl ?_
  refine k_iload (q := 802) C 1 dL_law_800 rfl rfl ?_
  refine k_icmp_eq (tgt := 807) (q := 805) C dL_law_802 (by decide) rfl ?_ ?_
  · intro c_802
    refine k_iload (q := 809) C 1 dL_law_807 rfl rfl ?_
    refine k_if_ne (tgt := 824) (q := 812) C dL_law_809 (by decide) rfl ?_ ?_
    · intro c_809
      refine k_goto (q := 1415) C dL_law_824 (by decide) ?_
      refine k_fr (fr2 := [(4, .int (nI i)), (3, .ref ob), (2, .ref (aM 0)), (1, .ref (b 0)), (0, .ref sb)]) ⟨[2, 3, 4, 5, 6], rfl⟩ ?_
      exact E nx sn ln S ik bf kd hg nu dg ng tk ((n, lit, h, t, s, g, kn, lo, lf, nm) : CK) ou 1 smM lnM ptM sgM fiM seM ((nM, oM, hM, tM, sM, gM, knM, loM, lfM, nmM) : SK) svM slM ikM bfM coM goM foM (hgR)
    · exact fun c_809 => absurd c_809 (by decide)
  · exact fun c_802 => absurd c_802 (by decide)
set_option maxHeartbeats 4000000 in
set_option maxRecDepth 100000 in
theorem lw_goBack_e (cy : Nat → ClassId) (a : Nat → Nat) (b : Nat → Nat) (r : Nat) (nx : Nat) (sn : Nat) (ln : Nat) (sk : Nat → Nat → Nat) (S : Nat → CK) (ik : Nat → Int32) (bf : Nat → Nat) (kd : Nat) (hg : Nat) (nu : Nat) (dg : Nat) (ng : Bool) (tk : Bool) (n : Nat) (lit : Int32) (h : Nat → Int32) (t : Nat → Int32) (s : Nat → Int32) (g : Nat → Int32) (kn : Nat) (lo : Int32) (lf : Int32) (nm : Nat → Int32) (ob : Nat) (ou : Nat → Int64) (aM : Nat → Nat) (thM : Int32) (smM : Nat) (lnM : Nat) (ptM : Nat) (sgM : Nat) (fiM : Int32) (seM : Int32) (nM : Nat) (oM : Nat → Int32) (hM : Nat → Int32) (tM : Nat → Int32) (sM : Nat → Int32) (gM : Nat → Int32) (knM : Nat) (loM : Int32) (lfM : Int32) (nmM : Nat → Int32) (svM : Nat → Int32) (slM : Nat → Int32) (ikM : Nat → Int32) (bfM : Nat → Nat) (coM : Nat → Int32) (goM : Nat → Int32) (foM : Nat → Int32) (X : kX) (hR : xR X = room_1) (C : kC X 9 RL cL_law wsL_law cy) (Z : kZ (xA X) (xS X) (xS X).heap) (hst : (xL X).stackTraces = false) (sb i L ce sl : Nat) (xs : Nat → Int32) (hX : va_X sb L xs (xS X) (xS X).heap) (hbl : sb < (xS X).heap.size) (hbA : ¬ (xA X) sb) (hL : L ≤ 2048) (hi : i + 4 ≤ L) (hce : ce + 1 ≤ 620303 ∧ sl + 6 ≤ 7235195) (E : lwE X cy a b r sk ob aM sb i ce sl) (hgR : gR nx sn ln ik bf ((n, lit, h, t, s, g, kn, lo, lf, nm) : CK) S smM lnM ((nM, oM, hM, tM, sM, gM, knM, loM, lfM, nmM) : SK) svM slM ikM bfM) (hx : ¬ (0 ≤ xs (i + 1) ∧ xs (i + 1) ≤ 1)) : kG X 9 ce sl (([(ob, .inl (cy 4, 1, .inr (.inl ou)))] ++ ((wXo b cy (a 0) r nx sn ln (svOf sk) (kpOf sk) ik bf ++ wRd r kd hg nu dg ng tk) ++ (wSky a cy n lit h t s g kn lo lf nm ++ wOth sk cy S))) ++ (wM aM cy thM smM lnM ptM sgM fiM seM (mSt nM oM hM tM sM gM knM loM lfM nmM) svM slM ikM bfM coM goM foM)) 827 [(4, .int (nI i)), (3, .ref ob), (2, .ref (aM 0)), (1, .ref (b 0)), (0, .ref sb)] [] := by
  obtain ⟨hr, hsn, hri, hke, hln, hl60, hbf, hb126⟩ := id hgR
  have hnx := hri.2.1
  have hsm := hri.1
  have hn := hr.1.1
  have en : n = nM := hr.2.1
  have el : lit = mLit oM := hr.2.2.1
  have hH := hr.2.2.2.1
  have hT := hr.2.2.2.2.1
  have hS := hr.2.2.2.2.2.1
  have hG := hr.2.2.2.2.2.2.1
  have ekn : kn = knM := hr.2.2.2.2.2.2.2.1
  have ho := hr.1.2.1
  have hs0 := hr.1.2.2.1
  have hs1 := hr.1.2.2.2.1
  have hk8 := hr.1.2.2.2.2.1
  have hn6 : n ≤ 6 := by rw [en]; exact hn
  have hkn8 : kn ≤ 8 := by rw [ekn]; exact hk8
  have hsn6 : sn ≤ 6 := by omega
  refine k_aload_n (q := 828) C 3 dL_law_827 rfl rfl ?_
  refine k_aload_n (q := 829) C 4 dL_law_828 rfl rfl ?_
  refine k_iload (q := 831) C 0 dL_law_829 rfl rfl ?_
  refine k_iconst (q := 832) (v := 1) C dL_law_831 (by decide) rfl ?_
  refine k_iadd (q := 833) C dL_law_832 rfl ?_
  refine k_st (st2 := (.int (nI (i + 1)) :: _)) (congrArg (fun z => Value.int z :: _) (show (nI i) + 1 = nI (i + 1) from nI_add i 1)) ?_
  refine k_sld (q := 834) C hX hbl hbA (vp_in_nI (n := i + 1) (by omega) (by omega)) dL_law_833 rfl ?_
  refine k_st (st2 := (.int (xs (i + 1)) :: _)) (congrArg (fun z => Value.int z :: _) (show xs (nI (i + 1)).toNatClampNeg = xs (i + 1) from congrArg xs (nI_clamp (n := i + 1) (by omega)))) ?_
  refine k_aload_n (q := 835) C 1 dL_law_834 rfl rfl ?_
  refine k_callSL (n := 3) (q := 838) (pre := ([] : va_W)) (post := (wM aM cy thM smM lnM ptM sgM fiM seM (mSt nM oM hM tM sM gM knM loM lfM nmM) svM slM ikM bfM coM goM foM)) (w2 := (([(ob, .inl (cy 4, 1, .inr (.inl ou)))] ++ ((wXo b cy (a 0) r nx sn ln (svOf sk) (kpOf sk) ik bf ++ wRd r kd hg nu dg ng tk) ++ (wSky a cy n lit h t s g kn lo lf nm ++ wOth sk cy S))) ++ (wM aM cy thM smM lnM ptM sgM fiM seM (mSt nM oM hM tM sM gM knM loM lfM nmM) svM slM ikM bfM coM goM foM))) (As := [.ref (b 0), .int (xs (i + 1)), .ref ob]) (rest := []) C Z hst (c_L_goBack_e cy a b r nx sn ln sk S ik bf kd hg nu dg ng tk n lit h t s g kn lo lf nm ob ou (xs (i + 1)) hx) gL_law_L_goBack rfl rfl rfl (by decide +kernel) (k_room hR (by decide)) (k_le hR (by omega)) rfl rfl (Nat.le_of_ble_eq_true rfl) (rfl) (rfl) dL_law_835 rfl ?_
  refine k_istore (q := 840) (fr2 := [(5, .int 1), (4, .int (nI i)), (3, .ref ob), (2, .ref (aM 0)), (1, .ref (b 0)), (0, .ref sb)]) C dL_law_838 (by decide) rfl rfl ?_
  refine k_aload_n (q := 841) C 3 dL_law_840 rfl rfl ?_
  refine k_aload_n (q := 842) C 5 dL_law_841 rfl rfl ?_
  refine k_iload (q := 844) C 1 dL_law_842 rfl rfl ?_
  refine k_iconst (q := 845) (v := 1) C dL_law_844 (by decide) rfl ?_
  refine k_iadd (q := 846) C dL_law_845 rfl ?_
  refine k_st (st2 := (.int (nI (i + 1)) :: _)) (congrArg (fun z => Value.int z :: _) (show (nI i) + 1 = nI (i + 1) from nI_add i 1)) ?_
  refine k_sld (q := 847) C hX hbl hbA (vp_in_nI (n := i + 1) (by omega) (by omega)) dL_law_846 rfl ?_
  refine k_st (st2 := (.int (xs (i + 1)) :: _)) (congrArg (fun z => Value.int z :: _) (show xs (nI (i + 1)).toNatClampNeg = xs (i + 1) from congrArg xs (nI_clamp (n := i + 1) (by omega)))) ?_
  refine k_callVI (n := 1) (q := 850) (pre := ([(ob, .inl (cy 4, 1, .inr (.inl ou)))] ++ ((wXo b cy (a 0) r nx sn ln (svOf sk) (kpOf sk) ik bf ++ wRd r kd hg nu dg ng tk) ++ (wSky a cy n lit h t s g kn lo lf nm ++ wOth sk cy S)))) (post := ([] : va_W)) (w2 := (([(ob, .inl (cy 4, 1, .inr (.inl ou)))] ++ ((wXo b cy (a 0) r nx sn ln (svOf sk) (kpOf sk) ik bf ++ wRd r kd hg nu dg ng tk) ++ (wSky a cy n lit h t s g kn lo lf nm ++ wOth sk cy S))) ++ (wM aM cy 1 smM lnM ptM sgM fiM seM (mSt nM oM hM tM sM gM knM loM lfM nmM) svM slM ikM bfM coM goM foM))) (As := [.int (xs (i + 1))]) (rest := []) C (c_X4_goBack_e cy aM thM smM lnM ptM sgM fiM seM (mSt nM oM hM tM sM gM knM loM lfM nmM) svM slM ikM bfM coM goM foM (xs (i + 1)) hx) gL_law_X4_goBack rfl rfl rfl (by decide +kernel) (k_room hR (by decide)) (k_le hR (by omega)) (ci := 4) rfl 0 rfl rfl rfl (Nat.le_of_ble_eq_true rfl) (k_pre) (k_pre.symm) dL_law_847 rfl ?_
  refine k_istore (q := 852) (fr2 := [(6, .int 0), (5, .int 1), (4, .int (nI i)), (3, .ref ob), (2, .ref (aM 0)), (1, .ref (b 0)), (0, .ref sb)]) C dL_law_850 (by decide) rfl rfl ?_
  refine k_aload_n (q := 853) C 4 dL_law_852 rfl rfl ?_
  refine k_callVI (n := 0) (q := 856) (pre := ([(ob, .inl (cy 4, 1, .inr (.inl ou)))] ++ ((wXo b cy (a 0) r nx sn ln (svOf sk) (kpOf sk) ik bf ++ wRd r kd hg nu dg ng tk) ++ (wSky a cy n lit h t s g kn lo lf nm ++ wOth sk cy S)))) (post := ([] : va_W)) (w2 := (([(ob, .inl (cy 4, 1, .inr (.inl ou)))] ++ ((wXo b cy (a 0) r nx sn ln (svOf sk) (kpOf sk) ik bf ++ wRd r kd hg nu dg ng tk) ++ (wSky a cy n lit h t s g kn lo lf nm ++ wOth sk cy S))) ++ (wM aM cy 1 smM lnM ptM sgM fiM seM (mSt nM oM hM tM sM gM knM loM lfM nmM) svM slM ikM bfM coM goM foM))) (As := []) (rest := []) C (c_X4_thrown cy aM 1 smM lnM ptM sgM fiM seM nM oM hM tM sM gM knM loM lfM nmM svM slM ikM bfM coM goM foM) gL_law_X4_thrown rfl rfl rfl (by decide +kernel) (k_room hR (by decide)) (k_le hR (by omega)) (ci := 4) rfl 0 rfl rfl rfl (Nat.le_of_ble_eq_true rfl) (k_pre) (k_pre.symm) dL_law_853 rfl ?_
  refine k_iload (q := 858) C 1 dL_law_856 rfl rfl ?_
  refine k_icmp_eq (tgt := 863) (q := 861) C dL_law_858 (by decide) rfl ?_ ?_
  · intro c_858
    refine k_iload (q := 865) C 1 dL_law_863 rfl rfl ?_
    refine k_if_ne (tgt := 880) (q := 868) C dL_law_865 (by decide) rfl ?_ ?_
    · intro c_865
      refine k_goto (q := 1415) C dL_law_880 (by decide) ?_
      refine k_fr (fr2 := [(4, .int (nI i)), (3, .ref ob), (2, .ref (aM 0)), (1, .ref (b 0)), (0, .ref sb)]) ⟨[2, 3, 4, 5, 6], rfl⟩ ?_
      exact E nx sn ln S ik bf kd hg nu dg ng tk ((n, lit, h, t, s, g, kn, lo, lf, nm) : CK) ou 1 smM lnM ptM sgM fiM seM ((nM, oM, hM, tM, sM, gM, knM, loM, lfM, nmM) : SK) svM slM ikM bfM coM goM foM (hgR)
    · exact fun c_865 => absurd c_865 (by decide)
  · exact fun c_858 => absurd c_858 (by decide)
set_option maxHeartbeats 4000000 in
set_option maxRecDepth 100000 in
theorem lw_ifScanned_e (cy : Nat → ClassId) (a : Nat → Nat) (b : Nat → Nat) (r : Nat) (nx : Nat) (sn : Nat) (ln : Nat) (sk : Nat → Nat → Nat) (S : Nat → CK) (ik : Nat → Int32) (bf : Nat → Nat) (kd : Nat) (hg : Nat) (nu : Nat) (dg : Nat) (ng : Bool) (tk : Bool) (n : Nat) (lit : Int32) (h : Nat → Int32) (t : Nat → Int32) (s : Nat → Int32) (g : Nat → Int32) (kn : Nat) (lo : Int32) (lf : Int32) (nm : Nat → Int32) (ob : Nat) (ou : Nat → Int64) (aM : Nat → Nat) (thM : Int32) (smM : Nat) (lnM : Nat) (ptM : Nat) (sgM : Nat) (fiM : Int32) (seM : Int32) (nM : Nat) (oM : Nat → Int32) (hM : Nat → Int32) (tM : Nat → Int32) (sM : Nat → Int32) (gM : Nat → Int32) (knM : Nat) (loM : Int32) (lfM : Int32) (nmM : Nat → Int32) (svM : Nat → Int32) (slM : Nat → Int32) (ikM : Nat → Int32) (bfM : Nat → Nat) (coM : Nat → Int32) (goM : Nat → Int32) (foM : Nat → Int32) (X : kX) (hR : xR X = room_1) (C : kC X 9 RL cL_law wsL_law cy) (Z : kZ (xA X) (xS X) (xS X).heap) (hst : (xL X).stackTraces = false) (sb i L ce sl : Nat) (xs : Nat → Int32) (hX : va_X sb L xs (xS X) (xS X).heap) (hbl : sb < (xS X).heap.size) (hbA : ¬ (xA X) sb) (hL : L ≤ 2048) (hi : i + 4 ≤ L) (hce : ce + 1 ≤ 620303 ∧ sl + 6 ≤ 7235195) (E : lwE X cy a b r sk ob aM sb i ce sl) (hgR : gR nx sn ln ik bf ((n, lit, h, t, s, g, kn, lo, lf, nm) : CK) S smM lnM ((nM, oM, hM, tM, sM, gM, knM, loM, lfM, nmM) : SK) svM slM ikM bfM) (hx : ¬ (0 ≤ xs (i + 1) ∧ xs (i + 1) ≤ 1)) : kG X 9 ce sl (([(ob, .inl (cy 4, 1, .inr (.inl ou)))] ++ ((wXo b cy (a 0) r nx sn ln (svOf sk) (kpOf sk) ik bf ++ wRd r kd hg nu dg ng tk) ++ (wSky a cy n lit h t s g kn lo lf nm ++ wOth sk cy S))) ++ (wM aM cy thM smM lnM ptM sgM fiM seM (mSt nM oM hM tM sM gM knM loM lfM nmM) svM slM ikM bfM coM goM foM)) 1291 [(4, .int (nI i)), (3, .ref ob), (2, .ref (aM 0)), (1, .ref (b 0)), (0, .ref sb)] [] := by
  obtain ⟨hr, hsn, hri, hke, hln, hl60, hbf, hb126⟩ := id hgR
  have hnx := hri.2.1
  have hsm := hri.1
  have hn := hr.1.1
  have en : n = nM := hr.2.1
  have el : lit = mLit oM := hr.2.2.1
  have hH := hr.2.2.2.1
  have hT := hr.2.2.2.2.1
  have hS := hr.2.2.2.2.2.1
  have hG := hr.2.2.2.2.2.2.1
  have ekn : kn = knM := hr.2.2.2.2.2.2.2.1
  have ho := hr.1.2.1
  have hs0 := hr.1.2.2.1
  have hs1 := hr.1.2.2.2.1
  have hk8 := hr.1.2.2.2.2.1
  have hn6 : n ≤ 6 := by rw [en]; exact hn
  have hkn8 : kn ≤ 8 := by rw [ekn]; exact hk8
  have hsn6 : sn ≤ 6 := by omega
  refine k_aload_n (q := 1292) C 3 dL_law_1291 rfl rfl ?_
  refine k_aload_n (q := 1293) C 4 dL_law_1292 rfl rfl ?_
  refine k_iload (q := 1295) C 0 dL_law_1293 rfl rfl ?_
  refine k_iconst (q := 1296) (v := 1) C dL_law_1295 (by decide) rfl ?_
  refine k_iadd (q := 1297) C dL_law_1296 rfl ?_
  refine k_st (st2 := (.int (nI (i + 1)) :: _)) (congrArg (fun z => Value.int z :: _) (show (nI i) + 1 = nI (i + 1) from nI_add i 1)) ?_
  refine k_sld (q := 1298) C hX hbl hbA (vp_in_nI (n := i + 1) (by omega) (by omega)) dL_law_1297 rfl ?_
  refine k_st (st2 := (.int (xs (i + 1)) :: _)) (congrArg (fun z => Value.int z :: _) (show xs (nI (i + 1)).toNatClampNeg = xs (i + 1) from congrArg xs (nI_clamp (n := i + 1) (by omega)))) ?_
  refine k_aload_n (q := 1299) C 4 dL_law_1298 rfl rfl ?_
  refine k_iload (q := 1301) C 0 dL_law_1299 rfl rfl ?_
  refine k_iconst (q := 1302) (v := 2) C dL_law_1301 (by decide) rfl ?_
  refine k_iadd (q := 1303) C dL_law_1302 rfl ?_
  refine k_st (st2 := (.int (nI (i + 2)) :: _)) (congrArg (fun z => Value.int z :: _) (show (nI i) + 2 = nI (i + 2) from nI_add i 2)) ?_
  refine k_sld (q := 1304) C hX hbl hbA (vp_in_nI (n := i + 2) (by omega) (by omega)) dL_law_1303 rfl ?_
  refine k_st (st2 := (.int (xs (i + 2)) :: _)) (congrArg (fun z => Value.int z :: _) (show xs (nI (i + 2)).toNatClampNeg = xs (i + 2) from congrArg xs (nI_clamp (n := i + 2) (by omega)))) ?_
  refine k_aload_n (q := 1305) C 1 dL_law_1304 rfl rfl ?_
  refine k_callSL (n := 4) (q := 1308) (pre := ([] : va_W)) (post := (wM aM cy thM smM lnM ptM sgM fiM seM (mSt nM oM hM tM sM gM knM loM lfM nmM) svM slM ikM bfM coM goM foM)) (w2 := (([(ob, .inl (cy 4, 1, .inr (.inl ou)))] ++ ((wXo b cy (a 0) r nx sn ln (svOf sk) (kpOf sk) ik bf ++ wRd r kd hg nu dg ng tk) ++ (wSky a cy n lit h t s g kn lo lf nm ++ wOth sk cy S))) ++ (wM aM cy thM smM lnM ptM sgM fiM seM (mSt nM oM hM tM sM gM knM loM lfM nmM) svM slM ikM bfM coM goM foM))) (As := [.ref (b 0), .int (xs (i + 1)), .int (xs (i + 2)), .ref ob]) (rest := []) C Z hst (c_L_ifScanned_e cy a b r nx sn ln sk S ik bf kd hg nu dg ng tk n lit h t s g kn lo lf nm ob ou (xs (i + 1)) (xs (i + 2)) hx) gL_law_L_ifScanned rfl rfl rfl (by decide +kernel) (k_room hR (by decide)) (k_le hR (by omega)) rfl rfl (Nat.le_of_ble_eq_true rfl) (rfl) (rfl) dL_law_1305 rfl ?_
  refine k_istore (q := 1310) (fr2 := [(5, .int 1), (4, .int (nI i)), (3, .ref ob), (2, .ref (aM 0)), (1, .ref (b 0)), (0, .ref sb)]) C dL_law_1308 (by decide) rfl rfl ?_
  refine k_aload_n (q := 1311) C 3 dL_law_1310 rfl rfl ?_
  refine k_aload_n (q := 1312) C 5 dL_law_1311 rfl rfl ?_
  refine k_iload (q := 1314) C 1 dL_law_1312 rfl rfl ?_
  refine k_iconst (q := 1315) (v := 1) C dL_law_1314 (by decide) rfl ?_
  refine k_iadd (q := 1316) C dL_law_1315 rfl ?_
  refine k_st (st2 := (.int (nI (i + 1)) :: _)) (congrArg (fun z => Value.int z :: _) (show (nI i) + 1 = nI (i + 1) from nI_add i 1)) ?_
  refine k_sld (q := 1317) C hX hbl hbA (vp_in_nI (n := i + 1) (by omega) (by omega)) dL_law_1316 rfl ?_
  refine k_st (st2 := (.int (xs (i + 1)) :: _)) (congrArg (fun z => Value.int z :: _) (show xs (nI (i + 1)).toNatClampNeg = xs (i + 1) from congrArg xs (nI_clamp (n := i + 1) (by omega)))) ?_
  refine k_aload_n (q := 1318) C 5 dL_law_1317 rfl rfl ?_
  refine k_iload (q := 1320) C 1 dL_law_1318 rfl rfl ?_
  refine k_iconst (q := 1321) (v := 2) C dL_law_1320 (by decide) rfl ?_
  refine k_iadd (q := 1322) C dL_law_1321 rfl ?_
  refine k_st (st2 := (.int (nI (i + 2)) :: _)) (congrArg (fun z => Value.int z :: _) (show (nI i) + 2 = nI (i + 2) from nI_add i 2)) ?_
  refine k_sld (q := 1323) C hX hbl hbA (vp_in_nI (n := i + 2) (by omega) (by omega)) dL_law_1322 rfl ?_
  refine k_st (st2 := (.int (xs (i + 2)) :: _)) (congrArg (fun z => Value.int z :: _) (show xs (nI (i + 2)).toNatClampNeg = xs (i + 2) from congrArg xs (nI_clamp (n := i + 2) (by omega)))) ?_
  refine k_callVI (n := 2) (q := 1326) (pre := ([(ob, .inl (cy 4, 1, .inr (.inl ou)))] ++ ((wXo b cy (a 0) r nx sn ln (svOf sk) (kpOf sk) ik bf ++ wRd r kd hg nu dg ng tk) ++ (wSky a cy n lit h t s g kn lo lf nm ++ wOth sk cy S)))) (post := ([] : va_W)) (w2 := (([(ob, .inl (cy 4, 1, .inr (.inl ou)))] ++ ((wXo b cy (a 0) r nx sn ln (svOf sk) (kpOf sk) ik bf ++ wRd r kd hg nu dg ng tk) ++ (wSky a cy n lit h t s g kn lo lf nm ++ wOth sk cy S))) ++ (wM aM cy 1 smM lnM ptM sgM fiM seM (mSt nM oM hM tM sM gM knM loM lfM nmM) svM slM ikM bfM coM goM foM))) (As := [.int (xs (i + 1)), .int (xs (i + 2))]) (rest := []) C (c_X4_ifScanned_e cy aM thM smM lnM ptM sgM fiM seM nM oM hM tM sM gM knM loM lfM nmM svM slM ikM bfM coM goM foM (xs (i + 1)) (xs (i + 2)) hx) gL_law_X4_ifScanned rfl rfl rfl (by decide +kernel) (k_room hR (by decide)) (k_le hR (by omega)) (ci := 4) rfl 0 rfl rfl rfl (Nat.le_of_ble_eq_true rfl) (k_pre) (k_pre.symm) dL_law_1323 rfl ?_
  refine k_istore (q := 1328) (fr2 := [(6, .int 0), (5, .int 1), (4, .int (nI i)), (3, .ref ob), (2, .ref (aM 0)), (1, .ref (b 0)), (0, .ref sb)]) C dL_law_1326 (by decide) rfl rfl ?_
  refine k_aload_n (q := 1329) C 4 dL_law_1328 rfl rfl ?_
  refine k_callVI (n := 0) (q := 1332) (pre := ([(ob, .inl (cy 4, 1, .inr (.inl ou)))] ++ ((wXo b cy (a 0) r nx sn ln (svOf sk) (kpOf sk) ik bf ++ wRd r kd hg nu dg ng tk) ++ (wSky a cy n lit h t s g kn lo lf nm ++ wOth sk cy S)))) (post := ([] : va_W)) (w2 := (([(ob, .inl (cy 4, 1, .inr (.inl ou)))] ++ ((wXo b cy (a 0) r nx sn ln (svOf sk) (kpOf sk) ik bf ++ wRd r kd hg nu dg ng tk) ++ (wSky a cy n lit h t s g kn lo lf nm ++ wOth sk cy S))) ++ (wM aM cy 1 smM lnM ptM sgM fiM seM (mSt nM oM hM tM sM gM knM loM lfM nmM) svM slM ikM bfM coM goM foM))) (As := []) (rest := []) C (c_X4_thrown cy aM 1 smM lnM ptM sgM fiM seM nM oM hM tM sM gM knM loM lfM nmM svM slM ikM bfM coM goM foM) gL_law_X4_thrown rfl rfl rfl (by decide +kernel) (k_room hR (by decide)) (k_le hR (by omega)) (ci := 4) rfl 0 rfl rfl rfl (Nat.le_of_ble_eq_true rfl) (k_pre) (k_pre.symm) dL_law_1329 rfl ?_
  refine k_iload (q := 1334) C 1 dL_law_1332 rfl rfl ?_
  refine k_icmp_eq (tgt := 1339) (q := 1337) C dL_law_1334 (by decide) rfl ?_ ?_
  · intro c_1334
    refine k_iload (q := 1341) C 1 dL_law_1339 rfl rfl ?_
    refine k_if_ne (tgt := 1356) (q := 1344) C dL_law_1341 (by decide) rfl ?_ ?_
    · intro c_1341
      refine k_goto (q := 1415) C dL_law_1356 (by decide) ?_
      refine k_fr (fr2 := [(4, .int (nI i)), (3, .ref ob), (2, .ref (aM 0)), (1, .ref (b 0)), (0, .ref sb)]) ⟨[2, 3, 4, 5, 6], rfl⟩ ?_
      exact E nx sn ln S ik bf kd hg nu dg ng tk ((n, lit, h, t, s, g, kn, lo, lf, nm) : CK) ou 1 smM lnM ptM sgM fiM seM ((nM, oM, hM, tM, sM, gM, knM, loM, lfM, nmM) : SK) svM slM ikM bfM coM goM foM (hgR)
    · exact fun c_1341 => absurd c_1341 (by decide)
  · exact fun c_1334 => absurd c_1334 (by decide)
set_option maxHeartbeats 4000000 in
set_option maxRecDepth 100000 in
theorem lw_undo_e (cy : Nat → ClassId) (a : Nat → Nat) (b : Nat → Nat) (r : Nat) (nx : Nat) (sn : Nat) (ln : Nat) (sk : Nat → Nat → Nat) (S : Nat → CK) (ik : Nat → Int32) (bf : Nat → Nat) (kd : Nat) (hg : Nat) (nu : Nat) (dg : Nat) (ng : Bool) (tk : Bool) (n : Nat) (lit : Int32) (h : Nat → Int32) (t : Nat → Int32) (s : Nat → Int32) (g : Nat → Int32) (kn : Nat) (lo : Int32) (lf : Int32) (nm : Nat → Int32) (ob : Nat) (ou : Nat → Int64) (aM : Nat → Nat) (thM : Int32) (smM : Nat) (lnM : Nat) (ptM : Nat) (sgM : Nat) (fiM : Int32) (seM : Int32) (nM : Nat) (oM : Nat → Int32) (hM : Nat → Int32) (tM : Nat → Int32) (sM : Nat → Int32) (gM : Nat → Int32) (knM : Nat) (loM : Int32) (lfM : Int32) (nmM : Nat → Int32) (svM : Nat → Int32) (slM : Nat → Int32) (ikM : Nat → Int32) (bfM : Nat → Nat) (coM : Nat → Int32) (goM : Nat → Int32) (foM : Nat → Int32) (X : kX) (hR : xR X = room_1) (C : kC X 9 RL cL_law wsL_law cy) (Z : kZ (xA X) (xS X) (xS X).heap) (hst : (xL X).stackTraces = false) (sb i L ce sl : Nat) (xs : Nat → Int32) (hX : va_X sb L xs (xS X) (xS X).heap) (hbl : sb < (xS X).heap.size) (hbA : ¬ (xA X) sb) (hL : L ≤ 2048) (hi : i + 4 ≤ L) (hce : ce + 1 ≤ 620303 ∧ sl + 6 ≤ 7235195) (E : lwE X cy a b r sk ob aM sb i ce sl) (hgR : gR nx sn ln ik bf ((n, lit, h, t, s, g, kn, lo, lf, nm) : CK) S smM lnM ((nM, oM, hM, tM, sM, gM, knM, loM, lfM, nmM) : SK) svM slM ikM bfM) (h0 : sn = 0) : kG X 9 ce sl (([(ob, .inl (cy 4, 1, .inr (.inl ou)))] ++ ((wXo b cy (a 0) r nx sn ln (svOf sk) (kpOf sk) ik bf ++ wRd r kd hg nu dg ng tk) ++ (wSky a cy n lit h t s g kn lo lf nm ++ wOth sk cy S))) ++ (wM aM cy thM smM lnM ptM sgM fiM seM (mSt nM oM hM tM sM gM knM loM lfM nmM) svM slM ikM bfM coM goM foM)) 727 [(4, .int (nI i)), (3, .ref ob), (2, .ref (aM 0)), (1, .ref (b 0)), (0, .ref sb)] [] := by
  obtain ⟨hr, hsn, hri, hke, hln, hl60, hbf, hb126⟩ := id hgR
  have hnx := hri.2.1
  have hsm := hri.1
  have hn := hr.1.1
  have en : n = nM := hr.2.1
  have el : lit = mLit oM := hr.2.2.1
  have hH := hr.2.2.2.1
  have hT := hr.2.2.2.2.1
  have hS := hr.2.2.2.2.2.1
  have hG := hr.2.2.2.2.2.2.1
  have ekn : kn = knM := hr.2.2.2.2.2.2.2.1
  have ho := hr.1.2.1
  have hs0 := hr.1.2.2.1
  have hs1 := hr.1.2.2.2.1
  have hk8 := hr.1.2.2.2.2.1
  have hn6 : n ≤ 6 := by rw [en]; exact hn
  have hkn8 : kn ≤ 8 := by rw [ekn]; exact hk8
  have hsn6 : sn ≤ 6 := by omega
  refine k_aload_n (q := 728) C 3 dL_law_727 rfl rfl ?_
  refine k_aload_n (q := 729) C 1 dL_law_728 rfl rfl ?_
  refine k_callSL (n := 2) (q := 732) (pre := ([] : va_W)) (post := (wM aM cy thM smM lnM ptM sgM fiM seM (mSt nM oM hM tM sM gM knM loM lfM nmM) svM slM ikM bfM coM goM foM)) (w2 := (([(ob, .inl (cy 4, 1, .inr (.inl ou)))] ++ ((wXo b cy (a 0) r nx sn ln (svOf sk) (kpOf sk) ik bf ++ wRd r kd hg nu dg ng tk) ++ (wSky a cy n lit h t s g kn lo lf nm ++ wOth sk cy S))) ++ (wM aM cy thM smM lnM ptM sgM fiM seM (mSt nM oM hM tM sM gM knM loM lfM nmM) svM slM ikM bfM coM goM foM))) (As := [.ref (b 0), .ref ob]) (rest := []) C Z hst (c_L_undo_e cy a b r nx sn ln sk S ik bf kd hg nu dg ng tk n lit h t s g kn lo lf nm ob ou h0) gL_law_L_undo rfl rfl rfl (by decide +kernel) (k_room hR (by decide)) (k_le hR (by omega)) rfl rfl (Nat.le_of_ble_eq_true rfl) (rfl) (rfl) dL_law_729 rfl ?_
  refine k_istore (q := 734) (fr2 := [(5, .int 1), (4, .int (nI i)), (3, .ref ob), (2, .ref (aM 0)), (1, .ref (b 0)), (0, .ref sb)]) C dL_law_732 (by decide) rfl rfl ?_
  refine k_aload_n (q := 735) C 3 dL_law_734 rfl rfl ?_
  refine k_callVI (n := 0) (q := 738) (pre := ([(ob, .inl (cy 4, 1, .inr (.inl ou)))] ++ ((wXo b cy (a 0) r nx sn ln (svOf sk) (kpOf sk) ik bf ++ wRd r kd hg nu dg ng tk) ++ (wSky a cy n lit h t s g kn lo lf nm ++ wOth sk cy S)))) (post := ([] : va_W)) (w2 := (([(ob, .inl (cy 4, 1, .inr (.inl ou)))] ++ ((wXo b cy (a 0) r nx sn ln (svOf sk) (kpOf sk) ik bf ++ wRd r kd hg nu dg ng tk) ++ (wSky a cy n lit h t s g kn lo lf nm ++ wOth sk cy S))) ++ (wM aM cy 1 smM lnM ptM sgM fiM seM (mSt nM oM hM tM sM gM knM loM lfM nmM) svM slM ikM bfM coM goM foM))) (As := []) (rest := []) C (c_X4_undo_e cy aM thM smM lnM ptM sgM fiM seM (mSt nM oM hM tM sM gM knM loM lfM nmM) svM slM ikM bfM coM goM foM (by omega)) gL_law_X4_undo rfl rfl rfl (by decide +kernel) (k_room hR (by decide)) (k_le hR (by omega)) (ci := 4) rfl 0 rfl rfl rfl (Nat.le_of_ble_eq_true rfl) (k_pre) (k_pre.symm) dL_law_735 rfl ?_
  refine k_istore (q := 740) (fr2 := [(6, .int 0), (5, .int 1), (4, .int (nI i)), (3, .ref ob), (2, .ref (aM 0)), (1, .ref (b 0)), (0, .ref sb)]) C dL_law_738 (by decide) rfl rfl ?_
  refine k_aload_n (q := 741) C 4 dL_law_740 rfl rfl ?_
  refine k_callVI (n := 0) (q := 744) (pre := ([(ob, .inl (cy 4, 1, .inr (.inl ou)))] ++ ((wXo b cy (a 0) r nx sn ln (svOf sk) (kpOf sk) ik bf ++ wRd r kd hg nu dg ng tk) ++ (wSky a cy n lit h t s g kn lo lf nm ++ wOth sk cy S)))) (post := ([] : va_W)) (w2 := (([(ob, .inl (cy 4, 1, .inr (.inl ou)))] ++ ((wXo b cy (a 0) r nx sn ln (svOf sk) (kpOf sk) ik bf ++ wRd r kd hg nu dg ng tk) ++ (wSky a cy n lit h t s g kn lo lf nm ++ wOth sk cy S))) ++ (wM aM cy 1 smM lnM ptM sgM fiM seM (mSt nM oM hM tM sM gM knM loM lfM nmM) svM slM ikM bfM coM goM foM))) (As := []) (rest := []) C (c_X4_thrown cy aM 1 smM lnM ptM sgM fiM seM nM oM hM tM sM gM knM loM lfM nmM svM slM ikM bfM coM goM foM) gL_law_X4_thrown rfl rfl rfl (by decide +kernel) (k_room hR (by decide)) (k_le hR (by omega)) (ci := 4) rfl 0 rfl rfl rfl (Nat.le_of_ble_eq_true rfl) (k_pre) (k_pre.symm) dL_law_741 rfl ?_
  refine k_iload (q := 746) C 1 dL_law_744 rfl rfl ?_
  refine k_icmp_eq (tgt := 751) (q := 749) C dL_law_746 (by decide) rfl ?_ ?_
  · intro c_746
    refine k_iload (q := 753) C 1 dL_law_751 rfl rfl ?_
    refine k_if_ne (tgt := 768) (q := 756) C dL_law_753 (by decide) rfl ?_ ?_
    · intro c_753
      refine k_goto (q := 1415) C dL_law_768 (by decide) ?_
      refine k_fr (fr2 := [(4, .int (nI i)), (3, .ref ob), (2, .ref (aM 0)), (1, .ref (b 0)), (0, .ref sb)]) ⟨[2, 3, 4, 5, 6], rfl⟩ ?_
      exact E nx sn ln S ik bf kd hg nu dg ng tk ((n, lit, h, t, s, g, kn, lo, lf, nm) : CK) ou 1 smM lnM ptM sgM fiM seM ((nM, oM, hM, tM, sM, gM, knM, loM, lfM, nmM) : SK) svM slM ikM bfM coM goM foM (hgR)
    · exact fun c_753 => absurd c_753 (by decide)
  · exact fun c_746 => absurd c_746 (by decide)
set_option maxHeartbeats 4000000 in
set_option maxRecDepth 100000 in
theorem lw_layerOf_e (cy : Nat → ClassId) (a : Nat → Nat) (b : Nat → Nat) (r : Nat) (nx : Nat) (sn : Nat) (ln : Nat) (sk : Nat → Nat → Nat) (S : Nat → CK) (ik : Nat → Int32) (bf : Nat → Nat) (kd : Nat) (hg : Nat) (nu : Nat) (dg : Nat) (ng : Bool) (tk : Bool) (n : Nat) (lit : Int32) (h : Nat → Int32) (t : Nat → Int32) (s : Nat → Int32) (g : Nat → Int32) (kn : Nat) (lo : Int32) (lf : Int32) (nm : Nat → Int32) (ob : Nat) (ou : Nat → Int64) (aM : Nat → Nat) (thM : Int32) (smM : Nat) (lnM : Nat) (ptM : Nat) (sgM : Nat) (fiM : Int32) (seM : Int32) (nM : Nat) (oM : Nat → Int32) (hM : Nat → Int32) (tM : Nat → Int32) (sM : Nat → Int32) (gM : Nat → Int32) (knM : Nat) (loM : Int32) (lfM : Int32) (nmM : Nat → Int32) (svM : Nat → Int32) (slM : Nat → Int32) (ikM : Nat → Int32) (bfM : Nat → Nat) (coM : Nat → Int32) (goM : Nat → Int32) (foM : Nat → Int32) (X : kX) (hR : xR X = room_1) (C : kC X 9 RL cL_law wsL_law cy) (Z : kZ (xA X) (xS X) (xS X).heap) (hst : (xL X).stackTraces = false) (sb i L ce sl : Nat) (xs : Nat → Int32) (hX : va_X sb L xs (xS X) (xS X).heap) (hbl : sb < (xS X).heap.size) (hbA : ¬ (xA X) sb) (hL : L ≤ 2048) (hi : i + 4 ≤ L) (hce : ce + 1 ≤ 620303 ∧ sl + 6 ≤ 7235195) (E : lwE X cy a b r sk ob aM sb i ce sl) (hgR : gR nx sn ln ik bf ((n, lit, h, t, s, g, kn, lo, lf, nm) : CK) S smM lnM ((nM, oM, hM, tM, sM, gM, knM, loM, lfM, nmM) : SK) svM slM ikM bfM) (hx : ¬ (0 ≤ xs (i + 1) ∧ xs (i + 1) < nI nM)) : kG X 9 ce sl (([(ob, .inl (cy 4, 1, .inr (.inl ou)))] ++ ((wXo b cy (a 0) r nx sn ln (svOf sk) (kpOf sk) ik bf ++ wRd r kd hg nu dg ng tk) ++ (wSky a cy n lit h t s g kn lo lf nm ++ wOth sk cy S))) ++ (wM aM cy thM smM lnM ptM sgM fiM seM (mSt nM oM hM tM sM gM knM loM lfM nmM) svM slM ikM bfM coM goM foM)) 883 [(4, .int (nI i)), (3, .ref ob), (2, .ref (aM 0)), (1, .ref (b 0)), (0, .ref sb)] [] := by
  obtain ⟨hr, hsn, hri, hke, hln, hl60, hbf, hb126⟩ := id hgR
  have hnx := hri.2.1
  have hsm := hri.1
  have hn := hr.1.1
  have en : n = nM := hr.2.1
  have el : lit = mLit oM := hr.2.2.1
  have hH := hr.2.2.2.1
  have hT := hr.2.2.2.2.1
  have hS := hr.2.2.2.2.2.1
  have hG := hr.2.2.2.2.2.2.1
  have ekn : kn = knM := hr.2.2.2.2.2.2.2.1
  have ho := hr.1.2.1
  have hs0 := hr.1.2.2.1
  have hs1 := hr.1.2.2.2.1
  have hk8 := hr.1.2.2.2.2.1
  have hn6 : n ≤ 6 := by rw [en]; exact hn
  have hkn8 : kn ≤ 8 := by rw [ekn]; exact hk8
  have hsn6 : sn ≤ 6 := by omega
  have hx2 : ¬ (0 ≤ xs (i + 1) ∧ xs (i + 1) < nI n) := by rw [en]; exact hx
  refine k_aload_n (q := 884) C 3 dL_law_883 rfl rfl ?_
  refine k_aload_n (q := 885) C 4 dL_law_884 rfl rfl ?_
  refine k_iload (q := 887) C 0 dL_law_885 rfl rfl ?_
  refine k_iconst (q := 888) (v := 1) C dL_law_887 (by decide) rfl ?_
  refine k_iadd (q := 889) C dL_law_888 rfl ?_
  refine k_st (st2 := (.int (nI (i + 1)) :: _)) (congrArg (fun z => Value.int z :: _) (show (nI i) + 1 = nI (i + 1) from nI_add i 1)) ?_
  refine k_sld (q := 890) C hX hbl hbA (vp_in_nI (n := i + 1) (by omega) (by omega)) dL_law_889 rfl ?_
  refine k_st (st2 := (.int (xs (i + 1)) :: _)) (congrArg (fun z => Value.int z :: _) (show xs (nI (i + 1)).toNatClampNeg = xs (i + 1) from congrArg xs (nI_clamp (n := i + 1) (by omega)))) ?_
  refine k_aload_n (q := 891) C 4 dL_law_890 rfl rfl ?_
  refine k_iload (q := 893) C 0 dL_law_891 rfl rfl ?_
  refine k_iconst (q := 894) (v := 2) C dL_law_893 (by decide) rfl ?_
  refine k_iadd (q := 895) C dL_law_894 rfl ?_
  refine k_st (st2 := (.int (nI (i + 2)) :: _)) (congrArg (fun z => Value.int z :: _) (show (nI i) + 2 = nI (i + 2) from nI_add i 2)) ?_
  refine k_sld (q := 896) C hX hbl hbA (vp_in_nI (n := i + 2) (by omega) (by omega)) dL_law_895 rfl ?_
  refine k_st (st2 := (.int (xs (i + 2)) :: _)) (congrArg (fun z => Value.int z :: _) (show xs (nI (i + 2)).toNatClampNeg = xs (i + 2) from congrArg xs (nI_clamp (n := i + 2) (by omega)))) ?_
  refine k_aload_n (q := 897) C 1 dL_law_896 rfl rfl ?_
  refine k_callSL (n := 4) (q := 900) (pre := ([] : va_W)) (post := (wM aM cy thM smM lnM ptM sgM fiM seM (mSt nM oM hM tM sM gM knM loM lfM nmM) svM slM ikM bfM coM goM foM)) (w2 := (([(ob, .inl (cy 4, 1, .inr (.inl ou)))] ++ ((wXo b cy (a 0) r nx sn ln (svOf sk) (kpOf sk) ik bf ++ wRd r kd hg nu dg ng tk) ++ (wSky a cy n lit h t s g kn lo lf nm ++ wOth sk cy S))) ++ (wM aM cy thM smM lnM ptM sgM fiM seM (mSt nM oM hM tM sM gM knM loM lfM nmM) svM slM ikM bfM coM goM foM))) (As := [.ref (b 0), .int (xs (i + 1)), .int (xs (i + 2)), .ref ob]) (rest := []) C Z hst (c_L_layerOf_e cy a b r nx sn ln sk S ik bf kd hg nu dg ng tk n lit h t s g kn lo lf nm ob ou (xs (i + 1)) (xs (i + 2)) hx2) gL_law_L_layerOf rfl rfl rfl (by decide +kernel) (k_room hR (by decide)) (k_le hR (by omega)) rfl rfl (Nat.le_of_ble_eq_true rfl) (rfl) (rfl) dL_law_897 rfl ?_
  refine k_istore (q := 902) (fr2 := [(5, .int 1), (4, .int (nI i)), (3, .ref ob), (2, .ref (aM 0)), (1, .ref (b 0)), (0, .ref sb)]) C dL_law_900 (by decide) rfl rfl ?_
  refine k_aload_n (q := 903) C 3 dL_law_902 rfl rfl ?_
  refine k_aload_n (q := 904) C 5 dL_law_903 rfl rfl ?_
  refine k_iload (q := 906) C 1 dL_law_904 rfl rfl ?_
  refine k_iconst (q := 907) (v := 1) C dL_law_906 (by decide) rfl ?_
  refine k_iadd (q := 908) C dL_law_907 rfl ?_
  refine k_st (st2 := (.int (nI (i + 1)) :: _)) (congrArg (fun z => Value.int z :: _) (show (nI i) + 1 = nI (i + 1) from nI_add i 1)) ?_
  refine k_sld (q := 909) C hX hbl hbA (vp_in_nI (n := i + 1) (by omega) (by omega)) dL_law_908 rfl ?_
  refine k_st (st2 := (.int (xs (i + 1)) :: _)) (congrArg (fun z => Value.int z :: _) (show xs (nI (i + 1)).toNatClampNeg = xs (i + 1) from congrArg xs (nI_clamp (n := i + 1) (by omega)))) ?_
  refine k_aload_n (q := 910) C 5 dL_law_909 rfl rfl ?_
  refine k_iload (q := 912) C 1 dL_law_910 rfl rfl ?_
  refine k_iconst (q := 913) (v := 2) C dL_law_912 (by decide) rfl ?_
  refine k_iadd (q := 914) C dL_law_913 rfl ?_
  refine k_st (st2 := (.int (nI (i + 2)) :: _)) (congrArg (fun z => Value.int z :: _) (show (nI i) + 2 = nI (i + 2) from nI_add i 2)) ?_
  refine k_sld (q := 915) C hX hbl hbA (vp_in_nI (n := i + 2) (by omega) (by omega)) dL_law_914 rfl ?_
  refine k_st (st2 := (.int (xs (i + 2)) :: _)) (congrArg (fun z => Value.int z :: _) (show xs (nI (i + 2)).toNatClampNeg = xs (i + 2) from congrArg xs (nI_clamp (n := i + 2) (by omega)))) ?_
  refine k_callVI (n := 2) (q := 918) (pre := ([(ob, .inl (cy 4, 1, .inr (.inl ou)))] ++ ((wXo b cy (a 0) r nx sn ln (svOf sk) (kpOf sk) ik bf ++ wRd r kd hg nu dg ng tk) ++ (wSky a cy n lit h t s g kn lo lf nm ++ wOth sk cy S)))) (post := ([] : va_W)) (w2 := (([(ob, .inl (cy 4, 1, .inr (.inl ou)))] ++ ((wXo b cy (a 0) r nx sn ln (svOf sk) (kpOf sk) ik bf ++ wRd r kd hg nu dg ng tk) ++ (wSky a cy n lit h t s g kn lo lf nm ++ wOth sk cy S))) ++ (wM aM cy 1 smM lnM ptM sgM fiM seM (mSt nM oM hM tM sM gM knM loM lfM nmM) svM slM ikM bfM coM goM foM))) (As := [.int (xs (i + 1)), .int (xs (i + 2))]) (rest := []) C (c_X4_layerOf_e cy aM thM smM lnM ptM sgM fiM seM nM oM hM tM sM gM knM loM lfM nmM svM slM ikM bfM coM goM foM (xs (i + 1)) (xs (i + 2)) hn hx) gL_law_X4_layerOf rfl rfl rfl (by decide +kernel) (k_room hR (by decide)) (k_le hR (by omega)) (ci := 4) rfl 0 rfl rfl rfl (Nat.le_of_ble_eq_true rfl) (k_pre) (k_pre.symm) dL_law_915 rfl ?_
  refine k_istore (q := 920) (fr2 := [(6, .int 0), (5, .int 1), (4, .int (nI i)), (3, .ref ob), (2, .ref (aM 0)), (1, .ref (b 0)), (0, .ref sb)]) C dL_law_918 (by decide) rfl rfl ?_
  refine k_aload_n (q := 921) C 4 dL_law_920 rfl rfl ?_
  refine k_callVI (n := 0) (q := 924) (pre := ([(ob, .inl (cy 4, 1, .inr (.inl ou)))] ++ ((wXo b cy (a 0) r nx sn ln (svOf sk) (kpOf sk) ik bf ++ wRd r kd hg nu dg ng tk) ++ (wSky a cy n lit h t s g kn lo lf nm ++ wOth sk cy S)))) (post := ([] : va_W)) (w2 := (([(ob, .inl (cy 4, 1, .inr (.inl ou)))] ++ ((wXo b cy (a 0) r nx sn ln (svOf sk) (kpOf sk) ik bf ++ wRd r kd hg nu dg ng tk) ++ (wSky a cy n lit h t s g kn lo lf nm ++ wOth sk cy S))) ++ (wM aM cy 1 smM lnM ptM sgM fiM seM (mSt nM oM hM tM sM gM knM loM lfM nmM) svM slM ikM bfM coM goM foM))) (As := []) (rest := []) C (c_X4_thrown cy aM 1 smM lnM ptM sgM fiM seM nM oM hM tM sM gM knM loM lfM nmM svM slM ikM bfM coM goM foM) gL_law_X4_thrown rfl rfl rfl (by decide +kernel) (k_room hR (by decide)) (k_le hR (by omega)) (ci := 4) rfl 0 rfl rfl rfl (Nat.le_of_ble_eq_true rfl) (k_pre) (k_pre.symm) dL_law_921 rfl ?_
  refine k_iload (q := 926) C 1 dL_law_924 rfl rfl ?_
  refine k_icmp_eq (tgt := 931) (q := 929) C dL_law_926 (by decide) rfl ?_ ?_
  · intro c_926
    refine k_iload (q := 933) C 1 dL_law_931 rfl rfl ?_
    refine k_if_ne (tgt := 948) (q := 936) C dL_law_933 (by decide) rfl ?_ ?_
    · intro c_933
      refine k_goto (q := 1415) C dL_law_948 (by decide) ?_
      refine k_fr (fr2 := [(4, .int (nI i)), (3, .ref ob), (2, .ref (aM 0)), (1, .ref (b 0)), (0, .ref sb)]) ⟨[2, 3, 4, 5, 6], rfl⟩ ?_
      exact E nx sn ln S ik bf kd hg nu dg ng tk ((n, lit, h, t, s, g, kn, lo, lf, nm) : CK) ou 1 smM lnM ptM sgM fiM seM ((nM, oM, hM, tM, sM, gM, knM, loM, lfM, nmM) : SK) svM slM ikM bfM coM goM foM (hgR)
    · exact fun c_933 => absurd c_933 (by decide)
  · exact fun c_926 => absurd c_926 (by decide)
set_option maxHeartbeats 4000000 in
set_option maxRecDepth 100000 in
theorem lw_layerOf_e2 (cy : Nat → ClassId) (a : Nat → Nat) (b : Nat → Nat) (r : Nat) (nx : Nat) (sn : Nat) (ln : Nat) (sk : Nat → Nat → Nat) (S : Nat → CK) (ik : Nat → Int32) (bf : Nat → Nat) (kd : Nat) (hg : Nat) (nu : Nat) (dg : Nat) (ng : Bool) (tk : Bool) (n : Nat) (lit : Int32) (h : Nat → Int32) (t : Nat → Int32) (s : Nat → Int32) (g : Nat → Int32) (kn : Nat) (lo : Int32) (lf : Int32) (nm : Nat → Int32) (ob : Nat) (ou : Nat → Int64) (aM : Nat → Nat) (thM : Int32) (smM : Nat) (lnM : Nat) (ptM : Nat) (sgM : Nat) (fiM : Int32) (seM : Int32) (nM : Nat) (oM : Nat → Int32) (hM : Nat → Int32) (tM : Nat → Int32) (sM : Nat → Int32) (gM : Nat → Int32) (knM : Nat) (loM : Int32) (lfM : Int32) (nmM : Nat → Int32) (svM : Nat → Int32) (slM : Nat → Int32) (ikM : Nat → Int32) (bfM : Nat → Nat) (coM : Nat → Int32) (goM : Nat → Int32) (foM : Nat → Int32) (p : Nat) (X : kX) (hR : xR X = room_1) (C : kC X 9 RL cL_law wsL_law cy) (Z : kZ (xA X) (xS X) (xS X).heap) (hst : (xL X).stackTraces = false) (sb i L ce sl : Nat) (xs : Nat → Int32) (hX : va_X sb L xs (xS X) (xS X).heap) (hbl : sb < (xS X).heap.size) (hbA : ¬ (xA X) sb) (hL : L ≤ 2048) (hi : i + 4 ≤ L) (hce : ce + 1 ≤ 620303 ∧ sl + 6 ≤ 7235195) (E : lwE X cy a b r sk ob aM sb i ce sl) (hgR : gR nx sn ln ik bf ((n, lit, h, t, s, g, kn, lo, lf, nm) : CK) S smM lnM ((nM, oM, hM, tM, sM, gM, knM, loM, lfM, nmM) : SK) svM slM ikM bfM) (hp : p < nM) (hx1 : xs (i + 1) = nI p) (hy : ¬ (0 ≤ xs (i + 2) ∧ xs (i + 2) ≤ 3)) : kG X 9 ce sl (([(ob, .inl (cy 4, 1, .inr (.inl ou)))] ++ ((wXo b cy (a 0) r nx sn ln (svOf sk) (kpOf sk) ik bf ++ wRd r kd hg nu dg ng tk) ++ (wSky a cy n lit h t s g kn lo lf nm ++ wOth sk cy S))) ++ (wM aM cy thM smM lnM ptM sgM fiM seM (mSt nM oM hM tM sM gM knM loM lfM nmM) svM slM ikM bfM coM goM foM)) 883 [(4, .int (nI i)), (3, .ref ob), (2, .ref (aM 0)), (1, .ref (b 0)), (0, .ref sb)] [] := by
  obtain ⟨hr, hsn, hri, hke, hln, hl60, hbf, hb126⟩ := id hgR
  have hnx := hri.2.1
  have hsm := hri.1
  have hn := hr.1.1
  have en : n = nM := hr.2.1
  have el : lit = mLit oM := hr.2.2.1
  have hH := hr.2.2.2.1
  have hT := hr.2.2.2.2.1
  have hS := hr.2.2.2.2.2.1
  have hG := hr.2.2.2.2.2.2.1
  have ekn : kn = knM := hr.2.2.2.2.2.2.2.1
  have ho := hr.1.2.1
  have hs0 := hr.1.2.2.1
  have hs1 := hr.1.2.2.2.1
  have hk8 := hr.1.2.2.2.2.1
  have hn6 : n ≤ 6 := by rw [en]; exact hn
  have hkn8 : kn ≤ 8 := by rw [ekn]; exact hk8
  have hsn6 : sn ≤ 6 := by omega
  refine k_aload_n (q := 884) C 3 dL_law_883 rfl rfl ?_
  refine k_aload_n (q := 885) C 4 dL_law_884 rfl rfl ?_
  refine k_iload (q := 887) C 0 dL_law_885 rfl rfl ?_
  refine k_iconst (q := 888) (v := 1) C dL_law_887 (by decide) rfl ?_
  refine k_iadd (q := 889) C dL_law_888 rfl ?_
  refine k_st (st2 := (.int (nI (i + 1)) :: _)) (congrArg (fun z => Value.int z :: _) (show (nI i) + 1 = nI (i + 1) from nI_add i 1)) ?_
  refine k_sld (q := 890) C hX hbl hbA (vp_in_nI (n := i + 1) (by omega) (by omega)) dL_law_889 rfl ?_
  refine k_st (st2 := (.int (xs (i + 1)) :: _)) (congrArg (fun z => Value.int z :: _) (show xs (nI (i + 1)).toNatClampNeg = xs (i + 1) from congrArg xs (nI_clamp (n := i + 1) (by omega)))) ?_
  refine k_st (st2 := (.int (nI p) :: _)) (congrArg (fun z => Value.int z :: _) (show xs (i + 1) = nI p from hx1)) ?_
  refine k_aload_n (q := 891) C 4 dL_law_890 rfl rfl ?_
  refine k_iload (q := 893) C 0 dL_law_891 rfl rfl ?_
  refine k_iconst (q := 894) (v := 2) C dL_law_893 (by decide) rfl ?_
  refine k_iadd (q := 895) C dL_law_894 rfl ?_
  refine k_st (st2 := (.int (nI (i + 2)) :: _)) (congrArg (fun z => Value.int z :: _) (show (nI i) + 2 = nI (i + 2) from nI_add i 2)) ?_
  refine k_sld (q := 896) C hX hbl hbA (vp_in_nI (n := i + 2) (by omega) (by omega)) dL_law_895 rfl ?_
  refine k_st (st2 := (.int (xs (i + 2)) :: _)) (congrArg (fun z => Value.int z :: _) (show xs (nI (i + 2)).toNatClampNeg = xs (i + 2) from congrArg xs (nI_clamp (n := i + 2) (by omega)))) ?_
  refine k_aload_n (q := 897) C 1 dL_law_896 rfl rfl ?_
  refine k_callSL (n := 4) (q := 900) (pre := ([] : va_W)) (post := (wM aM cy thM smM lnM ptM sgM fiM seM (mSt nM oM hM tM sM gM knM loM lfM nmM) svM slM ikM bfM coM goM foM)) (w2 := (([(ob, .inl (cy 4, 1, .inr (.inl ou)))] ++ ((wXo b cy (a 0) r nx sn ln (svOf sk) (kpOf sk) ik bf ++ wRd r kd hg nu dg ng tk) ++ (wSky a cy n lit h t s g kn lo lf nm ++ wOth sk cy S))) ++ (wM aM cy thM smM lnM ptM sgM fiM seM (mSt nM oM hM tM sM gM knM loM lfM nmM) svM slM ikM bfM coM goM foM))) (As := [.ref (b 0), .int (nI p), .int (xs (i + 2)), .ref ob]) (rest := []) C Z hst (c_L_layerOf_e2 cy a b r nx sn ln sk S ik bf kd hg nu dg ng tk n lit h t s g kn lo lf nm ob ou p (xs (i + 2)) hn6 (by omega) hy) gL_law_L_layerOf rfl rfl rfl (by decide +kernel) (k_room hR (by decide)) (k_le hR (by omega)) rfl rfl (Nat.le_of_ble_eq_true rfl) (rfl) (rfl) dL_law_897 rfl ?_
  refine k_istore (q := 902) (fr2 := [(5, .int 2), (4, .int (nI i)), (3, .ref ob), (2, .ref (aM 0)), (1, .ref (b 0)), (0, .ref sb)]) C dL_law_900 (by decide) rfl rfl ?_
  refine k_aload_n (q := 903) C 3 dL_law_902 rfl rfl ?_
  refine k_aload_n (q := 904) C 5 dL_law_903 rfl rfl ?_
  refine k_iload (q := 906) C 1 dL_law_904 rfl rfl ?_
  refine k_iconst (q := 907) (v := 1) C dL_law_906 (by decide) rfl ?_
  refine k_iadd (q := 908) C dL_law_907 rfl ?_
  refine k_st (st2 := (.int (nI (i + 1)) :: _)) (congrArg (fun z => Value.int z :: _) (show (nI i) + 1 = nI (i + 1) from nI_add i 1)) ?_
  refine k_sld (q := 909) C hX hbl hbA (vp_in_nI (n := i + 1) (by omega) (by omega)) dL_law_908 rfl ?_
  refine k_st (st2 := (.int (xs (i + 1)) :: _)) (congrArg (fun z => Value.int z :: _) (show xs (nI (i + 1)).toNatClampNeg = xs (i + 1) from congrArg xs (nI_clamp (n := i + 1) (by omega)))) ?_
  refine k_st (st2 := (.int (nI p) :: _)) (congrArg (fun z => Value.int z :: _) (show xs (i + 1) = nI p from hx1)) ?_
  refine k_aload_n (q := 910) C 5 dL_law_909 rfl rfl ?_
  refine k_iload (q := 912) C 1 dL_law_910 rfl rfl ?_
  refine k_iconst (q := 913) (v := 2) C dL_law_912 (by decide) rfl ?_
  refine k_iadd (q := 914) C dL_law_913 rfl ?_
  refine k_st (st2 := (.int (nI (i + 2)) :: _)) (congrArg (fun z => Value.int z :: _) (show (nI i) + 2 = nI (i + 2) from nI_add i 2)) ?_
  refine k_sld (q := 915) C hX hbl hbA (vp_in_nI (n := i + 2) (by omega) (by omega)) dL_law_914 rfl ?_
  refine k_st (st2 := (.int (xs (i + 2)) :: _)) (congrArg (fun z => Value.int z :: _) (show xs (nI (i + 2)).toNatClampNeg = xs (i + 2) from congrArg xs (nI_clamp (n := i + 2) (by omega)))) ?_
  refine k_callVI (n := 2) (q := 918) (pre := ([(ob, .inl (cy 4, 1, .inr (.inl ou)))] ++ ((wXo b cy (a 0) r nx sn ln (svOf sk) (kpOf sk) ik bf ++ wRd r kd hg nu dg ng tk) ++ (wSky a cy n lit h t s g kn lo lf nm ++ wOth sk cy S)))) (post := ([] : va_W)) (w2 := (([(ob, .inl (cy 4, 1, .inr (.inl ou)))] ++ ((wXo b cy (a 0) r nx sn ln (svOf sk) (kpOf sk) ik bf ++ wRd r kd hg nu dg ng tk) ++ (wSky a cy n lit h t s g kn lo lf nm ++ wOth sk cy S))) ++ (wM aM cy 2 smM lnM ptM sgM fiM seM (mSt nM oM hM tM sM gM knM loM lfM nmM) svM slM ikM bfM coM goM foM))) (As := [.int (nI p), .int (xs (i + 2))]) (rest := []) C (c_X4_layerOf_e2 cy aM thM smM lnM ptM sgM fiM seM nM oM hM tM sM gM knM loM lfM nmM svM slM ikM bfM coM goM foM p (xs (i + 2)) hn hp hy) gL_law_X4_layerOf rfl rfl rfl (by decide +kernel) (k_room hR (by decide)) (k_le hR (by omega)) (ci := 4) rfl 0 rfl rfl rfl (Nat.le_of_ble_eq_true rfl) (k_pre) (k_pre.symm) dL_law_915 rfl ?_
  refine k_istore (q := 920) (fr2 := [(6, .int 0), (5, .int 2), (4, .int (nI i)), (3, .ref ob), (2, .ref (aM 0)), (1, .ref (b 0)), (0, .ref sb)]) C dL_law_918 (by decide) rfl rfl ?_
  refine k_aload_n (q := 921) C 4 dL_law_920 rfl rfl ?_
  refine k_callVI (n := 0) (q := 924) (pre := ([(ob, .inl (cy 4, 1, .inr (.inl ou)))] ++ ((wXo b cy (a 0) r nx sn ln (svOf sk) (kpOf sk) ik bf ++ wRd r kd hg nu dg ng tk) ++ (wSky a cy n lit h t s g kn lo lf nm ++ wOth sk cy S)))) (post := ([] : va_W)) (w2 := (([(ob, .inl (cy 4, 1, .inr (.inl ou)))] ++ ((wXo b cy (a 0) r nx sn ln (svOf sk) (kpOf sk) ik bf ++ wRd r kd hg nu dg ng tk) ++ (wSky a cy n lit h t s g kn lo lf nm ++ wOth sk cy S))) ++ (wM aM cy 2 smM lnM ptM sgM fiM seM (mSt nM oM hM tM sM gM knM loM lfM nmM) svM slM ikM bfM coM goM foM))) (As := []) (rest := []) C (c_X4_thrown cy aM 2 smM lnM ptM sgM fiM seM nM oM hM tM sM gM knM loM lfM nmM svM slM ikM bfM coM goM foM) gL_law_X4_thrown rfl rfl rfl (by decide +kernel) (k_room hR (by decide)) (k_le hR (by omega)) (ci := 4) rfl 0 rfl rfl rfl (Nat.le_of_ble_eq_true rfl) (k_pre) (k_pre.symm) dL_law_921 rfl ?_
  refine k_iload (q := 926) C 1 dL_law_924 rfl rfl ?_
  refine k_icmp_eq (tgt := 931) (q := 929) C dL_law_926 (by decide) rfl ?_ ?_
  · intro c_926
    refine k_iload (q := 933) C 1 dL_law_931 rfl rfl ?_
    refine k_if_ne (tgt := 948) (q := 936) C dL_law_933 (by decide) rfl ?_ ?_
    · intro c_933
      refine k_goto (q := 1415) C dL_law_948 (by decide) ?_
      refine k_fr (fr2 := [(4, .int (nI i)), (3, .ref ob), (2, .ref (aM 0)), (1, .ref (b 0)), (0, .ref sb)]) ⟨[2, 3, 4, 5, 6], rfl⟩ ?_
      exact E nx sn ln S ik bf kd hg nu dg ng tk ((n, lit, h, t, s, g, kn, lo, lf, nm) : CK) ou 2 smM lnM ptM sgM fiM seM ((nM, oM, hM, tM, sM, gM, knM, loM, lfM, nmM) : SK) svM slM ikM bfM coM goM foM (hgR)
    · exact fun c_933 => absurd c_933 (by decide)
  · exact fun c_926 => absurd c_926 (by decide)
set_option maxHeartbeats 4000000 in
set_option maxRecDepth 100000 in
theorem lw_reading_e (cy : Nat → ClassId) (a : Nat → Nat) (b : Nat → Nat) (r : Nat) (nx : Nat) (sn : Nat) (ln : Nat) (sk : Nat → Nat → Nat) (S : Nat → CK) (ik : Nat → Int32) (bf : Nat → Nat) (kd : Nat) (hg : Nat) (nu : Nat) (dg : Nat) (ng : Bool) (tk : Bool) (n : Nat) (lit : Int32) (h : Nat → Int32) (t : Nat → Int32) (s : Nat → Int32) (g : Nat → Int32) (kn : Nat) (lo : Int32) (lf : Int32) (nm : Nat → Int32) (ob : Nat) (ou : Nat → Int64) (aM : Nat → Nat) (thM : Int32) (smM : Nat) (lnM : Nat) (ptM : Nat) (sgM : Nat) (fiM : Int32) (seM : Int32) (nM : Nat) (oM : Nat → Int32) (hM : Nat → Int32) (tM : Nat → Int32) (sM : Nat → Int32) (gM : Nat → Int32) (knM : Nat) (loM : Int32) (lfM : Int32) (nmM : Nat → Int32) (svM : Nat → Int32) (slM : Nat → Int32) (ikM : Nat → Int32) (bfM : Nat → Nat) (coM : Nat → Int32) (goM : Nat → Int32) (foM : Nat → Int32) (X : kX) (hR : xR X = room_1) (C : kC X 9 RL cL_law wsL_law cy) (Z : kZ (xA X) (xS X) (xS X).heap) (hst : (xL X).stackTraces = false) (sb i L ce sl : Nat) (xs : Nat → Int32) (hX : va_X sb L xs (xS X) (xS X).heap) (hbl : sb < (xS X).heap.size) (hbA : ¬ (xA X) sb) (hL : L ≤ 2048) (hi : i + 4 ≤ L) (hce : ce + 1 ≤ 620303 ∧ sl + 6 ≤ 7235195) (E : lwE X cy a b r sk ob aM sb i ce sl) (hgR : gR nx sn ln ik bf ((n, lit, h, t, s, g, kn, lo, lf, nm) : CK) S smM lnM ((nM, oM, hM, tM, sM, gM, knM, loM, lfM, nmM) : SK) svM slM ikM bfM) (hx : ¬ (0 ≤ xs (i + 1) ∧ xs (i + 1) ≤ 3)) : kG X 9 ce sl (([(ob, .inl (cy 4, 1, .inr (.inl ou)))] ++ ((wXo b cy (a 0) r nx sn ln (svOf sk) (kpOf sk) ik bf ++ wRd r kd hg nu dg ng tk) ++ (wSky a cy n lit h t s g kn lo lf nm ++ wOth sk cy S))) ++ (wM aM cy thM smM lnM ptM sgM fiM seM (mSt nM oM hM tM sM gM knM loM lfM nmM) svM slM ikM bfM coM goM foM)) 1031 [(4, .int (nI i)), (3, .ref ob), (2, .ref (aM 0)), (1, .ref (b 0)), (0, .ref sb)] [] := by
  obtain ⟨hr, hsn, hri, hke, hln, hl60, hbf, hb126⟩ := id hgR
  have hnx := hri.2.1
  have hsm := hri.1
  have hn := hr.1.1
  have en : n = nM := hr.2.1
  have el : lit = mLit oM := hr.2.2.1
  have hH := hr.2.2.2.1
  have hT := hr.2.2.2.2.1
  have hS := hr.2.2.2.2.2.1
  have hG := hr.2.2.2.2.2.2.1
  have ekn : kn = knM := hr.2.2.2.2.2.2.2.1
  have ho := hr.1.2.1
  have hs0 := hr.1.2.2.1
  have hs1 := hr.1.2.2.2.1
  have hk8 := hr.1.2.2.2.2.1
  have hn6 : n ≤ 6 := by rw [en]; exact hn
  have hkn8 : kn ≤ 8 := by rw [ekn]; exact hk8
  have hsn6 : sn ≤ 6 := by omega
  refine k_aload_n (q := 1032) C 3 dL_law_1031 rfl rfl ?_
  refine k_aload_n (q := 1033) C 4 dL_law_1032 rfl rfl ?_
  refine k_iload (q := 1035) C 0 dL_law_1033 rfl rfl ?_
  refine k_iconst (q := 1036) (v := 1) C dL_law_1035 (by decide) rfl ?_
  refine k_iadd (q := 1037) C dL_law_1036 rfl ?_
  refine k_st (st2 := (.int (nI (i + 1)) :: _)) (congrArg (fun z => Value.int z :: _) (show (nI i) + 1 = nI (i + 1) from nI_add i 1)) ?_
  refine k_sld (q := 1038) C hX hbl hbA (vp_in_nI (n := i + 1) (by omega) (by omega)) dL_law_1037 rfl ?_
  refine k_st (st2 := (.int (xs (i + 1)) :: _)) (congrArg (fun z => Value.int z :: _) (show xs (nI (i + 1)).toNatClampNeg = xs (i + 1) from congrArg xs (nI_clamp (n := i + 1) (by omega)))) ?_
  refine k_aload_n (q := 1039) C 1 dL_law_1038 rfl rfl ?_
  refine k_callSL (n := 3) (q := 1042) (pre := ([] : va_W)) (post := (wM aM cy thM smM lnM ptM sgM fiM seM (mSt nM oM hM tM sM gM knM loM lfM nmM) svM slM ikM bfM coM goM foM)) (w2 := (([(ob, .inl (cy 4, 1, .inr (.inl ou)))] ++ ((wXo b cy (a 0) r nx sn ln (svOf sk) (kpOf sk) ik bf ++ wRd r kd hg nu dg ng tk) ++ (wSky a cy n lit h t s g kn lo lf nm ++ wOth sk cy S))) ++ (wM aM cy thM smM lnM ptM sgM fiM seM (mSt nM oM hM tM sM gM knM loM lfM nmM) svM slM ikM bfM coM goM foM))) (As := [.ref (b 0), .int (xs (i + 1)), .ref ob]) (rest := []) C Z hst (c_L_reading_e cy a b r nx sn ln sk S ik bf kd hg nu dg ng tk n lit h t s g kn lo lf nm ob ou (xs (i + 1)) hx) gL_law_L_reading rfl rfl rfl (by decide +kernel) (k_room hR (by decide)) (k_le hR (by omega)) rfl rfl (Nat.le_of_ble_eq_true rfl) (rfl) (rfl) dL_law_1039 rfl ?_
  refine k_istore (q := 1044) (fr2 := [(5, .int 1), (4, .int (nI i)), (3, .ref ob), (2, .ref (aM 0)), (1, .ref (b 0)), (0, .ref sb)]) C dL_law_1042 (by decide) rfl rfl ?_
  refine k_aload_n (q := 1045) C 3 dL_law_1044 rfl rfl ?_
  refine k_aload_n (q := 1046) C 5 dL_law_1045 rfl rfl ?_
  refine k_iload (q := 1048) C 1 dL_law_1046 rfl rfl ?_
  refine k_iconst (q := 1049) (v := 1) C dL_law_1048 (by decide) rfl ?_
  refine k_iadd (q := 1050) C dL_law_1049 rfl ?_
  refine k_st (st2 := (.int (nI (i + 1)) :: _)) (congrArg (fun z => Value.int z :: _) (show (nI i) + 1 = nI (i + 1) from nI_add i 1)) ?_
  refine k_sld (q := 1051) C hX hbl hbA (vp_in_nI (n := i + 1) (by omega) (by omega)) dL_law_1050 rfl ?_
  refine k_st (st2 := (.int (xs (i + 1)) :: _)) (congrArg (fun z => Value.int z :: _) (show xs (nI (i + 1)).toNatClampNeg = xs (i + 1) from congrArg xs (nI_clamp (n := i + 1) (by omega)))) ?_
  refine k_callVI (n := 1) (q := 1054) (pre := ([(ob, .inl (cy 4, 1, .inr (.inl ou)))] ++ ((wXo b cy (a 0) r nx sn ln (svOf sk) (kpOf sk) ik bf ++ wRd r kd hg nu dg ng tk) ++ (wSky a cy n lit h t s g kn lo lf nm ++ wOth sk cy S)))) (post := ([] : va_W)) (w2 := (([(ob, .inl (cy 4, 1, .inr (.inl ou)))] ++ ((wXo b cy (a 0) r nx sn ln (svOf sk) (kpOf sk) ik bf ++ wRd r kd hg nu dg ng tk) ++ (wSky a cy n lit h t s g kn lo lf nm ++ wOth sk cy S))) ++ (wM aM cy 1 smM lnM ptM sgM fiM seM (mSt nM oM hM tM sM gM knM loM lfM nmM) svM slM ikM bfM coM goM foM))) (As := [.int (xs (i + 1))]) (rest := []) C (c_X4_reading_e cy aM thM smM lnM ptM sgM fiM seM nM oM hM tM sM gM knM loM lfM nmM svM slM ikM bfM coM goM foM (xs (i + 1)) hx) gL_law_X4_reading rfl rfl rfl (by decide +kernel) (k_room hR (by decide)) (k_le hR (by omega)) (ci := 4) rfl 0 rfl rfl rfl (Nat.le_of_ble_eq_true rfl) (k_pre) (k_pre.symm) dL_law_1051 rfl ?_
  refine k_istore (q := 1056) (fr2 := [(6, .int 0), (5, .int 1), (4, .int (nI i)), (3, .ref ob), (2, .ref (aM 0)), (1, .ref (b 0)), (0, .ref sb)]) C dL_law_1054 (by decide) rfl rfl ?_
  refine k_aload_n (q := 1057) C 4 dL_law_1056 rfl rfl ?_
  refine k_callVI (n := 0) (q := 1060) (pre := ([(ob, .inl (cy 4, 1, .inr (.inl ou)))] ++ ((wXo b cy (a 0) r nx sn ln (svOf sk) (kpOf sk) ik bf ++ wRd r kd hg nu dg ng tk) ++ (wSky a cy n lit h t s g kn lo lf nm ++ wOth sk cy S)))) (post := ([] : va_W)) (w2 := (([(ob, .inl (cy 4, 1, .inr (.inl ou)))] ++ ((wXo b cy (a 0) r nx sn ln (svOf sk) (kpOf sk) ik bf ++ wRd r kd hg nu dg ng tk) ++ (wSky a cy n lit h t s g kn lo lf nm ++ wOth sk cy S))) ++ (wM aM cy 1 smM lnM ptM sgM fiM seM (mSt nM oM hM tM sM gM knM loM lfM nmM) svM slM ikM bfM coM goM foM))) (As := []) (rest := []) C (c_X4_thrown cy aM 1 smM lnM ptM sgM fiM seM nM oM hM tM sM gM knM loM lfM nmM svM slM ikM bfM coM goM foM) gL_law_X4_thrown rfl rfl rfl (by decide +kernel) (k_room hR (by decide)) (k_le hR (by omega)) (ci := 4) rfl 0 rfl rfl rfl (Nat.le_of_ble_eq_true rfl) (k_pre) (k_pre.symm) dL_law_1057 rfl ?_
  refine k_iload (q := 1062) C 1 dL_law_1060 rfl rfl ?_
  refine k_icmp_eq (tgt := 1067) (q := 1065) C dL_law_1062 (by decide) rfl ?_ ?_
  · intro c_1062
    refine k_iload (q := 1069) C 1 dL_law_1067 rfl rfl ?_
    refine k_if_ne (tgt := 1084) (q := 1072) C dL_law_1069 (by decide) rfl ?_ ?_
    · intro c_1069
      refine k_goto (q := 1415) C dL_law_1084 (by decide) ?_
      refine k_fr (fr2 := [(4, .int (nI i)), (3, .ref ob), (2, .ref (aM 0)), (1, .ref (b 0)), (0, .ref sb)]) ⟨[2, 3, 4, 5, 6], rfl⟩ ?_
      exact E nx sn ln S ik bf kd hg nu dg ng tk ((n, lit, h, t, s, g, kn, lo, lf, nm) : CK) ou 1 smM lnM ptM sgM fiM seM ((nM, oM, hM, tM, sM, gM, knM, loM, lfM, nmM) : SK) svM slM ikM bfM coM goM foM (hgR)
    · exact fun c_1069 => absurd c_1069 (by decide)
  · exact fun c_1062 => absurd c_1062 (by decide)
set_option maxHeartbeats 4000000 in
set_option maxRecDepth 100000 in
theorem lw_night_e (cy : Nat → ClassId) (a : Nat → Nat) (b : Nat → Nat) (r : Nat) (nx : Nat) (sn : Nat) (ln : Nat) (sk : Nat → Nat → Nat) (S : Nat → CK) (ik : Nat → Int32) (bf : Nat → Nat) (kd : Nat) (hg : Nat) (nu : Nat) (dg : Nat) (ng : Bool) (tk : Bool) (n : Nat) (lit : Int32) (h : Nat → Int32) (t : Nat → Int32) (s : Nat → Int32) (g : Nat → Int32) (kn : Nat) (lo : Int32) (lf : Int32) (nm : Nat → Int32) (ob : Nat) (ou : Nat → Int64) (aM : Nat → Nat) (thM : Int32) (smM : Nat) (lnM : Nat) (ptM : Nat) (sgM : Nat) (fiM : Int32) (seM : Int32) (nM : Nat) (oM : Nat → Int32) (hM : Nat → Int32) (tM : Nat → Int32) (sM : Nat → Int32) (gM : Nat → Int32) (knM : Nat) (loM : Int32) (lfM : Int32) (nmM : Nat → Int32) (svM : Nat → Int32) (slM : Nat → Int32) (ikM : Nat → Int32) (bfM : Nat → Nat) (coM : Nat → Int32) (goM : Nat → Int32) (foM : Nat → Int32) (X : kX) (hR : xR X = room_1) (C : kC X 9 RL cL_law wsL_law cy) (Z : kZ (xA X) (xS X) (xS X).heap) (hst : (xL X).stackTraces = false) (sb i L ce sl : Nat) (xs : Nat → Int32) (hX : va_X sb L xs (xS X) (xS X).heap) (hbl : sb < (xS X).heap.size) (hbA : ¬ (xA X) sb) (hL : L ≤ 2048) (hi : i + 4 ≤ L) (hce : ce + 1 ≤ 620303 ∧ sl + 6 ≤ 7235195) (E : lwE X cy a b r sk ob aM sb i ce sl) (hgR : gR nx sn ln ik bf ((n, lit, h, t, s, g, kn, lo, lf, nm) : CK) S smM lnM ((nM, oM, hM, tM, sM, gM, knM, loM, lfM, nmM) : SK) svM slM ikM bfM) (hx : xs (i + 1) < 0 ∨ ¬ (0 ≤ xs (i + 2) ∧ xs (i + 2) ≤ 3)) : kG X 9 ce sl (([(ob, .inl (cy 4, 1, .inr (.inl ou)))] ++ ((wXo b cy (a 0) r nx sn ln (svOf sk) (kpOf sk) ik bf ++ wRd r kd hg nu dg ng tk) ++ (wSky a cy n lit h t s g kn lo lf nm ++ wOth sk cy S))) ++ (wM aM cy thM smM lnM ptM sgM fiM seM (mSt nM oM hM tM sM gM knM loM lfM nmM) svM slM ikM bfM coM goM foM)) 1087 [(4, .int (nI i)), (3, .ref ob), (2, .ref (aM 0)), (1, .ref (b 0)), (0, .ref sb)] [] := by
  obtain ⟨hr, hsn, hri, hke, hln, hl60, hbf, hb126⟩ := id hgR
  have hnx := hri.2.1
  have hsm := hri.1
  have hn := hr.1.1
  have en : n = nM := hr.2.1
  have el : lit = mLit oM := hr.2.2.1
  have hH := hr.2.2.2.1
  have hT := hr.2.2.2.2.1
  have hS := hr.2.2.2.2.2.1
  have hG := hr.2.2.2.2.2.2.1
  have ekn : kn = knM := hr.2.2.2.2.2.2.2.1
  have ho := hr.1.2.1
  have hs0 := hr.1.2.2.1
  have hs1 := hr.1.2.2.2.1
  have hk8 := hr.1.2.2.2.2.1
  have hn6 : n ≤ 6 := by rw [en]; exact hn
  have hkn8 : kn ≤ 8 := by rw [ekn]; exact hk8
  have hsn6 : sn ≤ 6 := by omega
  refine k_aload_n (q := 1088) C 3 dL_law_1087 rfl rfl ?_
  refine k_aload_n (q := 1089) C 4 dL_law_1088 rfl rfl ?_
  refine k_iload (q := 1091) C 0 dL_law_1089 rfl rfl ?_
  refine k_iconst (q := 1092) (v := 1) C dL_law_1091 (by decide) rfl ?_
  refine k_iadd (q := 1093) C dL_law_1092 rfl ?_
  refine k_st (st2 := (.int (nI (i + 1)) :: _)) (congrArg (fun z => Value.int z :: _) (show (nI i) + 1 = nI (i + 1) from nI_add i 1)) ?_
  refine k_sld (q := 1094) C hX hbl hbA (vp_in_nI (n := i + 1) (by omega) (by omega)) dL_law_1093 rfl ?_
  refine k_st (st2 := (.int (xs (i + 1)) :: _)) (congrArg (fun z => Value.int z :: _) (show xs (nI (i + 1)).toNatClampNeg = xs (i + 1) from congrArg xs (nI_clamp (n := i + 1) (by omega)))) ?_
  refine k_aload_n (q := 1095) C 4 dL_law_1094 rfl rfl ?_
  refine k_iload (q := 1097) C 0 dL_law_1095 rfl rfl ?_
  refine k_iconst (q := 1098) (v := 2) C dL_law_1097 (by decide) rfl ?_
  refine k_iadd (q := 1099) C dL_law_1098 rfl ?_
  refine k_st (st2 := (.int (nI (i + 2)) :: _)) (congrArg (fun z => Value.int z :: _) (show (nI i) + 2 = nI (i + 2) from nI_add i 2)) ?_
  refine k_sld (q := 1100) C hX hbl hbA (vp_in_nI (n := i + 2) (by omega) (by omega)) dL_law_1099 rfl ?_
  refine k_st (st2 := (.int (xs (i + 2)) :: _)) (congrArg (fun z => Value.int z :: _) (show xs (nI (i + 2)).toNatClampNeg = xs (i + 2) from congrArg xs (nI_clamp (n := i + 2) (by omega)))) ?_
  refine k_aload_n (q := 1101) C 1 dL_law_1100 rfl rfl ?_
  refine k_callSL (n := 4) (q := 1104) (pre := ([] : va_W)) (post := (wM aM cy thM smM lnM ptM sgM fiM seM (mSt nM oM hM tM sM gM knM loM lfM nmM) svM slM ikM bfM coM goM foM)) (w2 := (([(ob, .inl (cy 4, 1, .inr (.inl ou)))] ++ ((wXo b cy (a 0) r nx sn ln (svOf sk) (kpOf sk) ik bf ++ wRd r kd hg nu dg ng tk) ++ (wSky a cy n lit h t s g kn lo lf nm ++ wOth sk cy S))) ++ (wM aM cy thM smM lnM ptM sgM fiM seM (mSt nM oM hM tM sM gM knM loM lfM nmM) svM slM ikM bfM coM goM foM))) (As := [.ref (b 0), .int (xs (i + 1)), .int (xs (i + 2)), .ref ob]) (rest := []) C Z hst (c_L_night_e cy a b r nx sn ln sk S ik bf kd hg nu dg ng tk n lit h t s g kn lo lf nm ob ou (xs (i + 1)) (xs (i + 2)) hx) gL_law_L_night rfl rfl rfl (by decide +kernel) (k_room hR (by decide)) (k_le hR (by omega)) rfl rfl (Nat.le_of_ble_eq_true rfl) (rfl) (rfl) dL_law_1101 rfl ?_
  refine k_istore (q := 1106) (fr2 := [(5, .int 1), (4, .int (nI i)), (3, .ref ob), (2, .ref (aM 0)), (1, .ref (b 0)), (0, .ref sb)]) C dL_law_1104 (by decide) rfl rfl ?_
  refine k_aload_n (q := 1107) C 3 dL_law_1106 rfl rfl ?_
  refine k_aload_n (q := 1108) C 5 dL_law_1107 rfl rfl ?_
  refine k_iload (q := 1110) C 1 dL_law_1108 rfl rfl ?_
  refine k_iconst (q := 1111) (v := 1) C dL_law_1110 (by decide) rfl ?_
  refine k_iadd (q := 1112) C dL_law_1111 rfl ?_
  refine k_st (st2 := (.int (nI (i + 1)) :: _)) (congrArg (fun z => Value.int z :: _) (show (nI i) + 1 = nI (i + 1) from nI_add i 1)) ?_
  refine k_sld (q := 1113) C hX hbl hbA (vp_in_nI (n := i + 1) (by omega) (by omega)) dL_law_1112 rfl ?_
  refine k_st (st2 := (.int (xs (i + 1)) :: _)) (congrArg (fun z => Value.int z :: _) (show xs (nI (i + 1)).toNatClampNeg = xs (i + 1) from congrArg xs (nI_clamp (n := i + 1) (by omega)))) ?_
  refine k_aload_n (q := 1114) C 5 dL_law_1113 rfl rfl ?_
  refine k_iload (q := 1116) C 1 dL_law_1114 rfl rfl ?_
  refine k_iconst (q := 1117) (v := 2) C dL_law_1116 (by decide) rfl ?_
  refine k_iadd (q := 1118) C dL_law_1117 rfl ?_
  refine k_st (st2 := (.int (nI (i + 2)) :: _)) (congrArg (fun z => Value.int z :: _) (show (nI i) + 2 = nI (i + 2) from nI_add i 2)) ?_
  refine k_sld (q := 1119) C hX hbl hbA (vp_in_nI (n := i + 2) (by omega) (by omega)) dL_law_1118 rfl ?_
  refine k_st (st2 := (.int (xs (i + 2)) :: _)) (congrArg (fun z => Value.int z :: _) (show xs (nI (i + 2)).toNatClampNeg = xs (i + 2) from congrArg xs (nI_clamp (n := i + 2) (by omega)))) ?_
  refine k_callVI (n := 2) (q := 1122) (pre := ([(ob, .inl (cy 4, 1, .inr (.inl ou)))] ++ ((wXo b cy (a 0) r nx sn ln (svOf sk) (kpOf sk) ik bf ++ wRd r kd hg nu dg ng tk) ++ (wSky a cy n lit h t s g kn lo lf nm ++ wOth sk cy S)))) (post := ([] : va_W)) (w2 := (([(ob, .inl (cy 4, 1, .inr (.inl ou)))] ++ ((wXo b cy (a 0) r nx sn ln (svOf sk) (kpOf sk) ik bf ++ wRd r kd hg nu dg ng tk) ++ (wSky a cy n lit h t s g kn lo lf nm ++ wOth sk cy S))) ++ (wM aM cy 1 smM lnM ptM sgM fiM seM (mSt nM oM hM tM sM gM knM loM lfM nmM) svM slM ikM bfM coM goM foM))) (As := [.int (xs (i + 1)), .int (xs (i + 2))]) (rest := []) C (c_X4_night_e cy aM thM smM lnM ptM sgM fiM seM nM oM hM tM sM gM knM loM lfM nmM svM slM ikM bfM coM goM foM (xs (i + 1)) (xs (i + 2)) hx) gL_law_X4_night rfl rfl rfl (by decide +kernel) (k_room hR (by decide)) (k_le hR (by omega)) (ci := 4) rfl 0 rfl rfl rfl (Nat.le_of_ble_eq_true rfl) (k_pre) (k_pre.symm) dL_law_1119 rfl ?_
  refine k_istore (q := 1124) (fr2 := [(6, .int 0), (5, .int 1), (4, .int (nI i)), (3, .ref ob), (2, .ref (aM 0)), (1, .ref (b 0)), (0, .ref sb)]) C dL_law_1122 (by decide) rfl rfl ?_
  refine k_aload_n (q := 1125) C 4 dL_law_1124 rfl rfl ?_
  refine k_callVI (n := 0) (q := 1128) (pre := ([(ob, .inl (cy 4, 1, .inr (.inl ou)))] ++ ((wXo b cy (a 0) r nx sn ln (svOf sk) (kpOf sk) ik bf ++ wRd r kd hg nu dg ng tk) ++ (wSky a cy n lit h t s g kn lo lf nm ++ wOth sk cy S)))) (post := ([] : va_W)) (w2 := (([(ob, .inl (cy 4, 1, .inr (.inl ou)))] ++ ((wXo b cy (a 0) r nx sn ln (svOf sk) (kpOf sk) ik bf ++ wRd r kd hg nu dg ng tk) ++ (wSky a cy n lit h t s g kn lo lf nm ++ wOth sk cy S))) ++ (wM aM cy 1 smM lnM ptM sgM fiM seM (mSt nM oM hM tM sM gM knM loM lfM nmM) svM slM ikM bfM coM goM foM))) (As := []) (rest := []) C (c_X4_thrown cy aM 1 smM lnM ptM sgM fiM seM nM oM hM tM sM gM knM loM lfM nmM svM slM ikM bfM coM goM foM) gL_law_X4_thrown rfl rfl rfl (by decide +kernel) (k_room hR (by decide)) (k_le hR (by omega)) (ci := 4) rfl 0 rfl rfl rfl (Nat.le_of_ble_eq_true rfl) (k_pre) (k_pre.symm) dL_law_1125 rfl ?_
  refine k_iload (q := 1130) C 1 dL_law_1128 rfl rfl ?_
  refine k_icmp_eq (tgt := 1135) (q := 1133) C dL_law_1130 (by decide) rfl ?_ ?_
  · intro c_1130
    refine k_iload (q := 1137) C 1 dL_law_1135 rfl rfl ?_
    refine k_if_ne (tgt := 1152) (q := 1140) C dL_law_1137 (by decide) rfl ?_ ?_
    · intro c_1137
      refine k_goto (q := 1415) C dL_law_1152 (by decide) ?_
      refine k_fr (fr2 := [(4, .int (nI i)), (3, .ref ob), (2, .ref (aM 0)), (1, .ref (b 0)), (0, .ref sb)]) ⟨[2, 3, 4, 5, 6], rfl⟩ ?_
      exact E nx sn ln S ik bf kd hg nu dg ng tk ((n, lit, h, t, s, g, kn, lo, lf, nm) : CK) ou 1 smM lnM ptM sgM fiM seM ((nM, oM, hM, tM, sM, gM, knM, loM, lfM, nmM) : SK) svM slM ikM bfM coM goM foM (hgR)
    · exact fun c_1137 => absurd c_1137 (by decide)
  · exact fun c_1130 => absurd c_1130 (by decide)
set_option maxHeartbeats 4000000 in
set_option maxRecDepth 100000 in
theorem lw_count_e (cy : Nat → ClassId) (a : Nat → Nat) (b : Nat → Nat) (r : Nat) (nx : Nat) (sn : Nat) (ln : Nat) (sk : Nat → Nat → Nat) (S : Nat → CK) (ik : Nat → Int32) (bf : Nat → Nat) (kd : Nat) (hg : Nat) (nu : Nat) (dg : Nat) (ng : Bool) (tk : Bool) (n : Nat) (lit : Int32) (h : Nat → Int32) (t : Nat → Int32) (s : Nat → Int32) (g : Nat → Int32) (kn : Nat) (lo : Int32) (lf : Int32) (nm : Nat → Int32) (ob : Nat) (ou : Nat → Int64) (aM : Nat → Nat) (thM : Int32) (smM : Nat) (lnM : Nat) (ptM : Nat) (sgM : Nat) (fiM : Int32) (seM : Int32) (nM : Nat) (oM : Nat → Int32) (hM : Nat → Int32) (tM : Nat → Int32) (sM : Nat → Int32) (gM : Nat → Int32) (knM : Nat) (loM : Int32) (lfM : Int32) (nmM : Nat → Int32) (svM : Nat → Int32) (slM : Nat → Int32) (ikM : Nat → Int32) (bfM : Nat → Nat) (coM : Nat → Int32) (goM : Nat → Int32) (foM : Nat → Int32) (X : kX) (hR : xR X = room_1) (C : kC X 9 RL cL_law wsL_law cy) (Z : kZ (xA X) (xS X) (xS X).heap) (hst : (xL X).stackTraces = false) (sb i L ce sl : Nat) (xs : Nat → Int32) (hX : va_X sb L xs (xS X) (xS X).heap) (hbl : sb < (xS X).heap.size) (hbA : ¬ (xA X) sb) (hL : L ≤ 2048) (hi : i + 4 ≤ L) (hce : ce + 1 ≤ 620303 ∧ sl + 6 ≤ 7235195) (E : lwE X cy a b r sk ob aM sb i ce sl) (hgR : gR nx sn ln ik bf ((n, lit, h, t, s, g, kn, lo, lf, nm) : CK) S smM lnM ((nM, oM, hM, tM, sM, gM, knM, loM, lfM, nmM) : SK) svM slM ikM bfM) (hx : ¬ (0 ≤ xs (i + 1) ∧ xs (i + 1) ≤ 16)) : kG X 9 ce sl (([(ob, .inl (cy 4, 1, .inr (.inl ou)))] ++ ((wXo b cy (a 0) r nx sn ln (svOf sk) (kpOf sk) ik bf ++ wRd r kd hg nu dg ng tk) ++ (wSky a cy n lit h t s g kn lo lf nm ++ wOth sk cy S))) ++ (wM aM cy thM smM lnM ptM sgM fiM seM (mSt nM oM hM tM sM gM knM loM lfM nmM) svM slM ikM bfM coM goM foM)) 1155 [(4, .int (nI i)), (3, .ref ob), (2, .ref (aM 0)), (1, .ref (b 0)), (0, .ref sb)] [] := by
  obtain ⟨hr, hsn, hri, hke, hln, hl60, hbf, hb126⟩ := id hgR
  have hnx := hri.2.1
  have hsm := hri.1
  have hn := hr.1.1
  have en : n = nM := hr.2.1
  have el : lit = mLit oM := hr.2.2.1
  have hH := hr.2.2.2.1
  have hT := hr.2.2.2.2.1
  have hS := hr.2.2.2.2.2.1
  have hG := hr.2.2.2.2.2.2.1
  have ekn : kn = knM := hr.2.2.2.2.2.2.2.1
  have ho := hr.1.2.1
  have hs0 := hr.1.2.2.1
  have hs1 := hr.1.2.2.2.1
  have hk8 := hr.1.2.2.2.2.1
  have hn6 : n ≤ 6 := by rw [en]; exact hn
  have hkn8 : kn ≤ 8 := by rw [ekn]; exact hk8
  have hsn6 : sn ≤ 6 := by omega
  refine k_aload_n (q := 1156) C 3 dL_law_1155 rfl rfl ?_
  refine k_aload_n (q := 1157) C 4 dL_law_1156 rfl rfl ?_
  refine k_iload (q := 1159) C 0 dL_law_1157 rfl rfl ?_
  refine k_iconst (q := 1160) (v := 1) C dL_law_1159 (by decide) rfl ?_
  refine k_iadd (q := 1161) C dL_law_1160 rfl ?_
  refine k_st (st2 := (.int (nI (i + 1)) :: _)) (congrArg (fun z => Value.int z :: _) (show (nI i) + 1 = nI (i + 1) from nI_add i 1)) ?_
  refine k_sld (q := 1162) C hX hbl hbA (vp_in_nI (n := i + 1) (by omega) (by omega)) dL_law_1161 rfl ?_
  refine k_st (st2 := (.int (xs (i + 1)) :: _)) (congrArg (fun z => Value.int z :: _) (show xs (nI (i + 1)).toNatClampNeg = xs (i + 1) from congrArg xs (nI_clamp (n := i + 1) (by omega)))) ?_
  refine k_aload_n (q := 1163) C 1 dL_law_1162 rfl rfl ?_
  refine k_callSL (n := 3) (q := 1166) (pre := ([] : va_W)) (post := (wM aM cy thM smM lnM ptM sgM fiM seM (mSt nM oM hM tM sM gM knM loM lfM nmM) svM slM ikM bfM coM goM foM)) (w2 := (([(ob, .inl (cy 4, 1, .inr (.inl ou)))] ++ ((wXo b cy (a 0) r nx sn ln (svOf sk) (kpOf sk) ik bf ++ wRd r kd hg nu dg ng tk) ++ (wSky a cy n lit h t s g kn lo lf nm ++ wOth sk cy S))) ++ (wM aM cy thM smM lnM ptM sgM fiM seM (mSt nM oM hM tM sM gM knM loM lfM nmM) svM slM ikM bfM coM goM foM))) (As := [.ref (b 0), .int (xs (i + 1)), .ref ob]) (rest := []) C Z hst (c_L_count_e cy a b r nx sn ln sk S ik bf kd hg nu dg ng tk n lit h t s g kn lo lf nm ob ou (xs (i + 1)) hx) gL_law_L_count rfl rfl rfl (by decide +kernel) (k_room hR (by decide)) (k_le hR (by omega)) rfl rfl (Nat.le_of_ble_eq_true rfl) (rfl) (rfl) dL_law_1163 rfl ?_
  refine k_istore (q := 1168) (fr2 := [(5, .int 1), (4, .int (nI i)), (3, .ref ob), (2, .ref (aM 0)), (1, .ref (b 0)), (0, .ref sb)]) C dL_law_1166 (by decide) rfl rfl ?_
  refine k_aload_n (q := 1169) C 3 dL_law_1168 rfl rfl ?_
  refine k_aload_n (q := 1170) C 5 dL_law_1169 rfl rfl ?_
  refine k_iload (q := 1172) C 1 dL_law_1170 rfl rfl ?_
  refine k_iconst (q := 1173) (v := 1) C dL_law_1172 (by decide) rfl ?_
  refine k_iadd (q := 1174) C dL_law_1173 rfl ?_
  refine k_st (st2 := (.int (nI (i + 1)) :: _)) (congrArg (fun z => Value.int z :: _) (show (nI i) + 1 = nI (i + 1) from nI_add i 1)) ?_
  refine k_sld (q := 1175) C hX hbl hbA (vp_in_nI (n := i + 1) (by omega) (by omega)) dL_law_1174 rfl ?_
  refine k_st (st2 := (.int (xs (i + 1)) :: _)) (congrArg (fun z => Value.int z :: _) (show xs (nI (i + 1)).toNatClampNeg = xs (i + 1) from congrArg xs (nI_clamp (n := i + 1) (by omega)))) ?_
  refine k_callVI (n := 1) (q := 1178) (pre := ([(ob, .inl (cy 4, 1, .inr (.inl ou)))] ++ ((wXo b cy (a 0) r nx sn ln (svOf sk) (kpOf sk) ik bf ++ wRd r kd hg nu dg ng tk) ++ (wSky a cy n lit h t s g kn lo lf nm ++ wOth sk cy S)))) (post := ([] : va_W)) (w2 := (([(ob, .inl (cy 4, 1, .inr (.inl ou)))] ++ ((wXo b cy (a 0) r nx sn ln (svOf sk) (kpOf sk) ik bf ++ wRd r kd hg nu dg ng tk) ++ (wSky a cy n lit h t s g kn lo lf nm ++ wOth sk cy S))) ++ (wM aM cy 1 smM lnM ptM sgM fiM seM (mSt nM oM hM tM sM gM knM loM lfM nmM) svM slM ikM bfM coM goM foM))) (As := [.int (xs (i + 1))]) (rest := []) C (c_X4_count_e cy aM thM smM lnM ptM sgM fiM seM nM oM hM tM sM gM knM loM lfM nmM svM slM ikM bfM coM goM foM (xs (i + 1)) hx) gL_law_X4_count rfl rfl rfl (by decide +kernel) (k_room hR (by decide)) (k_le hR (by omega)) (ci := 4) rfl 0 rfl rfl rfl (Nat.le_of_ble_eq_true rfl) (k_pre) (k_pre.symm) dL_law_1175 rfl ?_
  refine k_istore (q := 1180) (fr2 := [(6, .int 0), (5, .int 1), (4, .int (nI i)), (3, .ref ob), (2, .ref (aM 0)), (1, .ref (b 0)), (0, .ref sb)]) C dL_law_1178 (by decide) rfl rfl ?_
  refine k_aload_n (q := 1181) C 4 dL_law_1180 rfl rfl ?_
  refine k_callVI (n := 0) (q := 1184) (pre := ([(ob, .inl (cy 4, 1, .inr (.inl ou)))] ++ ((wXo b cy (a 0) r nx sn ln (svOf sk) (kpOf sk) ik bf ++ wRd r kd hg nu dg ng tk) ++ (wSky a cy n lit h t s g kn lo lf nm ++ wOth sk cy S)))) (post := ([] : va_W)) (w2 := (([(ob, .inl (cy 4, 1, .inr (.inl ou)))] ++ ((wXo b cy (a 0) r nx sn ln (svOf sk) (kpOf sk) ik bf ++ wRd r kd hg nu dg ng tk) ++ (wSky a cy n lit h t s g kn lo lf nm ++ wOth sk cy S))) ++ (wM aM cy 1 smM lnM ptM sgM fiM seM (mSt nM oM hM tM sM gM knM loM lfM nmM) svM slM ikM bfM coM goM foM))) (As := []) (rest := []) C (c_X4_thrown cy aM 1 smM lnM ptM sgM fiM seM nM oM hM tM sM gM knM loM lfM nmM svM slM ikM bfM coM goM foM) gL_law_X4_thrown rfl rfl rfl (by decide +kernel) (k_room hR (by decide)) (k_le hR (by omega)) (ci := 4) rfl 0 rfl rfl rfl (Nat.le_of_ble_eq_true rfl) (k_pre) (k_pre.symm) dL_law_1181 rfl ?_
  refine k_iload (q := 1186) C 1 dL_law_1184 rfl rfl ?_
  refine k_icmp_eq (tgt := 1191) (q := 1189) C dL_law_1186 (by decide) rfl ?_ ?_
  · intro c_1186
    refine k_iload (q := 1193) C 1 dL_law_1191 rfl rfl ?_
    refine k_if_ne (tgt := 1208) (q := 1196) C dL_law_1193 (by decide) rfl ?_ ?_
    · intro c_1193
      refine k_goto (q := 1415) C dL_law_1208 (by decide) ?_
      refine k_fr (fr2 := [(4, .int (nI i)), (3, .ref ob), (2, .ref (aM 0)), (1, .ref (b 0)), (0, .ref sb)]) ⟨[2, 3, 4, 5, 6], rfl⟩ ?_
      exact E nx sn ln S ik bf kd hg nu dg ng tk ((n, lit, h, t, s, g, kn, lo, lf, nm) : CK) ou 1 smM lnM ptM sgM fiM seM ((nM, oM, hM, tM, sM, gM, knM, loM, lfM, nmM) : SK) svM slM ikM bfM coM goM foM (hgR)
    · exact fun c_1193 => absurd c_1193 (by decide)
  · exact fun c_1186 => absurd c_1186 (by decide)
set_option maxHeartbeats 4000000 in
set_option maxRecDepth 100000 in
theorem lw_spot_e2 (cy : Nat → ClassId) (a : Nat → Nat) (b : Nat → Nat) (r : Nat) (nx : Nat) (sn : Nat) (ln : Nat) (sk : Nat → Nat → Nat) (S : Nat → CK) (ik : Nat → Int32) (bf : Nat → Nat) (kd : Nat) (hg : Nat) (nu : Nat) (dg : Nat) (ng : Bool) (tk : Bool) (n : Nat) (lit : Int32) (h : Nat → Int32) (t : Nat → Int32) (s : Nat → Int32) (g : Nat → Int32) (kn : Nat) (lo : Int32) (lf : Int32) (nm : Nat → Int32) (ob : Nat) (ou : Nat → Int64) (aM : Nat → Nat) (thM : Int32) (smM : Nat) (lnM : Nat) (ptM : Nat) (sgM : Nat) (fiM : Int32) (seM : Int32) (nM : Nat) (oM : Nat → Int32) (hM : Nat → Int32) (tM : Nat → Int32) (sM : Nat → Int32) (gM : Nat → Int32) (knM : Nat) (loM : Int32) (lfM : Int32) (nmM : Nat → Int32) (svM : Nat → Int32) (slM : Nat → Int32) (ikM : Nat → Int32) (bfM : Nat → Nat) (coM : Nat → Int32) (goM : Nat → Int32) (foM : Nat → Int32) (j : Nat) (p : Nat) (X : kX) (hR : xR X = room_1) (C : kC X 9 RL cL_law wsL_law cy) (Z : kZ (xA X) (xS X) (xS X).heap) (hst : (xL X).stackTraces = false) (sb i L ce sl : Nat) (xs : Nat → Int32) (hX : va_X sb L xs (xS X) (xS X).heap) (hbl : sb < (xS X).heap.size) (hbA : ¬ (xA X) sb) (hL : L ≤ 2048) (hi : i + 4 ≤ L) (hce : ce + 1 ≤ 620303 ∧ sl + 6 ≤ 7235195) (E : lwE X cy a b r sk ob aM sb i ce sl) (hgR : gR nx sn ln ik bf ((n, lit, h, t, s, g, kn, lo, lf, nm) : CK) S smM lnM ((nM, oM, hM, tM, sM, gM, knM, loM, lfM, nmM) : SK) svM slM ikM bfM) (hj : j < 2) (hp : p < nM) (hx1 : xs (i + 1) = nI j) (hx2 : xs (i + 2) = nI p) (hz : ¬ (0 ≤ xs (i + 3) ∧ xs (i + 3) ≤ 4)) : kG X 9 ce sl (([(ob, .inl (cy 4, 1, .inr (.inl ou)))] ++ ((wXo b cy (a 0) r nx sn ln (svOf sk) (kpOf sk) ik bf ++ wRd r kd hg nu dg ng tk) ++ (wSky a cy n lit h t s g kn lo lf nm ++ wOth sk cy S))) ++ (wM aM cy thM smM lnM ptM sgM fiM seM (mSt nM oM hM tM sM gM knM loM lfM nmM) svM slM ikM bfM coM goM foM)) 951 [(4, .int (nI i)), (3, .ref ob), (2, .ref (aM 0)), (1, .ref (b 0)), (0, .ref sb)] [] := by
  obtain ⟨hr, hsn, hri, hke, hln, hl60, hbf, hb126⟩ := id hgR
  have hnx := hri.2.1
  have hsm := hri.1
  have hn := hr.1.1
  have en : n = nM := hr.2.1
  have el : lit = mLit oM := hr.2.2.1
  have hH := hr.2.2.2.1
  have hT := hr.2.2.2.2.1
  have hS := hr.2.2.2.2.2.1
  have hG := hr.2.2.2.2.2.2.1
  have ekn : kn = knM := hr.2.2.2.2.2.2.2.1
  have ho := hr.1.2.1
  have hs0 := hr.1.2.2.1
  have hs1 := hr.1.2.2.2.1
  have hk8 := hr.1.2.2.2.2.1
  have hn6 : n ≤ 6 := by rw [en]; exact hn
  have hkn8 : kn ≤ 8 := by rw [ekn]; exact hk8
  have hsn6 : sn ≤ 6 := by omega
  refine k_aload_n (q := 952) C 3 dL_law_951 rfl rfl ?_
  refine k_aload_n (q := 953) C 4 dL_law_952 rfl rfl ?_
  refine k_iload (q := 955) C 0 dL_law_953 rfl rfl ?_
  refine k_iconst (q := 956) (v := 1) C dL_law_955 (by decide) rfl ?_
  refine k_iadd (q := 957) C dL_law_956 rfl ?_
  refine k_st (st2 := (.int (nI (i + 1)) :: _)) (congrArg (fun z => Value.int z :: _) (show (nI i) + 1 = nI (i + 1) from nI_add i 1)) ?_
  refine k_sld (q := 958) C hX hbl hbA (vp_in_nI (n := i + 1) (by omega) (by omega)) dL_law_957 rfl ?_
  refine k_st (st2 := (.int (xs (i + 1)) :: _)) (congrArg (fun z => Value.int z :: _) (show xs (nI (i + 1)).toNatClampNeg = xs (i + 1) from congrArg xs (nI_clamp (n := i + 1) (by omega)))) ?_
  refine k_st (st2 := (.int (nI j) :: _)) (congrArg (fun z => Value.int z :: _) (show xs (i + 1) = nI j from hx1)) ?_
  refine k_aload_n (q := 959) C 4 dL_law_958 rfl rfl ?_
  refine k_iload (q := 961) C 0 dL_law_959 rfl rfl ?_
  refine k_iconst (q := 962) (v := 2) C dL_law_961 (by decide) rfl ?_
  refine k_iadd (q := 963) C dL_law_962 rfl ?_
  refine k_st (st2 := (.int (nI (i + 2)) :: _)) (congrArg (fun z => Value.int z :: _) (show (nI i) + 2 = nI (i + 2) from nI_add i 2)) ?_
  refine k_sld (q := 964) C hX hbl hbA (vp_in_nI (n := i + 2) (by omega) (by omega)) dL_law_963 rfl ?_
  refine k_st (st2 := (.int (xs (i + 2)) :: _)) (congrArg (fun z => Value.int z :: _) (show xs (nI (i + 2)).toNatClampNeg = xs (i + 2) from congrArg xs (nI_clamp (n := i + 2) (by omega)))) ?_
  refine k_st (st2 := (.int (nI p) :: _)) (congrArg (fun z => Value.int z :: _) (show xs (i + 2) = nI p from hx2)) ?_
  refine k_aload_n (q := 965) C 4 dL_law_964 rfl rfl ?_
  refine k_iload (q := 967) C 0 dL_law_965 rfl rfl ?_
  refine k_iconst (q := 968) (v := 3) C dL_law_967 (by decide) rfl ?_
  refine k_iadd (q := 969) C dL_law_968 rfl ?_
  refine k_st (st2 := (.int (nI (i + 3)) :: _)) (congrArg (fun z => Value.int z :: _) (show (nI i) + 3 = nI (i + 3) from nI_add i 3)) ?_
  refine k_sld (q := 970) C hX hbl hbA (vp_in_nI (n := i + 3) (by omega) (by omega)) dL_law_969 rfl ?_
  refine k_st (st2 := (.int (xs (i + 3)) :: _)) (congrArg (fun z => Value.int z :: _) (show xs (nI (i + 3)).toNatClampNeg = xs (i + 3) from congrArg xs (nI_clamp (n := i + 3) (by omega)))) ?_
  refine k_aload_n (q := 971) C 1 dL_law_970 rfl rfl ?_
  refine k_callSL (n := 5) (q := 974) (pre := ([] : va_W)) (post := (wM aM cy thM smM lnM ptM sgM fiM seM (mSt nM oM hM tM sM gM knM loM lfM nmM) svM slM ikM bfM coM goM foM)) (w2 := (([(ob, .inl (cy 4, 1, .inr (.inl ou)))] ++ ((wXo b cy (a 0) r nx sn ln (svOf sk) (kpOf sk) ik bf ++ wRd r kd hg nu dg ng tk) ++ (wSky a cy n lit h t s g kn lo lf nm ++ wOth sk cy S))) ++ (wM aM cy thM smM lnM ptM sgM fiM seM (mSt nM oM hM tM sM gM knM loM lfM nmM) svM slM ikM bfM coM goM foM))) (As := [.ref (b 0), .int (nI j), .int (nI p), .int (xs (i + 3)), .ref ob]) (rest := []) C Z hst (c_L_spot_e2 cy a b r nx sn ln sk S ik bf kd hg nu dg ng tk n lit h t s g kn lo lf nm ob ou j p (xs (i + 3)) hn6 hj (by omega) hz) gL_law_L_spot rfl rfl rfl (by decide +kernel) (k_room hR (by decide)) (k_le hR (by omega)) rfl rfl (Nat.le_of_ble_eq_true rfl) (rfl) (rfl) dL_law_971 rfl ?_
  refine k_istore (q := 976) (fr2 := [(5, .int 2), (4, .int (nI i)), (3, .ref ob), (2, .ref (aM 0)), (1, .ref (b 0)), (0, .ref sb)]) C dL_law_974 (by decide) rfl rfl ?_
  refine k_aload_n (q := 977) C 3 dL_law_976 rfl rfl ?_
  refine k_aload_n (q := 978) C 5 dL_law_977 rfl rfl ?_
  refine k_iload (q := 980) C 1 dL_law_978 rfl rfl ?_
  refine k_iconst (q := 981) (v := 1) C dL_law_980 (by decide) rfl ?_
  refine k_iadd (q := 982) C dL_law_981 rfl ?_
  refine k_st (st2 := (.int (nI (i + 1)) :: _)) (congrArg (fun z => Value.int z :: _) (show (nI i) + 1 = nI (i + 1) from nI_add i 1)) ?_
  refine k_sld (q := 983) C hX hbl hbA (vp_in_nI (n := i + 1) (by omega) (by omega)) dL_law_982 rfl ?_
  refine k_st (st2 := (.int (xs (i + 1)) :: _)) (congrArg (fun z => Value.int z :: _) (show xs (nI (i + 1)).toNatClampNeg = xs (i + 1) from congrArg xs (nI_clamp (n := i + 1) (by omega)))) ?_
  refine k_st (st2 := (.int (nI j) :: _)) (congrArg (fun z => Value.int z :: _) (show xs (i + 1) = nI j from hx1)) ?_
  refine k_aload_n (q := 984) C 5 dL_law_983 rfl rfl ?_
  refine k_iload (q := 986) C 1 dL_law_984 rfl rfl ?_
  refine k_iconst (q := 987) (v := 2) C dL_law_986 (by decide) rfl ?_
  refine k_iadd (q := 988) C dL_law_987 rfl ?_
  refine k_st (st2 := (.int (nI (i + 2)) :: _)) (congrArg (fun z => Value.int z :: _) (show (nI i) + 2 = nI (i + 2) from nI_add i 2)) ?_
  refine k_sld (q := 989) C hX hbl hbA (vp_in_nI (n := i + 2) (by omega) (by omega)) dL_law_988 rfl ?_
  refine k_st (st2 := (.int (xs (i + 2)) :: _)) (congrArg (fun z => Value.int z :: _) (show xs (nI (i + 2)).toNatClampNeg = xs (i + 2) from congrArg xs (nI_clamp (n := i + 2) (by omega)))) ?_
  refine k_st (st2 := (.int (nI p) :: _)) (congrArg (fun z => Value.int z :: _) (show xs (i + 2) = nI p from hx2)) ?_
  refine k_aload_n (q := 990) C 5 dL_law_989 rfl rfl ?_
  refine k_iload (q := 992) C 1 dL_law_990 rfl rfl ?_
  refine k_iconst (q := 993) (v := 3) C dL_law_992 (by decide) rfl ?_
  refine k_iadd (q := 994) C dL_law_993 rfl ?_
  refine k_st (st2 := (.int (nI (i + 3)) :: _)) (congrArg (fun z => Value.int z :: _) (show (nI i) + 3 = nI (i + 3) from nI_add i 3)) ?_
  refine k_sld (q := 995) C hX hbl hbA (vp_in_nI (n := i + 3) (by omega) (by omega)) dL_law_994 rfl ?_
  refine k_st (st2 := (.int (xs (i + 3)) :: _)) (congrArg (fun z => Value.int z :: _) (show xs (nI (i + 3)).toNatClampNeg = xs (i + 3) from congrArg xs (nI_clamp (n := i + 3) (by omega)))) ?_
  refine k_callVI (n := 3) (q := 998) (pre := ([(ob, .inl (cy 4, 1, .inr (.inl ou)))] ++ ((wXo b cy (a 0) r nx sn ln (svOf sk) (kpOf sk) ik bf ++ wRd r kd hg nu dg ng tk) ++ (wSky a cy n lit h t s g kn lo lf nm ++ wOth sk cy S)))) (post := ([] : va_W)) (w2 := (([(ob, .inl (cy 4, 1, .inr (.inl ou)))] ++ ((wXo b cy (a 0) r nx sn ln (svOf sk) (kpOf sk) ik bf ++ wRd r kd hg nu dg ng tk) ++ (wSky a cy n lit h t s g kn lo lf nm ++ wOth sk cy S))) ++ (wM aM cy 2 smM lnM ptM sgM fiM seM (mSt nM oM hM tM sM gM knM loM lfM nmM) svM slM ikM bfM coM goM foM))) (As := [.int (nI j), .int (nI p), .int (xs (i + 3))]) (rest := []) C (c_X4_spot_e2 cy aM thM smM lnM ptM sgM fiM seM nM oM hM tM sM gM knM loM lfM nmM svM slM ikM bfM coM goM foM j p (xs (i + 3)) hn hj hp hz) gL_law_X4_spot rfl rfl rfl (by decide +kernel) (k_room hR (by decide)) (k_le hR (by omega)) (ci := 4) rfl 0 rfl rfl rfl (Nat.le_of_ble_eq_true rfl) (k_pre) (k_pre.symm) dL_law_995 rfl ?_
  refine k_istore (q := 1000) (fr2 := [(6, .int 0), (5, .int 2), (4, .int (nI i)), (3, .ref ob), (2, .ref (aM 0)), (1, .ref (b 0)), (0, .ref sb)]) C dL_law_998 (by decide) rfl rfl ?_
  refine k_aload_n (q := 1001) C 4 dL_law_1000 rfl rfl ?_
  refine k_callVI (n := 0) (q := 1004) (pre := ([(ob, .inl (cy 4, 1, .inr (.inl ou)))] ++ ((wXo b cy (a 0) r nx sn ln (svOf sk) (kpOf sk) ik bf ++ wRd r kd hg nu dg ng tk) ++ (wSky a cy n lit h t s g kn lo lf nm ++ wOth sk cy S)))) (post := ([] : va_W)) (w2 := (([(ob, .inl (cy 4, 1, .inr (.inl ou)))] ++ ((wXo b cy (a 0) r nx sn ln (svOf sk) (kpOf sk) ik bf ++ wRd r kd hg nu dg ng tk) ++ (wSky a cy n lit h t s g kn lo lf nm ++ wOth sk cy S))) ++ (wM aM cy 2 smM lnM ptM sgM fiM seM (mSt nM oM hM tM sM gM knM loM lfM nmM) svM slM ikM bfM coM goM foM))) (As := []) (rest := []) C (c_X4_thrown cy aM 2 smM lnM ptM sgM fiM seM nM oM hM tM sM gM knM loM lfM nmM svM slM ikM bfM coM goM foM) gL_law_X4_thrown rfl rfl rfl (by decide +kernel) (k_room hR (by decide)) (k_le hR (by omega)) (ci := 4) rfl 0 rfl rfl rfl (Nat.le_of_ble_eq_true rfl) (k_pre) (k_pre.symm) dL_law_1001 rfl ?_
  refine k_iload (q := 1006) C 1 dL_law_1004 rfl rfl ?_
  refine k_icmp_eq (tgt := 1011) (q := 1009) C dL_law_1006 (by decide) rfl ?_ ?_
  · intro c_1006
    refine k_iload (q := 1013) C 1 dL_law_1011 rfl rfl ?_
    refine k_if_ne (tgt := 1028) (q := 1016) C dL_law_1013 (by decide) rfl ?_ ?_
    · intro c_1013
      refine k_goto (q := 1415) C dL_law_1028 (by decide) ?_
      refine k_fr (fr2 := [(4, .int (nI i)), (3, .ref ob), (2, .ref (aM 0)), (1, .ref (b 0)), (0, .ref sb)]) ⟨[2, 3, 4, 5, 6], rfl⟩ ?_
      exact E nx sn ln S ik bf kd hg nu dg ng tk ((n, lit, h, t, s, g, kn, lo, lf, nm) : CK) ou 2 smM lnM ptM sgM fiM seM ((nM, oM, hM, tM, sM, gM, knM, loM, lfM, nmM) : SK) svM slM ikM bfM coM goM foM (hgR)
    · exact fun c_1013 => absurd c_1013 (by decide)
  · exact fun c_1006 => absurd c_1006 (by decide)
set_option maxHeartbeats 4000000 in
set_option maxRecDepth 100000 in
theorem lw_ifScanned_e2 (cy : Nat → ClassId) (a : Nat → Nat) (b : Nat → Nat) (r : Nat) (nx : Nat) (sn : Nat) (ln : Nat) (sk : Nat → Nat → Nat) (S : Nat → CK) (ik : Nat → Int32) (bf : Nat → Nat) (kd : Nat) (hg : Nat) (nu : Nat) (dg : Nat) (ng : Bool) (tk : Bool) (n : Nat) (lit : Int32) (h : Nat → Int32) (t : Nat → Int32) (s : Nat → Int32) (g : Nat → Int32) (kn : Nat) (lo : Int32) (lf : Int32) (nm : Nat → Int32) (ob : Nat) (ou : Nat → Int64) (aM : Nat → Nat) (thM : Int32) (smM : Nat) (lnM : Nat) (ptM : Nat) (sgM : Nat) (fiM : Int32) (seM : Int32) (nM : Nat) (oM : Nat → Int32) (hM : Nat → Int32) (tM : Nat → Int32) (sM : Nat → Int32) (gM : Nat → Int32) (knM : Nat) (loM : Int32) (lfM : Int32) (nmM : Nat → Int32) (svM : Nat → Int32) (slM : Nat → Int32) (ikM : Nat → Int32) (bfM : Nat → Nat) (coM : Nat → Int32) (goM : Nat → Int32) (foM : Nat → Int32) (j : Nat) (X : kX) (hR : xR X = room_1) (C : kC X 9 RL cL_law wsL_law cy) (Z : kZ (xA X) (xS X) (xS X).heap) (hst : (xL X).stackTraces = false) (sb i L ce sl : Nat) (xs : Nat → Int32) (hX : va_X sb L xs (xS X) (xS X).heap) (hbl : sb < (xS X).heap.size) (hbA : ¬ (xA X) sb) (hL : L ≤ 2048) (hi : i + 4 ≤ L) (hce : ce + 1 ≤ 620303 ∧ sl + 6 ≤ 7235195) (E : lwE X cy a b r sk ob aM sb i ce sl) (hgR : gR nx sn ln ik bf ((n, lit, h, t, s, g, kn, lo, lf, nm) : CK) S smM lnM ((nM, oM, hM, tM, sM, gM, knM, loM, lfM, nmM) : SK) svM slM ikM bfM) (hj : j < 2) (hx1 : xs (i + 1) = nI j) (hy : ¬ (0 ≤ xs (i + 2) ∧ xs (i + 2) ≤ 3)) : kG X 9 ce sl (([(ob, .inl (cy 4, 1, .inr (.inl ou)))] ++ ((wXo b cy (a 0) r nx sn ln (svOf sk) (kpOf sk) ik bf ++ wRd r kd hg nu dg ng tk) ++ (wSky a cy n lit h t s g kn lo lf nm ++ wOth sk cy S))) ++ (wM aM cy thM smM lnM ptM sgM fiM seM (mSt nM oM hM tM sM gM knM loM lfM nmM) svM slM ikM bfM coM goM foM)) 1291 [(4, .int (nI i)), (3, .ref ob), (2, .ref (aM 0)), (1, .ref (b 0)), (0, .ref sb)] [] := by
  obtain ⟨hr, hsn, hri, hke, hln, hl60, hbf, hb126⟩ := id hgR
  have hnx := hri.2.1
  have hsm := hri.1
  have hn := hr.1.1
  have en : n = nM := hr.2.1
  have el : lit = mLit oM := hr.2.2.1
  have hH := hr.2.2.2.1
  have hT := hr.2.2.2.2.1
  have hS := hr.2.2.2.2.2.1
  have hG := hr.2.2.2.2.2.2.1
  have ekn : kn = knM := hr.2.2.2.2.2.2.2.1
  have ho := hr.1.2.1
  have hs0 := hr.1.2.2.1
  have hs1 := hr.1.2.2.2.1
  have hk8 := hr.1.2.2.2.2.1
  have hn6 : n ≤ 6 := by rw [en]; exact hn
  have hkn8 : kn ≤ 8 := by rw [ekn]; exact hk8
  have hsn6 : sn ≤ 6 := by omega
  refine k_aload_n (q := 1292) C 3 dL_law_1291 rfl rfl ?_
  refine k_aload_n (q := 1293) C 4 dL_law_1292 rfl rfl ?_
  refine k_iload (q := 1295) C 0 dL_law_1293 rfl rfl ?_
  refine k_iconst (q := 1296) (v := 1) C dL_law_1295 (by decide) rfl ?_
  refine k_iadd (q := 1297) C dL_law_1296 rfl ?_
  refine k_st (st2 := (.int (nI (i + 1)) :: _)) (congrArg (fun z => Value.int z :: _) (show (nI i) + 1 = nI (i + 1) from nI_add i 1)) ?_
  refine k_sld (q := 1298) C hX hbl hbA (vp_in_nI (n := i + 1) (by omega) (by omega)) dL_law_1297 rfl ?_
  refine k_st (st2 := (.int (xs (i + 1)) :: _)) (congrArg (fun z => Value.int z :: _) (show xs (nI (i + 1)).toNatClampNeg = xs (i + 1) from congrArg xs (nI_clamp (n := i + 1) (by omega)))) ?_
  refine k_st (st2 := (.int (nI j) :: _)) (congrArg (fun z => Value.int z :: _) (show xs (i + 1) = nI j from hx1)) ?_
  refine k_aload_n (q := 1299) C 4 dL_law_1298 rfl rfl ?_
  refine k_iload (q := 1301) C 0 dL_law_1299 rfl rfl ?_
  refine k_iconst (q := 1302) (v := 2) C dL_law_1301 (by decide) rfl ?_
  refine k_iadd (q := 1303) C dL_law_1302 rfl ?_
  refine k_st (st2 := (.int (nI (i + 2)) :: _)) (congrArg (fun z => Value.int z :: _) (show (nI i) + 2 = nI (i + 2) from nI_add i 2)) ?_
  refine k_sld (q := 1304) C hX hbl hbA (vp_in_nI (n := i + 2) (by omega) (by omega)) dL_law_1303 rfl ?_
  refine k_st (st2 := (.int (xs (i + 2)) :: _)) (congrArg (fun z => Value.int z :: _) (show xs (nI (i + 2)).toNatClampNeg = xs (i + 2) from congrArg xs (nI_clamp (n := i + 2) (by omega)))) ?_
  refine k_aload_n (q := 1305) C 1 dL_law_1304 rfl rfl ?_
  refine k_callSL (n := 4) (q := 1308) (pre := ([] : va_W)) (post := (wM aM cy thM smM lnM ptM sgM fiM seM (mSt nM oM hM tM sM gM knM loM lfM nmM) svM slM ikM bfM coM goM foM)) (w2 := (([(ob, .inl (cy 4, 1, .inr (.inl ou)))] ++ ((wXo b cy (a 0) r nx sn ln (svOf sk) (kpOf sk) ik bf ++ wRd r kd hg nu dg ng tk) ++ (wSky a cy n lit h t s g kn lo lf nm ++ wOth sk cy S))) ++ (wM aM cy thM smM lnM ptM sgM fiM seM (mSt nM oM hM tM sM gM knM loM lfM nmM) svM slM ikM bfM coM goM foM))) (As := [.ref (b 0), .int (nI j), .int (xs (i + 2)), .ref ob]) (rest := []) C Z hst (c_L_ifScanned_e2 cy a b r nx sn ln sk S ik bf kd hg nu dg ng tk n lit h t s g kn lo lf nm ob ou j (xs (i + 2)) hj hy) gL_law_L_ifScanned rfl rfl rfl (by decide +kernel) (k_room hR (by decide)) (k_le hR (by omega)) rfl rfl (Nat.le_of_ble_eq_true rfl) (rfl) (rfl) dL_law_1305 rfl ?_
  refine k_istore (q := 1310) (fr2 := [(5, .int 2), (4, .int (nI i)), (3, .ref ob), (2, .ref (aM 0)), (1, .ref (b 0)), (0, .ref sb)]) C dL_law_1308 (by decide) rfl rfl ?_
  refine k_aload_n (q := 1311) C 3 dL_law_1310 rfl rfl ?_
  refine k_aload_n (q := 1312) C 5 dL_law_1311 rfl rfl ?_
  refine k_iload (q := 1314) C 1 dL_law_1312 rfl rfl ?_
  refine k_iconst (q := 1315) (v := 1) C dL_law_1314 (by decide) rfl ?_
  refine k_iadd (q := 1316) C dL_law_1315 rfl ?_
  refine k_st (st2 := (.int (nI (i + 1)) :: _)) (congrArg (fun z => Value.int z :: _) (show (nI i) + 1 = nI (i + 1) from nI_add i 1)) ?_
  refine k_sld (q := 1317) C hX hbl hbA (vp_in_nI (n := i + 1) (by omega) (by omega)) dL_law_1316 rfl ?_
  refine k_st (st2 := (.int (xs (i + 1)) :: _)) (congrArg (fun z => Value.int z :: _) (show xs (nI (i + 1)).toNatClampNeg = xs (i + 1) from congrArg xs (nI_clamp (n := i + 1) (by omega)))) ?_
  refine k_st (st2 := (.int (nI j) :: _)) (congrArg (fun z => Value.int z :: _) (show xs (i + 1) = nI j from hx1)) ?_
  refine k_aload_n (q := 1318) C 5 dL_law_1317 rfl rfl ?_
  refine k_iload (q := 1320) C 1 dL_law_1318 rfl rfl ?_
  refine k_iconst (q := 1321) (v := 2) C dL_law_1320 (by decide) rfl ?_
  refine k_iadd (q := 1322) C dL_law_1321 rfl ?_
  refine k_st (st2 := (.int (nI (i + 2)) :: _)) (congrArg (fun z => Value.int z :: _) (show (nI i) + 2 = nI (i + 2) from nI_add i 2)) ?_
  refine k_sld (q := 1323) C hX hbl hbA (vp_in_nI (n := i + 2) (by omega) (by omega)) dL_law_1322 rfl ?_
  refine k_st (st2 := (.int (xs (i + 2)) :: _)) (congrArg (fun z => Value.int z :: _) (show xs (nI (i + 2)).toNatClampNeg = xs (i + 2) from congrArg xs (nI_clamp (n := i + 2) (by omega)))) ?_
  refine k_callVI (n := 2) (q := 1326) (pre := ([(ob, .inl (cy 4, 1, .inr (.inl ou)))] ++ ((wXo b cy (a 0) r nx sn ln (svOf sk) (kpOf sk) ik bf ++ wRd r kd hg nu dg ng tk) ++ (wSky a cy n lit h t s g kn lo lf nm ++ wOth sk cy S)))) (post := ([] : va_W)) (w2 := (([(ob, .inl (cy 4, 1, .inr (.inl ou)))] ++ ((wXo b cy (a 0) r nx sn ln (svOf sk) (kpOf sk) ik bf ++ wRd r kd hg nu dg ng tk) ++ (wSky a cy n lit h t s g kn lo lf nm ++ wOth sk cy S))) ++ (wM aM cy 2 smM lnM ptM sgM fiM seM (mSt nM oM hM tM sM gM knM loM lfM nmM) svM slM ikM bfM coM goM foM))) (As := [.int (nI j), .int (xs (i + 2))]) (rest := []) C (c_X4_ifScanned_e2 cy aM thM smM lnM ptM sgM fiM seM nM oM hM tM sM gM knM loM lfM nmM svM slM ikM bfM coM goM foM j (xs (i + 2)) hj hy) gL_law_X4_ifScanned rfl rfl rfl (by decide +kernel) (k_room hR (by decide)) (k_le hR (by omega)) (ci := 4) rfl 0 rfl rfl rfl (Nat.le_of_ble_eq_true rfl) (k_pre) (k_pre.symm) dL_law_1323 rfl ?_
  refine k_istore (q := 1328) (fr2 := [(6, .int 0), (5, .int 2), (4, .int (nI i)), (3, .ref ob), (2, .ref (aM 0)), (1, .ref (b 0)), (0, .ref sb)]) C dL_law_1326 (by decide) rfl rfl ?_
  refine k_aload_n (q := 1329) C 4 dL_law_1328 rfl rfl ?_
  refine k_callVI (n := 0) (q := 1332) (pre := ([(ob, .inl (cy 4, 1, .inr (.inl ou)))] ++ ((wXo b cy (a 0) r nx sn ln (svOf sk) (kpOf sk) ik bf ++ wRd r kd hg nu dg ng tk) ++ (wSky a cy n lit h t s g kn lo lf nm ++ wOth sk cy S)))) (post := ([] : va_W)) (w2 := (([(ob, .inl (cy 4, 1, .inr (.inl ou)))] ++ ((wXo b cy (a 0) r nx sn ln (svOf sk) (kpOf sk) ik bf ++ wRd r kd hg nu dg ng tk) ++ (wSky a cy n lit h t s g kn lo lf nm ++ wOth sk cy S))) ++ (wM aM cy 2 smM lnM ptM sgM fiM seM (mSt nM oM hM tM sM gM knM loM lfM nmM) svM slM ikM bfM coM goM foM))) (As := []) (rest := []) C (c_X4_thrown cy aM 2 smM lnM ptM sgM fiM seM nM oM hM tM sM gM knM loM lfM nmM svM slM ikM bfM coM goM foM) gL_law_X4_thrown rfl rfl rfl (by decide +kernel) (k_room hR (by decide)) (k_le hR (by omega)) (ci := 4) rfl 0 rfl rfl rfl (Nat.le_of_ble_eq_true rfl) (k_pre) (k_pre.symm) dL_law_1329 rfl ?_
  refine k_iload (q := 1334) C 1 dL_law_1332 rfl rfl ?_
  refine k_icmp_eq (tgt := 1339) (q := 1337) C dL_law_1334 (by decide) rfl ?_ ?_
  · intro c_1334
    refine k_iload (q := 1341) C 1 dL_law_1339 rfl rfl ?_
    refine k_if_ne (tgt := 1356) (q := 1344) C dL_law_1341 (by decide) rfl ?_ ?_
    · intro c_1341
      refine k_goto (q := 1415) C dL_law_1356 (by decide) ?_
      refine k_fr (fr2 := [(4, .int (nI i)), (3, .ref ob), (2, .ref (aM 0)), (1, .ref (b 0)), (0, .ref sb)]) ⟨[2, 3, 4, 5, 6], rfl⟩ ?_
      exact E nx sn ln S ik bf kd hg nu dg ng tk ((n, lit, h, t, s, g, kn, lo, lf, nm) : CK) ou 2 smM lnM ptM sgM fiM seM ((nM, oM, hM, tM, sM, gM, knM, loM, lfM, nmM) : SK) svM slM ikM bfM coM goM foM (hgR)
    · exact fun c_1341 => absurd c_1341 (by decide)
  · exact fun c_1334 => absurd c_1334 (by decide)
