/-! the case meanError: both doubles alike -/
theorem alike32_t {x y z : UInt32} (h1 : alike32 x z = true) (h2 : alike32 y z = true) : alike32 x y = true := by
  unfold alike32 at *
  simp only [Bool.or_eq_true, Bool.and_eq_true, decide_eq_true_eq] at *
  rcases h1 with rfl | ⟨a, b⟩
  · rcases h2 with rfl | ⟨c, d⟩
    · exact Or.inl rfl
    · exact Or.inr ⟨d, c⟩
  · rcases h2 with rfl | ⟨c, d⟩
    · exact Or.inr ⟨a, b⟩
    · exact Or.inr ⟨a, c⟩
theorem fMean_a {m : Nat} {s : Int32} {x y : UInt32} (h1 : fMean m s x) (h2 : fMean m s y) : alike32 x y = true := by
  rcases h1 with ⟨a, rfl⟩ | ⟨a, b⟩
  · rcases h2 with ⟨c, rfl⟩ | ⟨c, d⟩
    · exact alike32_refl _
    · omega
  · rcases h2 with ⟨c, e⟩ | ⟨c, d⟩
    · omega
    · exact alike32_t b d
theorem nan64 {x : UInt64} (h : isNaN64 x = true) : FP.Core.decode FP.Core.b64 x.toNat = .nan := by
  rw [isNaN64_iff, show (0x7fffffffffffffff : Nat) = 2 ^ 63 - 1 from by decide +kernel, Nat.and_two_pow_sub_one_eq_mod] at h
  have e : FP.Core.fieldE FP.Core.b64 x.toNat = x.toNat / 4503599627370496 % 2048 := rfl
  have f : FP.Core.fieldT FP.Core.b64 x.toNat = x.toNat % 4503599627370496 := rfl
  have g : FP.Core.b64.exps - 1 = 2047 := rfl
  unfold FP.Core.decode
  rw [e, f, g, if_pos (by omega), if_neg (by omega)]
theorem nan32 {x : UInt32} (h : isNaN32 x = true) : FP.Core.decode FP.Core.b32 x.toNat = .nan := by
  rw [isNaN32_iff, show (0x7fffffff : Nat) = 2 ^ 31 - 1 from by decide +kernel, Nat.and_two_pow_sub_one_eq_mod] at h
  have e : FP.Core.fieldE FP.Core.b32 x.toNat = x.toNat / 8388608 % 256 := rfl
  have f : FP.Core.fieldT FP.Core.b32 x.toNat = x.toNat % 8388608 := rfl
  have g : FP.Core.b32.exps - 1 = 255 := rfl
  unfold FP.Core.decode
  rw [e, f, g, if_pos (by omega), if_neg (by omega)]
theorem nan_f2d {x : UInt32} (h : isNaN32 x = true) : isNaN64 (FP.f2d x) = true := by
  have e : FP.Core.fIsNaN x = true := decide_eq_true (nan32 h)
  unfold FP.f2d
  rw [if_pos e]
  unfold FP.nanF2D
  exact isNaN64_or_left (isNaN64_or_right (by decide +kernel))
theorem dcmp_nan {x y : UInt64} (h : isNaN64 x = true) : ¬ Op.cmpValue (FP.dcmp x y) .l = 0 := by
  have e : FP.dcmp x y = none := by
    show FP.Core.order (FP.Core.decode FP.Core.b64 x.toNat) (FP.Core.decode FP.Core.b64 y.toNat) = none
    rw [nan64 h]; rfl
  rw [e]
  decide +kernel
theorem mean_cmp {m : Nat} {s : Int32} {x y : UInt32} {p q : UInt64} (h1 : fMean m s x) (h2 : fMean m s y) (hp : alike64 p (FP.f2d x) = true) (hq : alike64 q (FP.f2d y) = true) : Op.cmpValue (FP.dcmp p q) .l = 0 ∨ (¬ Op.cmpValue (FP.dcmp p p) .l = 0 ∧ ¬ Op.cmpValue (FP.dcmp q q) .l = 0) := by
  have a := fMean_a h1 h2
  unfold alike64 at hp hq
  unfold alike32 at a
  simp only [Bool.or_eq_true, Bool.and_eq_true, decide_eq_true_eq] at hp hq a
  have two : isNaN64 p = true → isNaN64 q = true → Op.cmpValue (FP.dcmp p q) .l = 0 ∨ (¬ Op.cmpValue (FP.dcmp p p) .l = 0 ∧ ¬ Op.cmpValue (FP.dcmp q q) .l = 0) := fun u v => Or.inr ⟨dcmp_nan u, dcmp_nan v⟩
  rcases a with rfl | ⟨a, b⟩
  · rcases hp with hp | ⟨hp, hp2⟩
    · rcases hq with hq | ⟨hq, hq2⟩
      · rw [← hp] at hq
        subst hq
        by_cases c : Op.cmpValue (FP.dcmp q q) .l = 0
        · exact Or.inl c
        · exact Or.inr ⟨c, c⟩
      · exact two (by rw [hp]; exact hq2) hq
    · rcases hq with hq | ⟨hq, hq2⟩
      · exact two hp (by rw [hq]; exact hp2)
      · exact two hp hq
  · refine two ?_ ?_
    · rcases hp with hp | ⟨hp, -⟩
      · rw [hp]; exact nan_f2d a
      · exact hp
    · rcases hq with hq | ⟨hq, -⟩
      · rw [hq]; exact nan_f2d b
      · exact hq
set_option maxHeartbeats 4000000 in
set_option maxRecDepth 100000 in
theorem lw_meanError (cy : Nat → ClassId) (a : Nat → Nat) (b : Nat → Nat) (r : Nat) (nx : Nat) (sn : Nat) (ln : Nat) (sk : Nat → Nat → Nat) (S : Nat → CK) (ik : Nat → Int32) (bf : Nat → Nat) (kd : Nat) (hg : Nat) (nu : Nat) (dg : Nat) (ng : Bool) (tk : Bool) (n : Nat) (lit : Int32) (h : Nat → Int32) (t : Nat → Int32) (s : Nat → Int32) (g : Nat → Int32) (kn : Nat) (lo : Int32) (lf : Int32) (nm : Nat → Int32) (ob : Nat) (ou : Nat → Int64) (aM : Nat → Nat) (thM : Int32) (smM : Nat) (lnM : Nat) (ptM : Nat) (sgM : Nat) (fiM : Int32) (seM : Int32) (nM : Nat) (oM : Nat → Int32) (hM : Nat → Int32) (tM : Nat → Int32) (sM : Nat → Int32) (gM : Nat → Int32) (knM : Nat) (loM : Int32) (lfM : Int32) (nmM : Nat → Int32) (svM : Nat → Int32) (slM : Nat → Int32) (ikM : Nat → Int32) (bfM : Nat → Nat) (coM : Nat → Int32) (goM : Nat → Int32) (foM : Nat → Int32) (X : kX) (hR : xR X = room_1) (C : kC X 9 RL cL_law wsL_law cy) (Z : kZ (xA X) (xS X) (xS X).heap) (hst : (xL X).stackTraces = false) (sb i L ce sl : Nat) (xs : Nat → Int32) (hX : va_X sb L xs (xS X) (xS X).heap) (hbl : sb < (xS X).heap.size) (hbA : ¬ (xA X) sb) (hL : L ≤ 2048) (hi : i + 4 ≤ L) (hce : ce + 1 ≤ 620303 ∧ sl + 6 ≤ 7235195) (s0 : State) (d0 : Drawn) (hs : xS X = s0.setDrawn d0) (hd0 : s0.drawn.sameBut d0 lw_cs) (E : ∀ d, s0.drawn.sameBut d lw_cs → lwE (kXs X (s0.setDrawn d)) cy a b r sk ob aM sb i ce sl) (hgR : gR nx sn ln ik bf ((n, lit, h, t, s, g, kn, lo, lf, nm) : CK) S smM lnM ((nM, oM, hM, tM, sM, gM, knM, loM, lfM, nmM) : SK) svM slM ikM bfM)  : kG X 9 ce sl (([(ob, .inl (cy 4, 1, .inr (.inl ou)))] ++ ((wXo b cy (a 0) r nx sn ln (svOf sk) (kpOf sk) ik bf ++ wRd r kd hg nu dg ng tk) ++ (wSky a cy n lit h t s g kn lo lf nm ++ wOth sk cy S))) ++ (wM aM cy thM smM lnM ptM sgM fiM seM (mSt nM oM hM tM sM gM knM loM lfM nmM) svM slM ikM bfM coM goM foM)) 1372 [(4, .int (nI i)), (3, .ref ob), (2, .ref (aM 0)), (1, .ref (b 0)), (0, .ref sb)] [] := by
  obtain ⟨hr, hsn, hri, hke, hln, hl60, hbf, hb126⟩ := id hgR
  have ekn : kn = knM := hr.2.2.2.2.2.2.2.1
  have hk8 := hr.1.2.2.2.2.1
  have hkn8 : kn ≤ 8 := by rw [ekn]; exact hk8
  have hN := hr.2.2.2.2.2.2.2.2.2.2.1
  have hO := hr.2.2.2.2.2.2.2.2.2.2.2
  have hmx := mean_x (nm := nm) (nm' := nmM) (kn := kn) hkn8 hN (by rw [ekn]; exact hO) kn (Nat.le_refl _)
  refine k_aload_n (q := 1373) C 3 dL_law_1372 rfl rfl ?_
  refine k_callVF (n := 0) (q := 1376) (pre := ([(ob, .inl (cy 4, 1, .inr (.inl ou)))] : va_W)) (post := (wM aM cy thM smM lnM ptM sgM fiM seM (mSt nM oM hM tM sM gM knM loM lfM nmM) svM slM ikM bfM coM goM foM)) (w2 := ([(ob, .inl (cy 4, 1, .inr (.inl ou)))] ++ ((wXo b cy (a 0) r nx sn ln (svOf sk) (kpOf sk) ik bf ++ wRd r kd hg nu dg ng tk) ++ (wSky a cy n lit h t s g kn lo lf nm ++ wOth sk cy S))) ++ (wM aM cy thM smM lnM ptM sgM fiM seM (mSt nM oM hM tM sM gM knM loM lfM nmM) svM slM ikM bfM coM goM foM)) (As := []) (rest := []) C hs hd0 (c_X3_meanError cy a b r nx sn ln (svOf sk) (kpOf sk) ik bf kd hg nu dg ng tk n lit h t s g kn lo lf nm (wOth sk cy S) hkn8) gL_law_X3_meanError rfl rfl rfl (by decide +kernel) (k_room hR (by decide)) (k_le hR (by omega)) (ci := 3) rfl 0 rfl rfl rfl (Nat.le_of_ble_eq_true rfl) (rfl) (rfl) dL_law_1373 rfl ?_
  intro r1 d1 hp1 hd1
  have C1 := kC_d (d := d1) C hs
  have hR1 : xR (kXs X (s0.setDrawn d1)) = room_1 := hR
  refine k_f2d (q := 1377) C1 rfl hd1 dL_law_1376 rfl ?_
  intro p1 d2 ha1 hd2
  have C2 : kC (kXs X (s0.setDrawn d2)) 9 RL cL_law wsL_law cy := kC_d (d := d2) C hs
  show kG (kXs X (s0.setDrawn d2)) _ _ _ _ _ _ _
  refine k_dstore (i := 5) (q := 1379) (fr2 := [(5, .double p1), (4, .int (nI i)), (3, .ref ob), (2, .ref (aM 0)), (1, .ref (b 0)), (0, .ref sb)]) C2 dL_law_1377 (by decide) rfl rfl ?_
  refine k_aload_n (q := 1380) C2 3 dL_law_1379 rfl rfl ?_
  refine k_callVF (n := 0) (q := 1383) (pre := ([(ob, .inl (cy 4, 1, .inr (.inl ou)))] ++ ((wXo b cy (a 0) r nx sn ln (svOf sk) (kpOf sk) ik bf ++ wRd r kd hg nu dg ng tk) ++ (wSky a cy n lit h t s g kn lo lf nm ++ wOth sk cy S)))) (post := ([] : va_W)) (w2 := ([(ob, .inl (cy 4, 1, .inr (.inl ou)))] ++ ((wXo b cy (a 0) r nx sn ln (svOf sk) (kpOf sk) ik bf ++ wRd r kd hg nu dg ng tk) ++ (wSky a cy n lit h t s g kn lo lf nm ++ wOth sk cy S))) ++ (wM aM cy 0 smM lnM ptM sgM fiM seM (mSt nM oM hM tM sM gM knM loM lfM nmM) svM slM ikM bfM coM goM foM)) (As := []) (rest := []) C2 rfl hd2 (c_X4_meanError cy aM thM smM lnM ptM sgM fiM seM nM oM hM tM sM gM knM loM lfM nmM svM slM ikM bfM coM goM foM hk8) gL_law_X4_meanError rfl rfl rfl (by decide +kernel) (k_room (X := kXs X (s0.setDrawn d2)) hR (by decide)) (k_le (X := kXs X (s0.setDrawn d2)) hR (by omega)) (ci := 4) rfl 0 rfl rfl rfl (Nat.le_of_ble_eq_true rfl) (k_pre) (k_pre.symm) dL_law_1380 rfl ?_
  intro r2 d3 hp2 hd3
  have C3 : kC (kXs X (s0.setDrawn d3)) 9 RL cL_law wsL_law cy := kC_d (d := d3) C hs
  show kG (kXs X (s0.setDrawn d3)) _ _ _ _ _ _ _
  refine k_f2d (q := 1384) C3 rfl hd3 dL_law_1383 rfl ?_
  intro p2 d4 ha2 hd4
  have C4 : kC (kXs X (s0.setDrawn d4)) 9 RL cL_law wsL_law cy := kC_d (d := d4) C hs
  show kG (kXs X (s0.setDrawn d4)) _ _ _ _ _ _ _
  have hp3 : fMean (sEm nm kn) (sEs nm kn) r2 := by rw [hmx.1, hmx.2, ekn]; exact hp2
  have hc := mean_cmp hp1 hp3 ha1 ha2
  refine k_dstore (i := 7) (q := 1386) (fr2 := [(7, .double p2), (5, .double p1), (4, .int (nI i)), (3, .ref ob), (2, .ref (aM 0)), (1, .ref (b 0)), (0, .ref sb)]) C4 dL_law_1384 (by decide) rfl rfl ?_
  have fin : kG (kXs X (s0.setDrawn d4)) 9 ce sl (([(ob, .inl (cy 4, 1, .inr (.inl ou)))] ++ ((wXo b cy (a 0) r nx sn ln (svOf sk) (kpOf sk) ik bf ++ wRd r kd hg nu dg ng tk) ++ (wSky a cy n lit h t s g kn lo lf nm ++ wOth sk cy S))) ++ (wM aM cy 0 smM lnM ptM sgM fiM seM (mSt nM oM hM tM sM gM knM loM lfM nmM) svM slM ikM bfM coM goM foM)) 1412 [(7, .double p2), (5, .double p1), (4, .int (nI i)), (3, .ref ob), (2, .ref (aM 0)), (1, .ref (b 0)), (0, .ref sb)] [] := by
    refine k_goto (q := 1415) C4 dL_law_1412 (by decide) ?_
    refine k_fr (fr2 := [(4, .int (nI i)), (3, .ref ob), (2, .ref (aM 0)), (1, .ref (b 0)), (0, .ref sb)]) ⟨[2, 3, 4, 5, 6], rfl⟩ ?_
    refine k_wide (ce2 := ce + 1) (sl2 := sl + 6) (Nat.le_succ _) (by omega) ?_
    exact E d4 hd4 nx sn ln S ik bf kd hg nu dg ng tk ((n, lit, h, t, s, g, kn, lo, lf, nm) : CK) ou 0 smM lnM ptM sgM fiM seM ((nM, oM, hM, tM, sM, gM, knM, loM, lfM, nmM) : SK) svM slM ikM bfM coM goM foM hgR
  refine k_dload (i := 5) (q := 1388) C4 1 dL_law_1386 rfl rfl ?_
  refine k_dload (i := 7) (q := 1390) C4 0 dL_law_1388 rfl rfl ?_
  refine k_dcmp (q := 1391) C4 dL_law_1390 rfl ?_
  refine k_if_eq (tgt := 1412) (q := 1394) C4 dL_law_1391 (by decide) rfl (fun _ => fin) (fun hn1 => ?_)
  obtain ⟨hc1, hc2⟩ := hc.resolve_left hn1
  refine k_dload (i := 5) (q := 1396) C4 1 dL_law_1394 rfl rfl ?_
  refine k_dload (i := 5) (q := 1398) C4 1 dL_law_1396 rfl rfl ?_
  refine k_dcmp (q := 1399) C4 dL_law_1398 rfl ?_
  refine k_if_eq (tgt := 1410) (q := 1402) C4 dL_law_1399 (by decide) rfl (fun z => absurd z hc1) (fun _ => ?_)
  refine k_dload (i := 7) (q := 1404) C4 0 dL_law_1402 rfl rfl ?_
  refine k_dload (i := 7) (q := 1406) C4 0 dL_law_1404 rfl rfl ?_
  refine k_dcmp (q := 1407) C4 dL_law_1406 rfl ?_
  refine k_if_ne (tgt := 1412) (q := 1410) C4 dL_law_1407 (by decide) rfl (fun _ => fin) (fun z => absurd z hc2)
