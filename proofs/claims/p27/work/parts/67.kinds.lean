/-! what the law's calls do -/
def stepOk (e : Nat → Nat) (cy : Nat → ClassId) (a b : Nat → Nat) (r : Nat) (sk : Nat → Nat → Nat) (M : SK) (k9 u v : Int32) : Prop := ∀ rM : FI32,
  (∃ (M1 : SK) (rM1 : FI32) (ans : Int32), cOk cy a b r sk M M1 k9 u v ans ∧ dOk e cy M M1 rM rM1 k9 u v ans ∧ sUpw (kH M1) (kN M1) ∧ -200001 < ans) ∨ ∃ ans : Int32, cNo cy a b r sk M k9 u v ans ∧ dOk e cy M M rM rM k9 u v ans ∧ ¬ -200001 < ans
theorem lt_big {x : Int32} (h : -200000 ≤ x.toInt) : -200001 < x := by
  rw [Int32.lt_iff_toInt_lt, show (-200001 : Int32).toInt = -200001 by decide +kernel]; omega
theorem lt_nI {k : Nat} (h : k < 1000) : -200001 < nI k := lt_big (by rw [nI_toInt (by omega)]; omega)
theorem sUpw_dn {h : Nat → Int32} {n p : Nat} (H : sUpw h n) : sUpw (sDn h p n) (n - 1) := by
  intro i j hij hj
  unfold sDn
  by_cases a : p ≤ i ∧ i + 1 < n
  · rw [if_pos a, if_pos (by omega)]
    exact H _ _ (by omega) (by omega)
  · rw [if_neg a]
    by_cases b : p ≤ j ∧ j + 1 < n
    · rw [if_pos b]; exact H _ _ (by omega) (by omega)
    · rw [if_neg b]; exact H _ _ hij (by omega)
theorem sPos_sp {h : Nat → Int32} {x : Int32} : ∀ n, sUpw h n → sAny h x n = false → (∀ i, i < sPos h x n → (h i).toInt < x.toInt) ∧ ∀ i, sPos h x n ≤ i → i < n → x.toInt < (h i).toInt
  | 0, _, _ => ⟨fun i hi => absurd hi (Nat.not_lt_zero i), fun i _ hi => absurd hi (Nat.not_lt_zero i)⟩
  | n + 1, H, q => by
    have q1 := sAny_b q
    have H1 : sUpw h n := fun i j a b => H i j a (by omega)
    have hne : ¬ h n = x := fun e => by
      rw [sAny_of (Nat.lt_succ_self n) e] at q; cases q
    have hne2 : (h n).toInt ≠ x.toInt := fun e => hne (Int32.toInt_inj.mp e)
    obtain ⟨a, b⟩ := sPos_sp n H1 q1
    by_cases c : x < h n
    · rw [show sPos h x (n + 1) = sPos h x n from if_pos c]
      rw [Int32.lt_iff_toInt_lt] at c
      refine ⟨a, fun i h1 h2 => ?_⟩
      by_cases e : i = n
      · rw [e]; exact c
      · exact b i h1 (by omega)
    · rw [show sPos h x (n + 1) = n + 1 from if_neg c]
      rw [Int32.lt_iff_toInt_lt] at c
      refine ⟨fun i hi => ?_, fun i h1 h2 => by omega⟩
      by_cases e : i = n
      · rw [e]; omega
      · have := H i n (by omega) (Nat.lt_succ_self n); omega
theorem sUpw_ins {h : Nat → Int32} {n : Nat} {x : Int32} (H : sUpw h n) (q : sAny h x n = false) : sUpw (sIns h n (sPos h x n) x) (n + 1) := by
  obtain ⟨a, b⟩ := sPos_sp n H q
  have hp := sPos_le h x n
  generalize sPos h x n = P at *
  intro i j hij hj
  unfold sIns upd sUp
  by_cases e1 : i = P
  · rw [if_pos e1, if_neg (by omega), if_pos (by omega)]
    exact b (j - 1) (by omega) (by omega)
  · rw [if_neg e1]
    by_cases e2 : j = P
    · rw [if_pos e2, if_neg (by omega)]
      exact a i (by omega)
    · rw [if_neg e2]
      by_cases c1 : P < i ∧ i ≤ n
      · rw [if_pos c1, if_pos (by omega)]; exact H _ _ (by omega) (by omega)
      · rw [if_neg c1]
        by_cases c2 : P < j ∧ j ≤ n
        · rw [if_pos c2]; exact H _ _ (by omega) (by omega)
        · rw [if_neg c2]; exact H _ _ hij (by omega)
theorem lThn_u {h t : Nat → Int32} {x : Int32} {n : Nat} (H : sUpw h n) : ∀ m, sUpw (lThn h t x n m).2.1 (lThn h t x n m).1
  | 0 => H
  | m + 1 => by
    have ih := lThn_u (t := t) (x := x) H m
    unfold lThn
    split
    · exact sUpw_dn ih
    · exact ih
theorem sTry_ok (g h s : Nat → Int32) (j p : Nat) : sOk (iI (sTry g h s j p)) := by
  have := sTry_fm g h s j p
  exact sOk_i ⟨this.1, this.2.1⟩
theorem sFar_nn {g h s : Nat → Int32} {j p : Nat} {z : Int} (hz : -30 ≤ z ∧ z ≤ 30) (hj : j < 2) (hh : 50 ≤ (h p).toInt ∧ (h p).toInt ≤ 3000) (hg : 50 ≤ (g 0).toInt ∧ (g 0).toInt ≤ 1000) (hs : sOk (s (1 - j))) : ¬ sFar g h s j p z < 0 := by
  obtain ⟨e1, b1, b2⟩ := sPlace_i (g := g) (j := j) (z := z) (hh := h p) hz hj hh hg
  obtain ⟨e2, b3, b4⟩ := sPlace_i (g := g) (j := 1 - j) (z := (s (1 - j)).toInt) (hh := h p) hs (by omega) hh hg
  rw [iI_self] at e2
  have e3 : (sPlace g (nI j) (iI z) (h p) - sPlace g (nI (1 - j)) (s (1 - j)) (h p)).toInt = (sPlace g (nI j) (iI z) (h p)).toInt - (sPlace g (nI (1 - j)) (s (1 - j)) (h p)).toInt := by
    rw [Int32.toInt_sub, e1, e2]
    refine Int.bmod_eq_of_le ?_ ?_ <;> split <;> split <;> omega
  unfold sFar
  rw [Int32.lt_iff_toInt_lt, Int32.toInt_zero]
  have := mAbs_nn (x := sPlace g (nI j) (iI z) (h p) - sPlace g (nI (1 - j)) (s (1 - j)) (h p)) (by rw [e3, e1, e2]; split <;> split <;> omega)
  omega
section KINDS
variable {e : Nat → Nat} {cy : Nat → ClassId} {a b : Nat → Nat} {r : Nat} {sk : Nat → Nat → Nat} {M : SK}
theorem st_layer {u v : Int32} (hI : kInv M) (hU : sUpw (kH M) (kN M)) (hu : 50 ≤ u ∧ u ≤ 3000) (hv : 1 ≤ v ∧ v ≤ 100) : stepOk e cy a b r sk M 0 u v := by
  obtain ⟨hn, ho, hs0, hs1, hk8, hh, ht, hg0, hg1, hg2, hg3⟩ := id hI
  have hn : kN M ≤ 6 := hn
  have ho : mBin (kO M) := ho
  have hs0 : sOk (kS M 0) := hs0
  have hs1 : sOk (kS M 1) := hs1
  have hk8 : kK M ≤ 8 := hk8
  have hh : ∀ i, i < kN M → 50 ≤ (kH M i).toInt ∧ (kH M i).toInt ≤ 3000 := hh
  have hg0 : 50 ≤ (kGs M 0).toInt ∧ (kGs M 0).toInt ≤ 1000 := hg0
  intro rM
  by_cases hw : kN M < 6 ∧ sAny (kH M) u (kN M) = false
  · refine Or.inl ⟨kAdd M u v, rM, nI (sPos (kH M) u (kN M)), ?_, ?_, sUpw_ins hU hw.2, lt_nI (Nat.lt_of_le_of_lt (sPos_le _ _ _) (by omega))⟩
    · intro nx sn ln S ik bf kd hg nu dg ng tk K hK hnx hsn
      obtain ⟨-, e1, e2, eH, eT, eS, eG, eK, -⟩ := id hK
      have e1 : qN K = kN M := e1
      have e2 : qLit K = mLit (kO M) := e2
      have eH : ∀ i, i < kN M → qH K i = kH M i := eH
      have eT : ∀ i, i < kN M → qT K i = kT2 M i := eT
      have eS : ∀ i, i < 2 → qS K i = kS M i := eS
      have eG : ∀ i, i < 4 → qG K i = kGs M i := eG
      have eK : qK K = kK M := eK
      have ep : sPos (qH K) u (qN K) = sPos (kH M) u (kN M) := by rw [e1]; exact cg_Pos eH
      have ea : sAny (qH K) u (qN K) = false := by rw [e1, cg_Any eH]; exact hw.2
      refine ⟨xAdd K u v, r_add hK ((mWhy_0 hu hv hn).mpr ⟨hw.2, hw.1⟩), ?_⟩
      rw [← ep]
      exact (c_L_call_layer cy a b r nx sn ln sk S ik bf kd hg nu dg ng tk (qN K) (qLit K) (qH K) (qT K) (qS K) (qG K) (qK K) (qLo K) (qLf K) (qNm K) u v hnx hsn hu hv ea (by omega))
    · intro bM hb
      exact (c_L_due_layer cy e (kN M) (kO M) (kS M) (kGs M) (kK M) (kLo M) (kLf M) (kH M) (kT2 M) (kNm M) bM rM u v hn hw (lCnt_pos _ hU hw.2))
  · refine Or.inr ⟨-200003, ?_, ?_, by decide⟩
    · intro nx sn ln S ik bf kd hg nu dg ng tk K hK hnx hsn
      obtain ⟨-, e1, e2, eH, eT, eS, eG, eK, -⟩ := id hK
      have e1 : qN K = kN M := e1
      have e2 : qLit K = mLit (kO M) := e2
      have eH : ∀ i, i < kN M → qH K i = kH M i := eH
      have eT : ∀ i, i < kN M → qT K i = kT2 M i := eT
      have eS : ∀ i, i < 2 → qS K i = kS M i := eS
      have eG : ∀ i, i < 4 → qG K i = kGs M i := eG
      have eK : qK K = kK M := eK
      exact (c_L_call_layer_e2 cy a b r nx sn ln sk S ik bf kd hg nu dg ng tk (qN K) (qLit K) (qH K) (qT K) (qS K) (qG K) (qK K) (qLo K) (qLf K) (qNm K) u v (by omega) ⟨hu, hv⟩ (fun q => hw ⟨by omega, by rw [← q.1, e1]; exact (cg_Any eH).symm⟩))
    · intro bM hb
      exact (c_L_due_layer_e cy e (kN M) (kO M) (kS M) (kGs M) (kK M) (kLo M) (kLf M) (kH M) (kT2 M) (kNm M) bM rM u v hn hw)
theorem st_aim {j : Nat} {v : Int32} (hI : kInv M) (hU : sUpw (kH M) (kN M)) (hj : j < 2) (hv : -30 ≤ v ∧ v ≤ 30) : stepOk e cy a b r sk M 1 (nI j) v := by
  obtain ⟨hn, ho, hs0, hs1, hk8, hh, ht, hg0, hg1, hg2, hg3⟩ := id hI
  have hn : kN M ≤ 6 := hn
  have ho : mBin (kO M) := ho
  have hs0 : sOk (kS M 0) := hs0
  have hs1 : sOk (kS M 1) := hs1
  have hk8 : kK M ≤ 8 := hk8
  have hh : ∀ i, i < kN M → 50 ≤ (kH M i).toInt ∧ (kH M i).toInt ≤ 3000 := hh
  have hg0 : 50 ≤ (kGs M 0).toInt ∧ (kGs M 0).toInt ≤ 1000 := hg0
  intro rM
  refine Or.inl ⟨kAim M j v, rM, kS M j, ?_, ?_, hU, lt_big ?_⟩
  · intro nx sn ln S ik bf kd hg nu dg ng tk K hK hnx hsn
    obtain ⟨-, e1, e2, eH, eT, eS, eG, eK, -⟩ := id hK
    have e1 : qN K = kN M := e1
    have e2 : qLit K = mLit (kO M) := e2
    have eH : ∀ i, i < kN M → qH K i = kH M i := eH
    have eT : ∀ i, i < kN M → qT K i = kT2 M i := eT
    have eS : ∀ i, i < 2 → qS K i = kS M i := eS
    have eG : ∀ i, i < 4 → qG K i = kGs M i := eG
    have eK : qK K = kK M := eK
    refine ⟨xAim K j v, r_aim hK hj (sOk_of hv), ?_⟩
    rw [← eS j hj]
    exact (c_L_call_aim cy a b r nx sn ln sk S ik bf kd hg nu dg ng tk (qN K) (qLit K) (qH K) (qT K) (qS K) (qG K) (qK K) (qLo K) (qLf K) (qNm K) j v hnx hsn hj hv)
  · intro bM hb
    exact (c_L_due_aim cy e (kN M) (kO M) (kS M) (kGs M) (kK M) (kLo M) (kLf M) (kH M) (kT2 M) (kNm M) bM rM j v hj)
  · have : sOk (kS M j) := by rcases (show j = 0 ∨ j = 1 by omega) with rfl | rfl <;> assumption
    unfold sOk at this; omega
theorem st_scan {j p : Nat} (hI : kInv M) (hU : sUpw (kH M) (kN M)) (hj : j < 2) (hp : p < 6) : stepOk e cy a b r sk M 2 (nI j) (nI p) := by
  obtain ⟨hn, ho, hs0, hs1, hk8, hh, ht, hg0, hg1, hg2, hg3⟩ := id hI
  have hn : kN M ≤ 6 := hn
  have ho : mBin (kO M) := ho
  have hs0 : sOk (kS M 0) := hs0
  have hs1 : sOk (kS M 1) := hs1
  have hk8 : kK M ≤ 8 := hk8
  have hh : ∀ i, i < kN M → 50 ≤ (kH M i).toInt ∧ (kH M i).toInt ≤ 3000 := hh
  have hg0 : 50 ≤ (kGs M 0).toInt ∧ (kGs M 0).toInt ≤ 1000 := hg0
  intro rM
  by_cases hw : p < kN M
  · have hsj : sOk (kS M (1 - j)) := by rcases (show j = 0 ∨ j = 1 by omega) with rfl | rfl <;> assumption
    have hsd : mAbs (sDist (kH M) (kGs M) p ((upd (kS M) j (iI (sTry (kGs M) (kH M) (kS M) j p))) 0) ((upd (kS M) j (iI (sTry (kGs M) (kH M) (kS M) j p))) 1)) = sFar (kGs M) (kH M) (kS M) j p (sTry (kGs M) (kH M) (kS M) j p) := mFar hj (upd_self _ _)
    refine Or.inl ⟨kAim M j (iI (sTry (kGs M) (kH M) (kS M) j p)), rM, mAbs (sDist (kH M) (kGs M) p ((upd (kS M) j (iI (sTry (kGs M) (kH M) (kS M) j p))) 0) ((upd (kS M) j (iI (sTry (kGs M) (kH M) (kS M) j p))) 1)), ?_, ?_, hU, lt_big ?_⟩
    · intro nx sn ln S ik bf kd hg nu dg ng tk K hK hnx hsn
      obtain ⟨-, e1, e2, eH, eT, eS, eG, eK, -⟩ := id hK
      have e1 : qN K = kN M := e1
      have e2 : qLit K = mLit (kO M) := e2
      have eH : ∀ i, i < kN M → qH K i = kH M i := eH
      have eT : ∀ i, i < kN M → qT K i = kT2 M i := eT
      have eS : ∀ i, i < 2 → qS K i = kS M i := eS
      have eG : ∀ i, i < 4 → qG K i = kGs M i := eG
      have eK : qK K = kK M := eK
      have et : sTry (qG K) (qH K) (qS K) j p = sTry (kGs M) (kH M) (kS M) j p := cg_Try eH eS eG hw hj
      have eu : ∀ i, i < 2 → upd (qS K) j (iI (sTry (kGs M) (kH M) (kS M) j p)) i = (upd (kS M) j (iI (sTry (kGs M) (kH M) (kS M) j p))) i := fun i hi => by
        unfold upd
        split
        · rfl
        · exact eS i hi
      have ed : mAbs (sDist (qH K) (qG K) p (upd (qS K) j (iI (sTry (kGs M) (kH M) (kS M) j p)) 0) (upd (qS K) j (iI (sTry (kGs M) (kH M) (kS M) j p)) 1)) = mAbs (sDist (kH M) (kGs M) p ((upd (kS M) j (iI (sTry (kGs M) (kH M) (kS M) j p))) 0) ((upd (kS M) j (iI (sTry (kGs M) (kH M) (kS M) j p))) 1)) := by
        rw [eu 0 (by decide), eu 1 (by decide), cg_Dist eH eG hw]
      refine ⟨xAim K j (iI (sTry (kGs M) (kH M) (kS M) j p)), r_aim hK hj (sTry_ok _ _ _ _ _), ?_⟩
      have z := (c_L_call_scan cy a b r nx sn ln sk S ik bf kd hg nu dg ng tk (qN K) (qLit K) (qH K) (qT K) (qS K) (qG K) (qK K) (qLo K) (qLf K) (qNm K) j p hnx hsn (by omega) hj (by omega))
      rw [et, ed] at z
      exact z
    · intro bM hb
      exact (c_L_due_scan cy e (kN M) (kO M) (kS M) (kGs M) (kK M) (kLo M) (kLf M) (kH M) (kT2 M) (kNm M) bM rM j p hj hn hw (hh p hw) hg0 hsj)
    · rw [hsd]
      have h0 : ¬ sFar (kGs M) (kH M) (kS M) j p (sTry (kGs M) (kH M) (kS M) j p) < 0 := sFar_nn (by have := sTry_fm (kGs M) (kH M) (kS M) j p; exact ⟨this.1, this.2.1⟩) hj (hh p hw) hg0 hsj
      rw [Int32.lt_iff_toInt_lt, Int32.toInt_zero] at h0
      omega
  · refine Or.inr ⟨-200001, ?_, ?_, by decide⟩
    · intro nx sn ln S ik bf kd hg nu dg ng tk K hK hnx hsn
      obtain ⟨-, e1, e2, eH, eT, eS, eG, eK, -⟩ := id hK
      have e1 : qN K = kN M := e1
      have e2 : qLit K = mLit (kO M) := e2
      have eH : ∀ i, i < kN M → qH K i = kH M i := eH
      have eT : ∀ i, i < kN M → qT K i = kT2 M i := eT
      have eS : ∀ i, i < 2 → qS K i = kS M i := eS
      have eG : ∀ i, i < 4 → qG K i = kGs M i := eG
      have eK : qK K = kK M := eK
      exact (c_L_call_scan_e cy a b r nx sn ln sk S ik bf kd hg nu dg ng tk (qN K) (qLit K) (qH K) (qT K) (qS K) (qG K) (qK K) (qLo K) (qLf K) (qNm K) (nI j) (nI p) (fun q => absurd (nI_of_lt q.2.2 (by omega) (by omega)) (by omega)))
    · intro bM hb
      exact (c_L_due_scan_e cy e (kN M) (kO M) (kS M) (kGs M) (kK M) (kLo M) (kLf M) (kH M) (kT2 M) (kNm M) bM rM j p hn (by omega) (by omega))
theorem st_log {u v : Int32} (hI : kInv M) (hU : sUpw (kH M) (kN M)) : stepOk e cy a b r sk M 3 u v := by
  obtain ⟨hn, ho, hs0, hs1, hk8, hh, ht, hg0, hg1, hg2, hg3⟩ := id hI
  have hn : kN M ≤ 6 := hn
  have ho : mBin (kO M) := ho
  have hs0 : sOk (kS M 0) := hs0
  have hs1 : sOk (kS M 1) := hs1
  have hk8 : kK M ≤ 8 := hk8
  have hh : ∀ i, i < kN M → 50 ≤ (kH M i).toInt ∧ (kH M i).toInt ≤ 3000 := hh
  have hg0 : 50 ≤ (kGs M 0).toInt ∧ (kGs M 0).toInt ≤ 1000 := hg0
  intro rM
  refine Or.inl ⟨kLog M (mLgK M), (upd (upd (upd (upd rM 0 (mRn (kH M) (kN M) (sMeet (kGs M) ((kS M) 0) ((kS M) 1)) (mC (sClose (mLit (kO M)) (kH M) (kT2 M) (kS M) (kGs M)) (mD (kH M) (kS M) (kGs M)) (kN M)) 0)) 1 (mRn (kH M) (kN M) (sMeet (kGs M) ((kS M) 0) ((kS M) 1)) (mC (sClose (mLit (kO M)) (kH M) (kT2 M) (kS M) (kGs M)) (mD (kH M) (kS M) (kGs M)) (kN M)) 1)) 2 (mRn (kH M) (kN M) (sMeet (kGs M) ((kS M) 0) ((kS M) 1)) (mC (sClose (mLit (kO M)) (kH M) (kT2 M) (kS M) (kGs M)) (mD (kH M) (kS M) (kGs M)) (kN M)) 2)) 3 (mRn (kH M) (kN M) (sMeet (kGs M) ((kS M) 0) ((kS M) 1)) (mC (sClose (mLit (kO M)) (kH M) (kT2 M) (kS M) (kGs M)) (mD (kH M) (kS M) (kGs M)) (kN M)) 3)), nI (min (kK M + 1) 8), ?_, ?_, hU, lt_nI (by omega)⟩
  rotate_left
  · intro bM hb
    exact (c_L_due_log cy e (kN M) (kO M) (kS M) (kGs M) (kK M) (kLo M) (kLf M) (kH M) (kT2 M) (kNm M) bM rM u v hn hb ho hs0 hs1 hg0 hk8)
  · intro nx sn ln S ik bf kd hg nu dg ng tk K hK hnx hsn
    obtain ⟨-, e1, e2, eH, eT, eS, eG, eK, -⟩ := id hK
    have e1 : qN K = kN M := e1
    have e2 : qLit K = mLit (kO M) := e2
    have eH : ∀ i, i < kN M → qH K i = kH M i := eH
    have eT : ∀ i, i < kN M → qT K i = kT2 M i := eT
    have eS : ∀ i, i < 2 → qS K i = kS M i := eS
    have eG : ∀ i, i < 4 → qG K i = kGs M i := eG
    have eK : qK K = kK M := eK
    refine ⟨xLog K, r_log hK, ?_⟩
    rw [← eK]
    exact (c_L_call_log cy a b r nx sn ln sk S ik bf kd hg nu dg ng tk (qN K) (qLit K) (qH K) (qT K) (qS K) (qG K) (qK K) (qLo K) (qLf K) (qNm K) u v hnx hsn (by omega) (by omega))
theorem st_turn {j : Nat} {v : Int32} (hI : kInv M) (hU : sUpw (kH M) (kN M)) (hj : j < 2) : stepOk e cy a b r sk M 4 (nI j) v := by
  obtain ⟨hn, ho, hs0, hs1, hk8, hh, ht, hg0, hg1, hg2, hg3⟩ := id hI
  have hn : kN M ≤ 6 := hn
  have ho : mBin (kO M) := ho
  have hs0 : sOk (kS M 0) := hs0
  have hs1 : sOk (kS M 1) := hs1
  have hk8 : kK M ≤ 8 := hk8
  have hh : ∀ i, i < kN M → 50 ≤ (kH M i).toInt ∧ (kH M i).toInt ≤ 3000 := hh
  have hg0 : 50 ≤ (kGs M 0).toInt ∧ (kGs M 0).toInt ≤ 1000 := hg0
  intro rM
  refine Or.inl ⟨(kN M, upd (kO M) j (1 - kO M j), kH M, kT2 M, kS M, kGs M, kK M, kLo M, kLf M, kNm M), rM, 1 - kO M j, ?_, ?_, hU, ?_⟩
  · intro nx sn ln S ik bf kd hg nu dg ng tk K hK hnx hsn
    obtain ⟨-, e1, e2, eH, eT, eS, eG, eK, -⟩ := id hK
    have e1 : qN K = kN M := e1
    have e2 : qLit K = mLit (kO M) := e2
    have eH : ∀ i, i < kN M → qH K i = kH M i := eH
    have eT : ∀ i, i < kN M → qT K i = kT2 M i := eT
    have eS : ∀ i, i < 2 → qS K i = kS M i := eS
    have eG : ∀ i, i < 4 → qG K i = kGs M i := eG
    have eK : qK K = kK M := eK
    refine ⟨_, r_turn hK hj, ?_⟩
    rw [← mLit_v ho hj, ← e2]
    exact (c_L_call_turn cy a b r nx sn ln sk S ik bf kd hg nu dg ng tk (qN K) (qLit K) (qH K) (qT K) (qS K) (qG K) (qK K) (qLo K) (qLf K) (qNm K) j v hnx hsn hj)
  · intro bM hb
    exact (c_L_due_turn cy e (kN M) (kO M) (kS M) (kGs M) (kK M) (kLo M) (kLf M) (kH M) (kT2 M) (kNm M) bM rM j v hj)
  · have : kO M j = 0 ∨ kO M j = 1 := by
      rcases (show j = 0 ∨ j = 1 by omega) with rfl | rfl
      · exact ho.1
      · exact ho.2
    rcases this with q | q <;> rw [q] <;> decide
theorem st_set {j : Nat} {v : Int32} (hI : kInv M) (hU : sUpw (kH M) (kN M)) (hj : j < 4) (hv : mLeast j ≤ v ∧ v ≤ mMost j) : stepOk e cy a b r sk M 5 (nI j) v := by
  obtain ⟨hn, ho, hs0, hs1, hk8, hh, ht, hg0, hg1, hg2, hg3⟩ := id hI
  have hn : kN M ≤ 6 := hn
  have ho : mBin (kO M) := ho
  have hs0 : sOk (kS M 0) := hs0
  have hs1 : sOk (kS M 1) := hs1
  have hk8 : kK M ≤ 8 := hk8
  have hh : ∀ i, i < kN M → 50 ≤ (kH M i).toInt ∧ (kH M i).toInt ≤ 3000 := hh
  have hg0 : 50 ≤ (kGs M 0).toInt ∧ (kGs M 0).toInt ≤ 1000 := hg0
  intro rM
  refine Or.inl ⟨(kN M, kO M, kH M, kT2 M, kS M, upd (kGs M) j v, kK M, kLo M, kLf M, kNm M), rM, kGs M j, ?_, ?_, hU, lt_big ?_⟩
  · intro nx sn ln S ik bf kd hg nu dg ng tk K hK hnx hsn
    obtain ⟨-, e1, e2, eH, eT, eS, eG, eK, -⟩ := id hK
    have e1 : qN K = kN M := e1
    have e2 : qLit K = mLit (kO M) := e2
    have eH : ∀ i, i < kN M → qH K i = kH M i := eH
    have eT : ∀ i, i < kN M → qT K i = kT2 M i := eT
    have eS : ∀ i, i < 2 → qS K i = kS M i := eS
    have eG : ∀ i, i < 4 → qG K i = kGs M i := eG
    have eK : qK K = kK M := eK
    refine ⟨_, r_set hK hj hv, ?_⟩
    rw [← eG j hj]
    exact (c_L_call_set cy a b r nx sn ln sk S ik bf kd hg nu dg ng tk (qN K) (qLit K) (qH K) (qT K) (qS K) (qG K) (qK K) (qLo K) (qLf K) (qNm K) j v hnx hsn hj hv)
  · intro bM hb
    exact (c_L_due_set cy e (kN M) (kO M) (kS M) (kGs M) (kK M) (kLo M) (kLf M) (kH M) (kT2 M) (kNm M) bM rM j v hj)
  · have h1 : 0 ≤ (kGs M 1).toInt := hg1.1
    have h2 : 1 ≤ (kGs M 2).toInt := hg2.1
    have h3 : 0 ≤ (kGs M 3).toInt := hg3.1
    rcases (show j = 0 ∨ j = 1 ∨ j = 2 ∨ j = 3 by omega) with rfl | rfl | rfl | rfl <;> omega
theorem st_clear {p : Nat} {v : Int32} (hI : kInv M) (hU : sUpw (kH M) (kN M)) (hp : p < 6) : stepOk e cy a b r sk M 6 (nI p) v := by
  obtain ⟨hn, ho, hs0, hs1, hk8, hh, ht, hg0, hg1, hg2, hg3⟩ := id hI
  have hn : kN M ≤ 6 := hn
  have ho : mBin (kO M) := ho
  have hs0 : sOk (kS M 0) := hs0
  have hs1 : sOk (kS M 1) := hs1
  have hk8 : kK M ≤ 8 := hk8
  have hh : ∀ i, i < kN M → 50 ≤ (kH M i).toInt ∧ (kH M i).toInt ≤ 3000 := hh
  have hg0 : 50 ≤ (kGs M 0).toInt ∧ (kGs M 0).toInt ≤ 1000 := hg0
  intro rM
  by_cases hw : p < kN M
  · refine Or.inl ⟨kDrop M p, rM, kH M p, ?_, ?_, sUpw_dn hU, lt_big (by have := hh p hw; omega)⟩
    · intro nx sn ln S ik bf kd hg nu dg ng tk K hK hnx hsn
      obtain ⟨-, e1, e2, eH, eT, eS, eG, eK, -⟩ := id hK
      have e1 : qN K = kN M := e1
      have e2 : qLit K = mLit (kO M) := e2
      have eH : ∀ i, i < kN M → qH K i = kH M i := eH
      have eT : ∀ i, i < kN M → qT K i = kT2 M i := eT
      have eS : ∀ i, i < 2 → qS K i = kS M i := eS
      have eG : ∀ i, i < 4 → qG K i = kGs M i := eG
      have eK : qK K = kK M := eK
      refine ⟨xDrop K p, r_drop hK hw, ?_⟩
      rw [← eH p hw]
      exact (c_L_call_clear cy a b r nx sn ln sk S ik bf kd hg nu dg ng tk (qN K) (qLit K) (qH K) (qT K) (qS K) (qG K) (qK K) (qLo K) (qLf K) (qNm K) p v hnx hsn (by omega) (by omega))
    · intro bM hb
      exact (c_L_due_clear cy e (kN M) (kO M) (kS M) (kGs M) (kK M) (kLo M) (kLf M) (kH M) (kT2 M) (kNm M) bM rM p v hn hw)
  · refine Or.inr ⟨-200001, ?_, ?_, by decide⟩
    · intro nx sn ln S ik bf kd hg nu dg ng tk K hK hnx hsn
      obtain ⟨-, e1, e2, eH, eT, eS, eG, eK, -⟩ := id hK
      have e1 : qN K = kN M := e1
      have e2 : qLit K = mLit (kO M) := e2
      have eH : ∀ i, i < kN M → qH K i = kH M i := eH
      have eT : ∀ i, i < kN M → qT K i = kT2 M i := eT
      have eS : ∀ i, i < 2 → qS K i = kS M i := eS
      have eG : ∀ i, i < 4 → qG K i = kGs M i := eG
      have eK : qK K = kK M := eK
      exact (c_L_call_clear_e cy a b r nx sn ln sk S ik bf kd hg nu dg ng tk (qN K) (qLit K) (qH K) (qT K) (qS K) (qG K) (qK K) (qLo K) (qLf K) (qNm K) (nI p) v (fun q => absurd (nI_of_lt q.2 (by omega) (by omega)) (by omega)))
    · intro bM hb
      exact (c_L_due_clear_e cy e (kN M) (kO M) (kS M) (kGs M) (kK M) (kLo M) (kLf M) (kH M) (kT2 M) (kNm M) bM rM p v hn (by omega) (by omega))
theorem st_thin {u v : Int32} (hI : kInv M) (hU : sUpw (kH M) (kN M)) (hu : 1 ≤ u ∧ u ≤ 100) : stepOk e cy a b r sk M 7 u v := by
  obtain ⟨hn, ho, hs0, hs1, hk8, hh, ht, hg0, hg1, hg2, hg3⟩ := id hI
  have hn : kN M ≤ 6 := hn
  have ho : mBin (kO M) := ho
  have hs0 : sOk (kS M 0) := hs0
  have hs1 : sOk (kS M 1) := hs1
  have hk8 : kK M ≤ 8 := hk8
  have hh : ∀ i, i < kN M → 50 ≤ (kH M i).toInt ∧ (kH M i).toInt ≤ 3000 := hh
  have hg0 : 50 ≤ (kGs M 0).toInt ∧ (kGs M 0).toInt ≤ 1000 := hg0
  intro rM
  have hT := lThn_T (kH M) (kT2 M) u (kN M) (kN M) (Nat.le_refl _)
  rw [Nat.sub_self] at hT
  have hE : (lThn (kH M) (kT2 M) u (kN M) (kN M)).1 = sKeep (kT2 M) u (kN M) := by
    have := hT.2.1
    rw [show sKeep (kT2 M) u 0 = 0 from rfl] at this
    omega
  have hp : ∀ i, i < sKeep (kT2 M) u (kN M) → (lThn (kH M) (kT2 M) u (kN M) (kN M)).2.1 i = sPack (kT2 M) u (kH M) (kN M) i ∧ (lThn (kH M) (kT2 M) u (kN M) (kN M)).2.2 i = sPack (kT2 M) u (kT2 M) (kN M) i := fun i hi => by
    have := hT.2.2.2 i (Nat.zero_le _) (by rw [hE]; exact hi)
    rw [show sKeep (kT2 M) u 0 = 0 from rfl, Nat.sub_zero, Nat.zero_add] at this
    exact this
  have hL := sKeep_le (kT2 M) u (kN M)
  refine Or.inl ⟨(sKeep (kT2 M) u (kN M), kO M, (lThn (kH M) (kT2 M) u (kN M) (kN M)).2.1, (lThn (kH M) (kT2 M) u (kN M) (kN M)).2.2, kS M, kGs M, kK M, kLo M, kLf M, kNm M), rM, nI (kN M - sKeep (kT2 M) u (kN M)), ?_, ?_, ?_, lt_nI (by omega)⟩
  · intro nx sn ln S ik bf kd hg nu dg ng tk K hK hnx hsn
    obtain ⟨-, e1, e2, eH, eT, eS, eG, eK, -⟩ := id hK
    have e1 : qN K = kN M := e1
    have e2 : qLit K = mLit (kO M) := e2
    have eH : ∀ i, i < kN M → qH K i = kH M i := eH
    have eT : ∀ i, i < kN M → qT K i = kT2 M i := eT
    have eS : ∀ i, i < 2 → qS K i = kS M i := eS
    have eG : ∀ i, i < 4 → qG K i = kGs M i := eG
    have eK : qK K = kK M := eK
    refine ⟨_, r_thin hK hp, ?_⟩
    have ek : sKeep (qT K) u (qN K) = sKeep (kT2 M) u (kN M) := by rw [e1]; exact cg_Keep eT
    rw [← ek, ← e1]
    exact (c_L_call_clearThin cy a b r nx sn ln sk S ik bf kd hg nu dg ng tk (qN K) (qLit K) (qH K) (qT K) (qS K) (qG K) (qK K) (qLo K) (qLf K) (qNm K) u v hnx hsn (by omega) hu)
  · intro bM hb
    have z := (c_L_due_thin cy e (kN M) (kO M) (kS M) (kGs M) (kK M) (kLo M) (kLf M) (kH M) (kT2 M) (kNm M) bM rM u v hn (fun i hi => h_pos (hh i hi)))
    rw [hE] at z
    exact z
  · show sUpw (lThn (kH M) (kT2 M) u (kN M) (kN M)).2.1 (sKeep (kT2 M) u (kN M))
    rw [← hE]
    exact lThn_u hU _
end KINDS
