abbrev rm_L_reads : Room := { frames := 3, cells := 0, slots := 0, locals := 68 }
set_option maxHeartbeats 4000000 in
set_option maxRecDepth 100000 in
theorem lp_L_reads_188 (cy : Nat → ClassId) (e : Nat → Nat) (nM : Nat) (oM : Nat → Int32) (sM : Nat → Int32) (gM : Nat → Int32) (knM : Nat) (loM : Int32) (lfM : Int32) (hM : Nat → Int32) (tM : Nat → Int32) (lM : Nat → Int32) (bM : Nat → Int32) (rM : Nat → Int32)  (hn : nM ≤ 6) (hb : lB nM hM tM (gM 1) bM) (ho : mBin oM) (hs0 : sOk (sM 0)) (hs1 : sOk (sM 1)) (hg0 : 50 ≤ (gM 0).toInt ∧ (gM 0).toInt ≤ 1000) (X : kX) (hR : xR X = rm_L_reads) (C : kC X 8 RL cL_reads wsL_reads cy) (E : kEnd X 8 cL_reads (bI (lIs (sMeet gM (sM 0) (sM 1)) (mC (sClose (mLit oM) hM tM sM gM) (mD hM sM gM) nM))) (wLa e cy (qSt nM oM sM gM knM loM lfM) hM tM lM bM (upd (upd (upd (upd rM 0 (mRn hM nM (sMeet gM (sM 0) (sM 1)) (mC (sClose (mLit oM) hM tM sM gM) (mD hM sM gM) nM) 0)) 1 (mRn hM nM (sMeet gM (sM 0) (sM 1)) (mC (sClose (mLit oM) hM tM sM gM) (mD hM sM gM) nM) 1)) 2 (mRn hM nM (sMeet gM (sM 0) (sM 1)) (mC (sClose (mLit oM) hM tM sM gM) (mD hM sM gM) nM) 2)) 3 (mRn hM nM (sMeet gM (sM 0) (sM 1)) (mC (sClose (mLit oM) hM tM sM gM) (mD hM sM gM) nM) 3)))) : ∀ (fu : Nat) (k : Nat), nM - k < fu → (k ≤ nM) → kG X 8 0 0 (wLa e cy (qSt nM oM sM gM knM loM lfM) hM tM lM bM (upd (upd (upd (upd rM 0 (mRn hM nM (sMeet gM (sM 0) (sM 1)) (mC (sClose (mLit oM) hM tM sM gM) (mD hM sM gM) nM) 0)) 1 (mRn hM nM (sMeet gM (sM 0) (sM 1)) (mC (sClose (mLit oM) hM tM sM gM) (mD hM sM gM) nM) 1)) 2 (mRn hM nM (sMeet gM (sM 0) (sM 1)) (mC (sClose (mLit oM) hM tM sM gM) (mD hM sM gM) nM) 2)) 3 (lR3 hM nM (sMeet gM (sM 0) (sM 1)) (mC (sClose (mLit oM) hM tM sM gM) (mD hM sM gM) nM) k))) 188 [(0, .ref (e 0)), (1, .ref (e 1)), (2, .ref (e 4)), (3, .ref (e 5)), (5, .int (bI (lIs (sMeet gM (sM 0) (sM 1)) (mC (sClose (mLit oM) hM tM sM gM) (mD hM sM gM) nM)))), (6, .int (sMeet gM (sM 0) (sM 1))), (7, .int (nI k))] [] := by
  intro fu
  induction fu with
  | zero => intro k hfu; exact absurd hfu (Nat.not_lt_zero _)
  | succ fu ih =>
    intro k hfu hk
    refine k_iload (q := 190) C 6 dL_reads_188 rfl rfl ?_
    refine k_aload_n (q := 191) C 0 dL_reads_190 rfl rfl ?_
    refine k_bipush (q := 193) (v := 8) C dL_reads_191 (by decide +kernel) rfl ?_
    refine k_iald (q := 194) C 0 rfl (vp_in_nI (n := 8) (by decide) (by decide)) dL_reads_193 rfl ?_
    refine k_sti (show (qSt nM oM sM gM knM loM lfM) (8 : Int32).toNatClampNeg = (qSt nM oM sM gM knM loM lfM) 8 from congrArg (qSt nM oM sM gM knM loM lfM) (nI_clamp (n := 8) (by decide))) ?_
    refine k_sti (show (qSt nM oM sM gM knM loM lfM) 8 = nI nM from rfl) ?_
    refine k_nicmp_ge (a := k) (b := nM)  (tgt := 237) (q := 197) C dL_reads_194 (by decide) rfl (by omega) (by omega) ?_ ?_
    · intro c_194
      refine k_iload (q := 239) C 4 dL_reads_237 rfl rfl ?_
      exact k_fin E dL_reads_239 (rfl) (by rw [lR3_end (Or.inl (by omega))])
    · intro c_194
      refine k_iload (q := 199) C 4 dL_reads_197 rfl rfl ?_
      refine k_ifB_eq (tgt := 237) (q := 202) C dL_reads_199 (by decide) rfl ?_ ?_
      · intro c_199
        refine k_iload (q := 239) C 4 dL_reads_237 rfl rfl ?_
        exact k_fin E dL_reads_239 (rfl) (by rw [lR3_end (Or.inr c_199)])
      · intro c_199
        have hmc : mC (sClose (mLit oM) hM tM sM gM) (mD hM sM gM) nM = -99999 ∨ ∃ p, p < nM ∧ mC (sClose (mLit oM) hM tM sM gM) (mD hM sM gM) nM = nI p := mC_ex _ _ _
        obtain ⟨p, hp, ep⟩ := hmc.resolve_left (fun q => c_199 (Or.inr q))
        have hp2 : p < 6 := by omega
        refine k_aload_n (q := 203) C 3 dL_reads_202 rfl rfl ?_
        refine k_iconst (q := 204) (v := 3) C dL_reads_203 (by decide) rfl ?_
        have J_204 : kG X 8 0 0 (wLa e cy (qSt nM oM sM gM knM loM lfM) hM tM lM bM (upd (upd (upd (upd rM 0 (mRn hM nM (sMeet gM (sM 0) (sM 1)) (mC (sClose (mLit oM) hM tM sM gM) (mD hM sM gM) nM) 0)) 1 (mRn hM nM (sMeet gM (sM 0) (sM 1)) (mC (sClose (mLit oM) hM tM sM gM) (mD hM sM gM) nM) 1)) 2 (mRn hM nM (sMeet gM (sM 0) (sM 1)) (mC (sClose (mLit oM) hM tM sM gM) (mD hM sM gM) nM) 2)) 3 (lR3 hM nM (sMeet gM (sM 0) (sM 1)) (mC (sClose (mLit oM) hM tM sM gM) (mD hM sM gM) nM) k))) 230 [(0, .ref (e 0)), (1, .ref (e 1)), (2, .ref (e 4)), (3, .ref (e 5)), (5, .int (bI (lIs (sMeet gM (sM 0) (sM 1)) (mC (sClose (mLit oM) hM tM sM gM) (mD hM sM gM) nM)))), (6, .int (sMeet gM (sM 0) (sM 1))), (7, .int (nI k))] [.int (lR3 hM nM (sMeet gM (sM 0) (sM 1)) (mC (sClose (mLit oM) hM tM sM gM) (mD hM sM gM) nM) (k + 1)), .int 3, .ref (e 5)] := by
          refine k_iast (q := 231) (w2 := (wLa e cy (qSt nM oM sM gM knM loM lfM) hM tM lM bM (upd (upd (upd (upd (upd rM 0 (mRn hM nM (sMeet gM (sM 0) (sM 1)) (mC (sClose (mLit oM) hM tM sM gM) (mD hM sM gM) nM) 0)) 1 (mRn hM nM (sMeet gM (sM 0) (sM 1)) (mC (sClose (mLit oM) hM tM sM gM) (mD hM sM gM) nM) 1)) 2 (mRn hM nM (sMeet gM (sM 0) (sM 1)) (mC (sClose (mLit oM) hM tM sM gM) (mD hM sM gM) nM) 2)) 3 (lR3 hM nM (sMeet gM (sM 0) (sM 1)) (mC (sClose (mLit oM) hM tM sM gM) (mD hM sM gM) nM) k)) 3 (lR3 hM nM (sMeet gM (sM 0) (sM 1)) (mC (sClose (mLit oM) hM tM sM gM) (mD hM sM gM) nM) (k + 1))))) C 5 rfl (vp_in_nI (n := 3) (by decide) (by decide)) rfl dL_reads_230 rfl ?_
          refine k_w (w2 := (wLa e cy (qSt nM oM sM gM knM loM lfM) hM tM lM bM (upd (upd (upd (upd rM 0 (mRn hM nM (sMeet gM (sM 0) (sM 1)) (mC (sClose (mLit oM) hM tM sM gM) (mD hM sM gM) nM) 0)) 1 (mRn hM nM (sMeet gM (sM 0) (sM 1)) (mC (sClose (mLit oM) hM tM sM gM) (mD hM sM gM) nM) 1)) 2 (mRn hM nM (sMeet gM (sM 0) (sM 1)) (mC (sClose (mLit oM) hM tM sM gM) (mD hM sM gM) nM) 2)) 3 (lR3 hM nM (sMeet gM (sM 0) (sM 1)) (mC (sClose (mLit oM) hM tM sM gM) (mD hM sM gM) nM) (k + 1))))) (by rw [upd_upd]) ?_
          refine k_iinc (q := 234) (v := nI (k + 1)) (fr2 := [(7, .int (nI (k + 1))), (0, .ref (e 0)), (1, .ref (e 1)), (2, .ref (e 4)), (3, .ref (e 5)), (5, .int (bI (lIs (sMeet gM (sM 0) (sM 1)) (mC (sClose (mLit oM) hM tM sM gM) (mD hM sM gM) nM)))), (6, .int (sMeet gM (sM 0) (sM 1)))]) C 6 dL_reads_231 rfl (nI_add k 1) (by decide) rfl rfl ?_
          refine k_goto (q := 188) C dL_reads_234 (by decide) ?_
          refine k_fr (fr2 := [(0, .ref (e 0)), (1, .ref (e 1)), (2, .ref (e 4)), (3, .ref (e 5)), (5, .int (bI (lIs (sMeet gM (sM 0) (sM 1)) (mC (sClose (mLit oM) hM tM sM gM) (mD hM sM gM) nM)))), (6, .int (sMeet gM (sM 0) (sM 1))), (7, .int (nI (k + 1)))]) ⟨[1, 2, 3, 4, 5, 6, 0], rfl⟩ ?_
          exact ih (k + 1) (by omega) (by omega)
        refine k_aload_n (q := 205) C 1 dL_reads_204 rfl rfl ?_
        refine k_iload (q := 207) C 6 dL_reads_205 rfl rfl ?_
        refine k_iald (q := 208) C 1 rfl (vp_in_nI (n := k) (by omega) (by decide)) dL_reads_207 rfl ?_
        refine k_sti (show hM (nI k).toNatClampNeg = hM k from congrArg hM (nI_clamp (n := k) (by omega))) ?_
        refine k_iload (q := 210) C 5 dL_reads_208 rfl rfl ?_
        refine k_isub (q := 211) C dL_reads_210 rfl ?_
        refine k_callSI (n := 1) (q := 214) (pre := ([] : va_W)) (post := (wLa e cy (qSt nM oM sM gM knM loM lfM) hM tM lM bM (upd (upd (upd (upd rM 0 (mRn hM nM (sMeet gM (sM 0) (sM 1)) (mC (sClose (mLit oM) hM tM sM gM) (mD hM sM gM) nM) 0)) 1 (mRn hM nM (sMeet gM (sM 0) (sM 1)) (mC (sClose (mLit oM) hM tM sM gM) (mD hM sM gM) nM) 1)) 2 (mRn hM nM (sMeet gM (sM 0) (sM 1)) (mC (sClose (mLit oM) hM tM sM gM) (mD hM sM gM) nM) 2)) 3 (lR3 hM nM (sMeet gM (sM 0) (sM 1)) (mC (sClose (mLit oM) hM tM sM gM) (mD hM sM gM) nM) k)))) (w2 := (wLa e cy (qSt nM oM sM gM knM loM lfM) hM tM lM bM (upd (upd (upd (upd rM 0 (mRn hM nM (sMeet gM (sM 0) (sM 1)) (mC (sClose (mLit oM) hM tM sM gM) (mD hM sM gM) nM) 0)) 1 (mRn hM nM (sMeet gM (sM 0) (sM 1)) (mC (sClose (mLit oM) hM tM sM gM) (mD hM sM gM) nM) 1)) 2 (mRn hM nM (sMeet gM (sM 0) (sM 1)) (mC (sClose (mLit oM) hM tM sM gM) (mD hM sM gM) nM) 2)) 3 (lR3 hM nM (sMeet gM (sM 0) (sM 1)) (mC (sClose (mLit oM) hM tM sM gM) (mD hM sM gM) nM) k)))) (As := [.int ((hM k) - (sMeet gM (sM 0) (sM 1)))]) (rest := [.int 3, .ref (e 5)]) C (c_L_size ((hM k) - (sMeet gM (sM 0) (sM 1)))) gL_reads_L_size rfl rfl rfl (by decide +kernel) (k_room hR (by decide)) ⟨Nat.zero_le _, Nat.zero_le _⟩  rfl rfl (Nat.le_of_ble_eq_true rfl) (rfl) (rfl) dL_reads_211 rfl ?_
        refine k_aload_n (q := 215) C 3 dL_reads_214 rfl rfl ?_
        refine k_iconst (q := 216) (v := 2) C dL_reads_215 (by decide) rfl ?_
        refine k_iald (q := 217) C 5 rfl (vp_in_nI (n := 2) (by decide) (by decide)) dL_reads_216 rfl ?_
        refine k_sti (show (upd (upd (upd (upd rM 0 (mRn hM nM (sMeet gM (sM 0) (sM 1)) (mC (sClose (mLit oM) hM tM sM gM) (mD hM sM gM) nM) 0)) 1 (mRn hM nM (sMeet gM (sM 0) (sM 1)) (mC (sClose (mLit oM) hM tM sM gM) (mD hM sM gM) nM) 1)) 2 (mRn hM nM (sMeet gM (sM 0) (sM 1)) (mC (sClose (mLit oM) hM tM sM gM) (mD hM sM gM) nM) 2)) 3 (lR3 hM nM (sMeet gM (sM 0) (sM 1)) (mC (sClose (mLit oM) hM tM sM gM) (mD hM sM gM) nM) k)) (2 : Int32).toNatClampNeg = (upd (upd (upd (upd rM 0 (mRn hM nM (sMeet gM (sM 0) (sM 1)) (mC (sClose (mLit oM) hM tM sM gM) (mD hM sM gM) nM) 0)) 1 (mRn hM nM (sMeet gM (sM 0) (sM 1)) (mC (sClose (mLit oM) hM tM sM gM) (mD hM sM gM) nM) 1)) 2 (mRn hM nM (sMeet gM (sM 0) (sM 1)) (mC (sClose (mLit oM) hM tM sM gM) (mD hM sM gM) nM) 2)) 3 (lR3 hM nM (sMeet gM (sM 0) (sM 1)) (mC (sClose (mLit oM) hM tM sM gM) (mD hM sM gM) nM) k)) 2 from congrArg (upd (upd (upd (upd rM 0 (mRn hM nM (sMeet gM (sM 0) (sM 1)) (mC (sClose (mLit oM) hM tM sM gM) (mD hM sM gM) nM) 0)) 1 (mRn hM nM (sMeet gM (sM 0) (sM 1)) (mC (sClose (mLit oM) hM tM sM gM) (mD hM sM gM) nM) 1)) 2 (mRn hM nM (sMeet gM (sM 0) (sM 1)) (mC (sClose (mLit oM) hM tM sM gM) (mD hM sM gM) nM) 2)) 3 (lR3 hM nM (sMeet gM (sM 0) (sM 1)) (mC (sClose (mLit oM) hM tM sM gM) (mD hM sM gM) nM) k)) (nI_clamp (n := 2) (by decide))) ?_
        refine k_sti (show (upd (upd (upd (upd rM 0 (mRn hM nM (sMeet gM (sM 0) (sM 1)) (mC (sClose (mLit oM) hM tM sM gM) (mD hM sM gM) nM) 0)) 1 (mRn hM nM (sMeet gM (sM 0) (sM 1)) (mC (sClose (mLit oM) hM tM sM gM) (mD hM sM gM) nM) 1)) 2 (mRn hM nM (sMeet gM (sM 0) (sM 1)) (mC (sClose (mLit oM) hM tM sM gM) (mD hM sM gM) nM) 2)) 3 (lR3 hM nM (sMeet gM (sM 0) (sM 1)) (mC (sClose (mLit oM) hM tM sM gM) (mD hM sM gM) nM) k)) 2 = mRn hM nM (sMeet gM (sM 0) (sM 1)) (mC (sClose (mLit oM) hM tM sM gM) (mD hM sM gM) nM) 2 from rfl) ?_
        refine k_callSI (n := 1) (q := 220) (pre := ([] : va_W)) (post := (wLa e cy (qSt nM oM sM gM knM loM lfM) hM tM lM bM (upd (upd (upd (upd rM 0 (mRn hM nM (sMeet gM (sM 0) (sM 1)) (mC (sClose (mLit oM) hM tM sM gM) (mD hM sM gM) nM) 0)) 1 (mRn hM nM (sMeet gM (sM 0) (sM 1)) (mC (sClose (mLit oM) hM tM sM gM) (mD hM sM gM) nM) 1)) 2 (mRn hM nM (sMeet gM (sM 0) (sM 1)) (mC (sClose (mLit oM) hM tM sM gM) (mD hM sM gM) nM) 2)) 3 (lR3 hM nM (sMeet gM (sM 0) (sM 1)) (mC (sClose (mLit oM) hM tM sM gM) (mD hM sM gM) nM) k)))) (w2 := (wLa e cy (qSt nM oM sM gM knM loM lfM) hM tM lM bM (upd (upd (upd (upd rM 0 (mRn hM nM (sMeet gM (sM 0) (sM 1)) (mC (sClose (mLit oM) hM tM sM gM) (mD hM sM gM) nM) 0)) 1 (mRn hM nM (sMeet gM (sM 0) (sM 1)) (mC (sClose (mLit oM) hM tM sM gM) (mD hM sM gM) nM) 1)) 2 (mRn hM nM (sMeet gM (sM 0) (sM 1)) (mC (sClose (mLit oM) hM tM sM gM) (mD hM sM gM) nM) 2)) 3 (lR3 hM nM (sMeet gM (sM 0) (sM 1)) (mC (sClose (mLit oM) hM tM sM gM) (mD hM sM gM) nM) k)))) (As := [.int (mRn hM nM (sMeet gM (sM 0) (sM 1)) (mC (sClose (mLit oM) hM tM sM gM) (mD hM sM gM) nM) 2)]) (rest := [.int (mAbs ((hM k) - (sMeet gM (sM 0) (sM 1)))), .int 3, .ref (e 5)]) C (c_L_size (mRn hM nM (sMeet gM (sM 0) (sM 1)) (mC (sClose (mLit oM) hM tM sM gM) (mD hM sM gM) nM) 2)) gL_reads_L_size rfl rfl rfl (by decide +kernel) (k_room hR (by decide)) ⟨Nat.zero_le _, Nat.zero_le _⟩  rfl rfl (Nat.le_of_ble_eq_true rfl) (rfl) (rfl) dL_reads_217 rfl ?_
        refine k_icmp_ge (tgt := 227) (q := 223) C dL_reads_220 (by decide) rfl ?_ ?_
        · intro c_220
          refine k_aload_n (q := 228) C 3 dL_reads_227 rfl rfl ?_
          refine k_iconst (q := 229) (v := 3) C dL_reads_228 (by decide) rfl ?_
          refine k_iald (q := 230) C 5 rfl (vp_in_nI (n := 3) (by decide) (by decide)) dL_reads_229 rfl ?_
          refine k_sti (show (upd (upd (upd (upd rM 0 (mRn hM nM (sMeet gM (sM 0) (sM 1)) (mC (sClose (mLit oM) hM tM sM gM) (mD hM sM gM) nM) 0)) 1 (mRn hM nM (sMeet gM (sM 0) (sM 1)) (mC (sClose (mLit oM) hM tM sM gM) (mD hM sM gM) nM) 1)) 2 (mRn hM nM (sMeet gM (sM 0) (sM 1)) (mC (sClose (mLit oM) hM tM sM gM) (mD hM sM gM) nM) 2)) 3 (lR3 hM nM (sMeet gM (sM 0) (sM 1)) (mC (sClose (mLit oM) hM tM sM gM) (mD hM sM gM) nM) k)) (3 : Int32).toNatClampNeg = (upd (upd (upd (upd rM 0 (mRn hM nM (sMeet gM (sM 0) (sM 1)) (mC (sClose (mLit oM) hM tM sM gM) (mD hM sM gM) nM) 0)) 1 (mRn hM nM (sMeet gM (sM 0) (sM 1)) (mC (sClose (mLit oM) hM tM sM gM) (mD hM sM gM) nM) 1)) 2 (mRn hM nM (sMeet gM (sM 0) (sM 1)) (mC (sClose (mLit oM) hM tM sM gM) (mD hM sM gM) nM) 2)) 3 (lR3 hM nM (sMeet gM (sM 0) (sM 1)) (mC (sClose (mLit oM) hM tM sM gM) (mD hM sM gM) nM) k)) 3 from congrArg (upd (upd (upd (upd rM 0 (mRn hM nM (sMeet gM (sM 0) (sM 1)) (mC (sClose (mLit oM) hM tM sM gM) (mD hM sM gM) nM) 0)) 1 (mRn hM nM (sMeet gM (sM 0) (sM 1)) (mC (sClose (mLit oM) hM tM sM gM) (mD hM sM gM) nM) 1)) 2 (mRn hM nM (sMeet gM (sM 0) (sM 1)) (mC (sClose (mLit oM) hM tM sM gM) (mD hM sM gM) nM) 2)) 3 (lR3 hM nM (sMeet gM (sM 0) (sM 1)) (mC (sClose (mLit oM) hM tM sM gM) (mD hM sM gM) nM) k)) (nI_clamp (n := 3) (by decide))) ?_
          refine k_sti (show (upd (upd (upd (upd rM 0 (mRn hM nM (sMeet gM (sM 0) (sM 1)) (mC (sClose (mLit oM) hM tM sM gM) (mD hM sM gM) nM) 0)) 1 (mRn hM nM (sMeet gM (sM 0) (sM 1)) (mC (sClose (mLit oM) hM tM sM gM) (mD hM sM gM) nM) 1)) 2 (mRn hM nM (sMeet gM (sM 0) (sM 1)) (mC (sClose (mLit oM) hM tM sM gM) (mD hM sM gM) nM) 2)) 3 (lR3 hM nM (sMeet gM (sM 0) (sM 1)) (mC (sClose (mLit oM) hM tM sM gM) (mD hM sM gM) nM) k)) 3 = lR3 hM nM (sMeet gM (sM 0) (sM 1)) (mC (sClose (mLit oM) hM tM sM gM) (mD hM sM gM) nM) k from rfl) ?_
          exact k_sti (show lR3 hM nM (sMeet gM (sM 0) (sM 1)) (mC (sClose (mLit oM) hM tM sM gM) (mD hM sM gM) nM) k = lR3 hM nM (sMeet gM (sM 0) (sM 1)) (mC (sClose (mLit oM) hM tM sM gM) (mD hM sM gM) nM) (k + 1) from lR3_n ep hp2 c_199 c_220) J_204
        · intro c_220
          have c_220 := Int32.not_le.mp c_220
          refine k_iconst (q := 224) (v := 1) C dL_reads_223 (by decide) rfl ?_
          refine k_goto (q := 230) C dL_reads_224 (by decide) ?_
          exact k_sti (show 1 = lR3 hM nM (sMeet gM (sM 0) (sM 1)) (mC (sClose (mLit oM) hM tM sM gM) (mD hM sM gM) nM) (k + 1) from lR3_y ep hp2 c_199 c_220) J_204
set_option maxHeartbeats 4000000 in
set_option maxRecDepth 100000 in
theorem lp_L_reads_11 (cy : Nat → ClassId) (e : Nat → Nat) (nM : Nat) (oM : Nat → Int32) (sM : Nat → Int32) (gM : Nat → Int32) (knM : Nat) (loM : Int32) (lfM : Int32) (hM : Nat → Int32) (tM : Nat → Int32) (lM : Nat → Int32) (bM : Nat → Int32) (rM : Nat → Int32)  (hn : nM ≤ 6) (hb : lB nM hM tM (gM 1) bM) (ho : mBin oM) (hs0 : sOk (sM 0)) (hs1 : sOk (sM 1)) (hg0 : 50 ≤ (gM 0).toInt ∧ (gM 0).toInt ≤ 1000) (X : kX) (hR : xR X = rm_L_reads) (C : kC X 8 RL cL_reads wsL_reads cy) (E : kEnd X 8 cL_reads (bI (lIs (sMeet gM (sM 0) (sM 1)) (mC (sClose (mLit oM) hM tM sM gM) (mD hM sM gM) nM))) (wLa e cy (qSt nM oM sM gM knM loM lfM) hM tM lM bM (upd (upd (upd (upd rM 0 (mRn hM nM (sMeet gM (sM 0) (sM 1)) (mC (sClose (mLit oM) hM tM sM gM) (mD hM sM gM) nM) 0)) 1 (mRn hM nM (sMeet gM (sM 0) (sM 1)) (mC (sClose (mLit oM) hM tM sM gM) (mD hM sM gM) nM) 1)) 2 (mRn hM nM (sMeet gM (sM 0) (sM 1)) (mC (sClose (mLit oM) hM tM sM gM) (mD hM sM gM) nM) 2)) 3 (mRn hM nM (sMeet gM (sM 0) (sM 1)) (mC (sClose (mLit oM) hM tM sM gM) (mD hM sM gM) nM) 3)))) : ∀ (fu : Nat) (i : Nat) (x : Int32), i < fu → (i ≤ nM) → (rdP (sClose (mLit oM) hM tM sM gM) (mD hM sM gM) nM i x) → kG X 8 0 0 (wLa e cy (qSt nM oM sM gM knM loM lfM) hM tM lM bM rM) 11 [(0, .ref (e 0)), (1, .ref (e 1)), (2, .ref (e 4)), (3, .ref (e 5)), (4, .int x), (5, .int (iI ((i : Int) - 1)))] [] := by
  intro fu
  induction fu with
  | zero => intro i x hfu; exact absurd hfu (Nat.not_lt_zero _)
  | succ fu ih =>
    intro i x hfu hi hx
    refine k_iload (q := 13) C 5 dL_reads_11 rfl rfl ?_
    refine k_if_lt (tgt := 70) (q := 16) C dL_reads_13 (by decide) rfl ?_ ?_
    · intro c_13
      have hi0 : i = 0 := by
        rcases Nat.eq_zero_or_pos i with q | q
        · exact q
        · exfalso; rw [show (i : Int) - 1 = ((i - 1 : Nat) : Int) by omega, iI_nI] at c_13; exact nI_pos (by omega) c_13
      rw [hi0] at hx
      have hmc := rdP_mC hn hx
      have J_70 : kG X 8 0 0 (wLa e cy (qSt nM oM sM gM knM loM lfM) hM tM lM bM rM) 89 [(0, .ref (e 0)), (1, .ref (e 1)), (2, .ref (e 4)), (3, .ref (e 5)), (4, .int x), (5, .int (iI ((i : Int) - 1)))] [.int (bI (lIs (sMeet gM (sM 0) (sM 1)) (mC (sClose (mLit oM) hM tM sM gM) (mD hM sM gM) nM)))] := by
        refine k_istore (q := 91) (fr2 := [(5, .int (bI (lIs (sMeet gM (sM 0) (sM 1)) (mC (sClose (mLit oM) hM tM sM gM) (mD hM sM gM) nM)))), (0, .ref (e 0)), (1, .ref (e 1)), (2, .ref (e 4)), (3, .ref (e 5)), (4, .int x)]) C dL_reads_89 (by decide) rfl rfl ?_
        have J_91 : kG X 8 0 0 (wLa e cy (qSt nM oM sM gM knM loM lfM) hM tM lM bM rM) 119 [(5, .int (bI (lIs (sMeet gM (sM 0) (sM 1)) (mC (sClose (mLit oM) hM tM sM gM) (mD hM sM gM) nM)))), (0, .ref (e 0)), (1, .ref (e 1)), (2, .ref (e 4)), (3, .ref (e 5)), (4, .int x)] [.int (sMeet gM (sM 0) (sM 1))] := by
          refine k_istore (q := 121) (fr2 := [(6, .int (sMeet gM (sM 0) (sM 1))), (5, .int (bI (lIs (sMeet gM (sM 0) (sM 1)) (mC (sClose (mLit oM) hM tM sM gM) (mD hM sM gM) nM)))), (0, .ref (e 0)), (1, .ref (e 1)), (2, .ref (e 4)), (3, .ref (e 5)), (4, .int x)]) C dL_reads_119 (by decide) rfl rfl ?_
          refine k_aload_n (q := 122) C 5 dL_reads_121 rfl rfl ?_
          refine k_iconst (q := 123) (v := 0) C dL_reads_122 (by decide) rfl ?_
          have J_123 : kG X 8 0 0 (wLa e cy (qSt nM oM sM gM knM loM lfM) hM tM lM bM rM) 135 [(6, .int (sMeet gM (sM 0) (sM 1))), (5, .int (bI (lIs (sMeet gM (sM 0) (sM 1)) (mC (sClose (mLit oM) hM tM sM gM) (mD hM sM gM) nM)))), (0, .ref (e 0)), (1, .ref (e 1)), (2, .ref (e 4)), (3, .ref (e 5)), (4, .int x)] [.int (mRn hM nM (sMeet gM (sM 0) (sM 1)) (mC (sClose (mLit oM) hM tM sM gM) (mD hM sM gM) nM) 0), .int 0, .ref (e 5)] := by
            refine k_iast (q := 136) (w2 := (wLa e cy (qSt nM oM sM gM knM loM lfM) hM tM lM bM (upd rM 0 (mRn hM nM (sMeet gM (sM 0) (sM 1)) (mC (sClose (mLit oM) hM tM sM gM) (mD hM sM gM) nM) 0)))) C 5 rfl (vp_in_nI (n := 0) (by decide) (by decide)) rfl dL_reads_135 rfl ?_
            refine k_aload_n (q := 137) C 5 dL_reads_136 rfl rfl ?_
            refine k_iconst (q := 138) (v := 1) C dL_reads_137 (by decide) rfl ?_
            have J_138 : kG X 8 0 0 (wLa e cy (qSt nM oM sM gM knM loM lfM) hM tM lM bM (upd rM 0 (mRn hM nM (sMeet gM (sM 0) (sM 1)) (mC (sClose (mLit oM) hM tM sM gM) (mD hM sM gM) nM) 0))) 150 [(6, .int (sMeet gM (sM 0) (sM 1))), (5, .int (bI (lIs (sMeet gM (sM 0) (sM 1)) (mC (sClose (mLit oM) hM tM sM gM) (mD hM sM gM) nM)))), (0, .ref (e 0)), (1, .ref (e 1)), (2, .ref (e 4)), (3, .ref (e 5)), (4, .int x)] [.int (mRn hM nM (sMeet gM (sM 0) (sM 1)) (mC (sClose (mLit oM) hM tM sM gM) (mD hM sM gM) nM) 1), .int 1, .ref (e 5)] := by
              refine k_iast (q := 151) (w2 := (wLa e cy (qSt nM oM sM gM knM loM lfM) hM tM lM bM (upd (upd rM 0 (mRn hM nM (sMeet gM (sM 0) (sM 1)) (mC (sClose (mLit oM) hM tM sM gM) (mD hM sM gM) nM) 0)) 1 (mRn hM nM (sMeet gM (sM 0) (sM 1)) (mC (sClose (mLit oM) hM tM sM gM) (mD hM sM gM) nM) 1)))) C 5 rfl (vp_in_nI (n := 1) (by decide) (by decide)) rfl dL_reads_150 rfl ?_
              refine k_aload_n (q := 152) C 5 dL_reads_151 rfl rfl ?_
              refine k_iconst (q := 153) (v := 2) C dL_reads_152 (by decide) rfl ?_
              have J_153 : kG X 8 0 0 (wLa e cy (qSt nM oM sM gM knM loM lfM) hM tM lM bM (upd (upd rM 0 (mRn hM nM (sMeet gM (sM 0) (sM 1)) (mC (sClose (mLit oM) hM tM sM gM) (mD hM sM gM) nM) 0)) 1 (mRn hM nM (sMeet gM (sM 0) (sM 1)) (mC (sClose (mLit oM) hM tM sM gM) (mD hM sM gM) nM) 1))) 170 [(6, .int (sMeet gM (sM 0) (sM 1))), (5, .int (bI (lIs (sMeet gM (sM 0) (sM 1)) (mC (sClose (mLit oM) hM tM sM gM) (mD hM sM gM) nM)))), (0, .ref (e 0)), (1, .ref (e 1)), (2, .ref (e 4)), (3, .ref (e 5)), (4, .int x)] [.int (mRn hM nM (sMeet gM (sM 0) (sM 1)) (mC (sClose (mLit oM) hM tM sM gM) (mD hM sM gM) nM) 2), .int 2, .ref (e 5)] := by
                refine k_iast (q := 171) (w2 := (wLa e cy (qSt nM oM sM gM knM loM lfM) hM tM lM bM (upd (upd (upd rM 0 (mRn hM nM (sMeet gM (sM 0) (sM 1)) (mC (sClose (mLit oM) hM tM sM gM) (mD hM sM gM) nM) 0)) 1 (mRn hM nM (sMeet gM (sM 0) (sM 1)) (mC (sClose (mLit oM) hM tM sM gM) (mD hM sM gM) nM) 1)) 2 (mRn hM nM (sMeet gM (sM 0) (sM 1)) (mC (sClose (mLit oM) hM tM sM gM) (mD hM sM gM) nM) 2)))) C 5 rfl (vp_in_nI (n := 2) (by decide) (by decide)) rfl dL_reads_170 rfl ?_
                refine k_aload_n (q := 172) C 5 dL_reads_171 rfl rfl ?_
                refine k_iconst (q := 173) (v := 3) C dL_reads_172 (by decide) rfl ?_
                have J_173 : kG X 8 0 0 (wLa e cy (qSt nM oM sM gM knM loM lfM) hM tM lM bM (upd (upd (upd rM 0 (mRn hM nM (sMeet gM (sM 0) (sM 1)) (mC (sClose (mLit oM) hM tM sM gM) (mD hM sM gM) nM) 0)) 1 (mRn hM nM (sMeet gM (sM 0) (sM 1)) (mC (sClose (mLit oM) hM tM sM gM) (mD hM sM gM) nM) 1)) 2 (mRn hM nM (sMeet gM (sM 0) (sM 1)) (mC (sClose (mLit oM) hM tM sM gM) (mD hM sM gM) nM) 2))) 184 [(6, .int (sMeet gM (sM 0) (sM 1))), (5, .int (bI (lIs (sMeet gM (sM 0) (sM 1)) (mC (sClose (mLit oM) hM tM sM gM) (mD hM sM gM) nM)))), (0, .ref (e 0)), (1, .ref (e 1)), (2, .ref (e 4)), (3, .ref (e 5)), (4, .int x)] [.int (lR3 hM nM (sMeet gM (sM 0) (sM 1)) (mC (sClose (mLit oM) hM tM sM gM) (mD hM sM gM) nM) 0), .int 3, .ref (e 5)] := by
                  refine k_iast (q := 185) (w2 := (wLa e cy (qSt nM oM sM gM knM loM lfM) hM tM lM bM (upd (upd (upd (upd rM 0 (mRn hM nM (sMeet gM (sM 0) (sM 1)) (mC (sClose (mLit oM) hM tM sM gM) (mD hM sM gM) nM) 0)) 1 (mRn hM nM (sMeet gM (sM 0) (sM 1)) (mC (sClose (mLit oM) hM tM sM gM) (mD hM sM gM) nM) 1)) 2 (mRn hM nM (sMeet gM (sM 0) (sM 1)) (mC (sClose (mLit oM) hM tM sM gM) (mD hM sM gM) nM) 2)) 3 (lR3 hM nM (sMeet gM (sM 0) (sM 1)) (mC (sClose (mLit oM) hM tM sM gM) (mD hM sM gM) nM) 0)))) C 5 rfl (vp_in_nI (n := 3) (by decide) (by decide)) rfl dL_reads_184 rfl ?_
                  refine k_iconst (q := 186) (v := 0) C dL_reads_185 (by decide) rfl ?_
                  refine k_istore (q := 188) (fr2 := [(7, .int 0), (6, .int (sMeet gM (sM 0) (sM 1))), (5, .int (bI (lIs (sMeet gM (sM 0) (sM 1)) (mC (sClose (mLit oM) hM tM sM gM) (mD hM sM gM) nM)))), (0, .ref (e 0)), (1, .ref (e 1)), (2, .ref (e 4)), (3, .ref (e 5)), (4, .int x)]) C dL_reads_186 (by decide) rfl rfl ?_
                  refine k_fr (fr2 := [(0, .ref (e 0)), (1, .ref (e 1)), (2, .ref (e 4)), (3, .ref (e 5)), (5, .int (bI (lIs (sMeet gM (sM 0) (sM 1)) (mC (sClose (mLit oM) hM tM sM gM) (mD hM sM gM) nM)))), (6, .int (sMeet gM (sM 0) (sM 1))), (7, .int 0)]) ⟨[3, 4, 5, 6, 2, 1, 0], rfl⟩ ?_
                  exact lp_L_reads_188 cy e nM oM sM gM knM loM lfM hM tM lM bM rM hn hb ho hs0 hs1 hg0 X hR C E _ 0 (Nat.lt_succ_self _) (by omega)
                refine k_iload (q := 175) C 1 dL_reads_173 rfl rfl ?_
                refine k_ifB_eq (tgt := 182) (q := 178) C dL_reads_175 (by decide) rfl ?_ ?_
                · intro c_175
                  refine k_ldc (q := 184) (v := -99999) C (List.mem_of_getElem? (i := 1) rfl) dL_reads_182 rfl ?_
                  exact k_sti (show -99999 = lR3 hM nM (sMeet gM (sM 0) (sM 1)) (mC (sClose (mLit oM) hM tM sM gM) (mD hM sM gM) nM) 0 from (lR3_no c_175).symm) J_173
                · intro c_175
                  refine k_iconst (q := 179) (v := 0) C dL_reads_178 (by decide) rfl ?_
                  refine k_goto (q := 184) C dL_reads_179 (by decide) ?_
                  exact k_sti (show 0 = lR3 hM nM (sMeet gM (sM 0) (sM 1)) (mC (sClose (mLit oM) hM tM sM gM) (mD hM sM gM) nM) 0 from (lR3_0 c_175).symm) J_173
              refine k_iload (q := 155) C 1 dL_reads_153 rfl rfl ?_
              refine k_ifB_eq (tgt := 168) (q := 158) C dL_reads_155 (by decide) rfl ?_ ?_
              · intro c_155
                refine k_ldc (q := 170) (v := -99999) C (List.mem_of_getElem? (i := 1) rfl) dL_reads_168 rfl ?_
                exact k_sti (show -99999 = mRn hM nM (sMeet gM (sM 0) (sM 1)) (mC (sClose (mLit oM) hM tM sM gM) (mD hM sM gM) nM) 2 from (mRn_no c_155).symm) J_153
              · intro c_155
                obtain ⟨p, hp, ep, ep2⟩ := hmc.resolve_left (fun q => c_155 (Or.inr q.2))
                have hp2 : p < 6 := by omega
                obtain rfl : x = nI p := ep
                refine k_iload (q := 160) C 0 dL_reads_158 rfl rfl ?_
                refine k_aload_n (q := 161) C 3 dL_reads_160 rfl rfl ?_
                refine k_iload (q := 163) C 6 dL_reads_161 rfl rfl ?_
                refine k_iald (q := 164) C 1 rfl (vp_in_nI (n := p) (by omega) (by decide)) dL_reads_163 rfl ?_
                refine k_sti (show hM (nI p).toNatClampNeg = hM p from congrArg hM (nI_clamp (n := p) (by omega))) ?_
                refine k_isub (q := 165) C dL_reads_164 rfl ?_
                refine k_goto (q := 170) C dL_reads_165 (by decide) ?_
                exact k_sti (show (sMeet gM (sM 0) (sM 1)) - (hM p) = mRn hM nM (sMeet gM (sM 0) (sM 1)) (mC (sClose (mLit oM) hM tM sM gM) (mD hM sM gM) nM) 2 from (mRn_w2 ep2 hp2 c_155).symm) J_153
            refine k_iload (q := 140) C 1 dL_reads_138 rfl rfl ?_
            refine k_ifB_eq (tgt := 148) (q := 143) C dL_reads_140 (by decide) rfl ?_ ?_
            · intro c_140
              refine k_ldc (q := 150) (v := -99999) C (List.mem_of_getElem? (i := 1) rfl) dL_reads_148 rfl ?_
              exact k_sti (show -99999 = mRn hM nM (sMeet gM (sM 0) (sM 1)) (mC (sClose (mLit oM) hM tM sM gM) (mD hM sM gM) nM) 1 from (mRn_no c_140).symm) J_138
            · intro c_140
              refine k_iload (q := 145) C 6 dL_reads_143 rfl rfl ?_
              refine k_goto (q := 150) C dL_reads_145 (by decide) ?_
              exact k_sti (show x = mRn hM nM (sMeet gM (sM 0) (sM 1)) (mC (sClose (mLit oM) hM tM sM gM) (mD hM sM gM) nM) 1 from (mRn_w1 hmc c_140).symm) J_138
          refine k_iload (q := 125) C 1 dL_reads_123 rfl rfl ?_
          refine k_ifB_eq (tgt := 133) (q := 128) C dL_reads_125 (by decide) rfl ?_ ?_
          · intro c_125
            refine k_ldc (q := 135) (v := -99999) C (List.mem_of_getElem? (i := 1) rfl) dL_reads_133 rfl ?_
            exact k_sti (show -99999 = mRn hM nM (sMeet gM (sM 0) (sM 1)) (mC (sClose (mLit oM) hM tM sM gM) (mD hM sM gM) nM) 0 from (mRn_no c_125).symm) J_123
          · intro c_125
            refine k_iload (q := 130) C 0 dL_reads_128 rfl rfl ?_
            refine k_goto (q := 135) C dL_reads_130 (by decide) ?_
            exact k_sti (show sMeet gM (sM 0) (sM 1) = mRn hM nM (sMeet gM (sM 0) (sM 1)) (mC (sClose (mLit oM) hM tM sM gM) (mD hM sM gM) nM) 0 from (mRn_w0 c_125).symm) J_123
        refine k_aload_n (q := 92) C 1 dL_reads_91 rfl rfl ?_
        refine k_iconst (q := 93) (v := 4) C dL_reads_92 (by decide) rfl ?_
        refine k_iald (q := 94) C 0 rfl (vp_in_nI (n := 4) (by decide) (by decide)) dL_reads_93 rfl ?_
        refine k_sti (show (qSt nM oM sM gM knM loM lfM) (4 : Int32).toNatClampNeg = (qSt nM oM sM gM knM loM lfM) 4 from congrArg (qSt nM oM sM gM knM loM lfM) (nI_clamp (n := 4) (by decide))) ?_
        refine k_sti (show (qSt nM oM sM gM knM loM lfM) 4 = sM 0 from mSt_s (k := 0) (by decide)) ?_
        refine k_aload_n (q := 95) C 1 dL_reads_94 rfl rfl ?_
        refine k_iconst (q := 96) (v := 5) C dL_reads_95 (by decide) rfl ?_
        refine k_iald (q := 97) C 0 rfl (vp_in_nI (n := 5) (by decide) (by decide)) dL_reads_96 rfl ?_
        refine k_sti (show (qSt nM oM sM gM knM loM lfM) (5 : Int32).toNatClampNeg = (qSt nM oM sM gM knM loM lfM) 5 from congrArg (qSt nM oM sM gM knM loM lfM) (nI_clamp (n := 5) (by decide))) ?_
        refine k_sti (show (qSt nM oM sM gM knM loM lfM) 5 = sM 1 from mSt_s (k := 1) (by decide)) ?_
        refine k_icmp_le (tgt := 117) (q := 100) C dL_reads_97 (by decide) rfl ?_ ?_
        · intro c_97
          refine k_ldc (q := 119) (v := -99999) C (List.mem_of_getElem? (i := 1) rfl) dL_reads_117 rfl ?_
          exact k_sti (show -99999 = sMeet gM (sM 0) (sM 1) from (if_neg (Int32.not_lt.mpr c_97)).symm) J_91
        · intro c_97
          have c_97 := Int32.not_le.mp c_97
          refine k_bipush (q := 102) (v := 10) C dL_reads_100 (by decide +kernel) rfl ?_
          refine k_aload_n (q := 103) C 1 dL_reads_102 rfl rfl ?_
          refine k_iconst (q := 104) (v := 0) C dL_reads_103 (by decide) rfl ?_
          refine k_iald (q := 105) C 0 rfl (vp_in_nI (n := 0) (by decide) (by decide)) dL_reads_104 rfl ?_
          refine k_sti (show (qSt nM oM sM gM knM loM lfM) (0 : Int32).toNatClampNeg = (qSt nM oM sM gM knM loM lfM) 0 from congrArg (qSt nM oM sM gM knM loM lfM) (nI_clamp (n := 0) (by decide))) ?_
          refine k_sti (show (qSt nM oM sM gM knM loM lfM) 0 = gM 0 from mSt_g (k := 0) (by decide)) ?_
          refine k_imul (q := 106) C dL_reads_105 rfl ?_
          refine k_aload_n (q := 107) C 1 dL_reads_106 rfl rfl ?_
          refine k_iconst (q := 108) (v := 4) C dL_reads_107 (by decide) rfl ?_
          refine k_iald (q := 109) C 0 rfl (vp_in_nI (n := 4) (by decide) (by decide)) dL_reads_108 rfl ?_
          refine k_sti (show (qSt nM oM sM gM knM loM lfM) (4 : Int32).toNatClampNeg = (qSt nM oM sM gM knM loM lfM) 4 from congrArg (qSt nM oM sM gM knM loM lfM) (nI_clamp (n := 4) (by decide))) ?_
          refine k_sti (show (qSt nM oM sM gM knM loM lfM) 4 = sM 0 from mSt_s (k := 0) (by decide)) ?_
          refine k_aload_n (q := 110) C 1 dL_reads_109 rfl rfl ?_
          refine k_iconst (q := 111) (v := 5) C dL_reads_110 (by decide) rfl ?_
          refine k_iald (q := 112) C 0 rfl (vp_in_nI (n := 5) (by decide) (by decide)) dL_reads_111 rfl ?_
          refine k_sti (show (qSt nM oM sM gM knM loM lfM) (5 : Int32).toNatClampNeg = (qSt nM oM sM gM knM loM lfM) 5 from congrArg (qSt nM oM sM gM knM loM lfM) (nI_clamp (n := 5) (by decide))) ?_
          refine k_sti (show (qSt nM oM sM gM knM loM lfM) 5 = sM 1 from mSt_s (k := 1) (by decide)) ?_
          refine k_isub (q := 113) C dL_reads_112 rfl ?_
          refine k_idiv (q := 114) C dL_reads_113 (k_ne_sub c_97) rfl ?_
          refine k_goto (q := 119) C dL_reads_114 (by decide) ?_
          exact k_sti (show (10 * (gM 0)) / ((sM 0) - (sM 1)) = sMeet gM (sM 0) (sM 1) from (if_pos c_97).symm) J_91
      refine k_iload (q := 72) C 4 dL_reads_70 rfl rfl ?_
      refine k_if_lt (tgt := 88) (q := 75) C dL_reads_72 (by decide) rfl ?_ ?_
      · intro c_72
        refine k_iconst (q := 89) (v := 0) C dL_reads_88 (by decide) rfl ?_
        exact k_sti (show 0 = bI (lIs (sMeet gM (sM 0) (sM 1)) (mC (sClose (mLit oM) hM tM sM gM) (mD hM sM gM) nM)) from lIs_f1 hmc hn c_72) J_70
      · intro c_72
        have c_72 := Int32.not_lt.mp c_72
        refine k_aload_n (q := 76) C 0 dL_reads_75 rfl rfl ?_
        refine k_iconst (q := 77) (v := 4) C dL_reads_76 (by decide) rfl ?_
        refine k_iald (q := 78) C 0 rfl (vp_in_nI (n := 4) (by decide) (by decide)) dL_reads_77 rfl ?_
        refine k_sti (show (qSt nM oM sM gM knM loM lfM) (4 : Int32).toNatClampNeg = (qSt nM oM sM gM knM loM lfM) 4 from congrArg (qSt nM oM sM gM knM loM lfM) (nI_clamp (n := 4) (by decide))) ?_
        refine k_sti (show (qSt nM oM sM gM knM loM lfM) 4 = sM 0 from mSt_s (k := 0) (by decide)) ?_
        refine k_aload_n (q := 79) C 0 dL_reads_78 rfl rfl ?_
        refine k_iconst (q := 80) (v := 5) C dL_reads_79 (by decide) rfl ?_
        refine k_iald (q := 81) C 0 rfl (vp_in_nI (n := 5) (by decide) (by decide)) dL_reads_80 rfl ?_
        refine k_sti (show (qSt nM oM sM gM knM loM lfM) (5 : Int32).toNatClampNeg = (qSt nM oM sM gM knM loM lfM) 5 from congrArg (qSt nM oM sM gM knM loM lfM) (nI_clamp (n := 5) (by decide))) ?_
        refine k_sti (show (qSt nM oM sM gM knM loM lfM) 5 = sM 1 from mSt_s (k := 1) (by decide)) ?_
        refine k_icmp_le (tgt := 88) (q := 84) C dL_reads_81 (by decide) rfl ?_ ?_
        · intro c_81
          refine k_iconst (q := 89) (v := 0) C dL_reads_88 (by decide) rfl ?_
          exact k_sti (show 0 = bI (lIs (sMeet gM (sM 0) (sM 1)) (mC (sClose (mLit oM) hM tM sM gM) (mD hM sM gM) nM)) from lIs_f2 c_81) J_70
        · intro c_81
          have c_81 := Int32.not_le.mp c_81
          refine k_iconst (q := 85) (v := 1) C dL_reads_84 (by decide) rfl ?_
          refine k_goto (q := 89) C dL_reads_85 (by decide) ?_
          exact k_sti (show 1 = bI (lIs (sMeet gM (sM 0) (sM 1)) (mC (sClose (mLit oM) hM tM sM gM) (mD hM sM gM) nM)) from lIs_t hmc hn hs0 hs1 hg0 c_72 c_81) J_70
    · intro c_13
      have c_13 := Int32.not_lt.mp c_13
      have hi0 : 0 < i := by
        rcases Nat.eq_zero_or_pos i with q | q
        · exfalso; rw [q] at c_13; exact absurd c_13 (by decide)
        · exact q
      have e_16_5 : iI ((i : Int) - 1) = nI (i - 1) := by rw [← iI_nI]; congr 1; omega
      rw [e_16_5]
      refine k_iload (q := 18) C 5 dL_reads_16 rfl rfl ?_
      refine k_aload_n (q := 19) C 0 dL_reads_18 rfl rfl ?_
      refine k_aload_n (q := 20) C 1 dL_reads_19 rfl rfl ?_
      refine k_aload_n (q := 21) C 2 dL_reads_20 rfl rfl ?_
      refine k_callSI (n := 4) (q := 24) (pre := ([] : va_W)) (post := ([] : va_W)) (w2 := (wLa e cy (qSt nM oM sM gM knM loM lfM) hM tM lM bM rM)) (As := [.int (nI (i - 1)), .ref (e 0), .ref (e 1), .ref (e 4)]) (rest := []) C (c_L_close cy e nM oM sM gM knM loM lfM hM tM lM bM rM (i - 1) hn (by omega) hb ho) gL_reads_L_close rfl rfl rfl (by decide +kernel) (k_room hR (by decide)) ⟨Nat.zero_le _, Nat.zero_le _⟩  rfl rfl (Nat.le_of_ble_eq_true rfl) ((List.append_nil _).symm) (List.append_nil _) dL_reads_21 rfl ?_
      refine k_ifB_eq (tgt := 60) (q := 27) C dL_reads_24 (by decide) rfl ?_ ?_
      · intro c_24
        refine k_iload (q := 62) C 4 dL_reads_60 rfl rfl ?_
        refine k_istore (q := 64) (fr2 := [(4, .int x), (0, .ref (e 0)), (1, .ref (e 1)), (2, .ref (e 4)), (3, .ref (e 5)), (5, .int (nI (i - 1)))]) C dL_reads_62 (by decide) rfl rfl ?_
        refine k_iinc (q := 67) (v := iI (((i - 1 : Nat) : Int) - 1)) (fr2 := [(5, .int (iI (((i - 1 : Nat) : Int) - 1))), (4, .int x), (0, .ref (e 0)), (1, .ref (e 1)), (2, .ref (e 4)), (3, .ref (e 5))]) C 5 dL_reads_64 rfl ((by rw [← iI_nI, show (Int32.ofInt (-1)) = iI (-1) from rfl, iI_add]; rfl)) (by decide) rfl rfl ?_
        refine k_goto (q := 11) C dL_reads_67 (by decide) ?_
        refine k_fr (fr2 := [(0, .ref (e 0)), (1, .ref (e 1)), (2, .ref (e 4)), (3, .ref (e 5)), (4, .int x), (5, .int (iI (((i - 1 : Nat) : Int) - 1)))]) ⟨[2, 3, 4, 5, 1, 0], rfl⟩ ?_
        exact ih (i - 1) x (by omega) (by omega) (rdP_n hi0 hx c_24)
      · intro c_24
        refine k_iload (q := 29) C 4 dL_reads_27 rfl rfl ?_
        refine k_if_lt (tgt := 55) (q := 32) C dL_reads_29 (by decide) rfl ?_ ?_
        · intro c_29
          refine k_iload (q := 57) C 5 dL_reads_55 rfl rfl ?_
          refine k_goto (q := 62) C dL_reads_57 (by decide) ?_
          refine k_istore (q := 64) (fr2 := [(4, .int (nI (i - 1))), (0, .ref (e 0)), (1, .ref (e 1)), (2, .ref (e 4)), (3, .ref (e 5)), (5, .int (nI (i - 1)))]) C dL_reads_62 (by decide) rfl rfl ?_
          refine k_iinc (q := 67) (v := iI (((i - 1 : Nat) : Int) - 1)) (fr2 := [(5, .int (iI (((i - 1 : Nat) : Int) - 1))), (4, .int (nI (i - 1))), (0, .ref (e 0)), (1, .ref (e 1)), (2, .ref (e 4)), (3, .ref (e 5))]) C 5 dL_reads_64 rfl ((by rw [← iI_nI, show (Int32.ofInt (-1)) = iI (-1) from rfl, iI_add]; rfl)) (by decide) rfl rfl ?_
          refine k_goto (q := 11) C dL_reads_67 (by decide) ?_
          refine k_fr (fr2 := [(0, .ref (e 0)), (1, .ref (e 1)), (2, .ref (e 4)), (3, .ref (e 5)), (4, .int (nI (i - 1))), (5, .int (iI (((i - 1 : Nat) : Int) - 1)))]) ⟨[2, 3, 4, 5, 1, 0], rfl⟩ ?_
          exact ih (i - 1) (nI (i - 1)) (by omega) (by omega) (rdP_y1 hi0 hi hn hx c_24 c_29)
        · intro c_29
          have c_29 := Int32.not_lt.mp c_29
          obtain ⟨p, ep, hp⟩ := rdP_ge hx c_29
          obtain rfl : x = nI p := ep
          refine k_iload (q := 34) C 5 dL_reads_32 rfl rfl ?_
          refine k_aload_n (q := 35) C 0 dL_reads_34 rfl rfl ?_
          refine k_aload_n (q := 36) C 1 dL_reads_35 rfl rfl ?_
          refine k_callSI (n := 3) (q := 39) (pre := ([] : va_W)) (post := ([] : va_W)) (w2 := (wLa e cy (qSt nM oM sM gM knM loM lfM) hM tM lM bM rM)) (As := [.int (nI (i - 1)), .ref (e 0), .ref (e 1)]) (rest := []) C (c_L_apart cy e nM oM sM gM knM loM lfM hM tM lM bM rM (i - 1) (by omega)) gL_reads_L_apart rfl rfl rfl (by decide +kernel) (k_room hR (by decide)) ⟨Nat.zero_le _, Nat.zero_le _⟩  rfl rfl (Nat.le_of_ble_eq_true rfl) ((List.append_nil _).symm) (List.append_nil _) dL_reads_36 rfl ?_
          refine k_callSI (n := 1) (q := 42) (pre := ([] : va_W)) (post := (wLa e cy (qSt nM oM sM gM knM loM lfM) hM tM lM bM rM)) (w2 := (wLa e cy (qSt nM oM sM gM knM loM lfM) hM tM lM bM rM)) (As := [.int (sDist hM gM (i - 1) (sM 0) (sM 1))]) (rest := []) C (c_L_size (sDist hM gM (i - 1) (sM 0) (sM 1))) gL_reads_L_size rfl rfl rfl (by decide +kernel) (k_room hR (by decide)) ⟨Nat.zero_le _, Nat.zero_le _⟩  rfl rfl (Nat.le_of_ble_eq_true rfl) (rfl) (rfl) dL_reads_39 rfl ?_
          refine k_iload (q := 44) C 4 dL_reads_42 rfl rfl ?_
          refine k_aload_n (q := 45) C 0 dL_reads_44 rfl rfl ?_
          refine k_aload_n (q := 46) C 1 dL_reads_45 rfl rfl ?_
          refine k_callSI (n := 3) (q := 49) (pre := ([] : va_W)) (post := ([] : va_W)) (w2 := (wLa e cy (qSt nM oM sM gM knM loM lfM) hM tM lM bM rM)) (As := [.int (nI p), .ref (e 0), .ref (e 1)]) (rest := [.int (mAbs (sDist hM gM (i - 1) (sM 0) (sM 1)))]) C (c_L_apart cy e nM oM sM gM knM loM lfM hM tM lM bM rM p (by omega)) gL_reads_L_apart rfl rfl rfl (by decide +kernel) (k_room hR (by decide)) ⟨Nat.zero_le _, Nat.zero_le _⟩  rfl rfl (Nat.le_of_ble_eq_true rfl) ((List.append_nil _).symm) (List.append_nil _) dL_reads_46 rfl ?_
          refine k_callSI (n := 1) (q := 52) (pre := ([] : va_W)) (post := (wLa e cy (qSt nM oM sM gM knM loM lfM) hM tM lM bM rM)) (w2 := (wLa e cy (qSt nM oM sM gM knM loM lfM) hM tM lM bM rM)) (As := [.int (sDist hM gM p (sM 0) (sM 1))]) (rest := [.int (mAbs (sDist hM gM (i - 1) (sM 0) (sM 1)))]) C (c_L_size (sDist hM gM p (sM 0) (sM 1))) gL_reads_L_size rfl rfl rfl (by decide +kernel) (k_room hR (by decide)) ⟨Nat.zero_le _, Nat.zero_le _⟩  rfl rfl (Nat.le_of_ble_eq_true rfl) (rfl) (rfl) dL_reads_49 rfl ?_
          refine k_icmp_gt (tgt := 60) (q := 55) C dL_reads_52 (by decide) rfl ?_ ?_
          · intro c_52
            refine k_iload (q := 62) C 4 dL_reads_60 rfl rfl ?_
            refine k_istore (q := 64) (fr2 := [(4, .int (nI p)), (0, .ref (e 0)), (1, .ref (e 1)), (2, .ref (e 4)), (3, .ref (e 5)), (5, .int (nI (i - 1)))]) C dL_reads_62 (by decide) rfl rfl ?_
            refine k_iinc (q := 67) (v := iI (((i - 1 : Nat) : Int) - 1)) (fr2 := [(5, .int (iI (((i - 1 : Nat) : Int) - 1))), (4, .int (nI p)), (0, .ref (e 0)), (1, .ref (e 1)), (2, .ref (e 4)), (3, .ref (e 5))]) C 5 dL_reads_64 rfl ((by rw [← iI_nI, show (Int32.ofInt (-1)) = iI (-1) from rfl, iI_add]; rfl)) (by decide) rfl rfl ?_
            refine k_goto (q := 11) C dL_reads_67 (by decide) ?_
            refine k_fr (fr2 := [(0, .ref (e 0)), (1, .ref (e 1)), (2, .ref (e 4)), (3, .ref (e 5)), (4, .int (nI p)), (5, .int (iI (((i - 1 : Nat) : Int) - 1)))]) ⟨[2, 3, 4, 5, 1, 0], rfl⟩ ?_
            exact ih (i - 1) (nI p) (by omega) (by omega) (rdP_n2 hi0 hn hp hx c_52)
          · intro c_52
            have c_52 := Int32.not_lt.mp c_52
            refine k_iload (q := 57) C 5 dL_reads_55 rfl rfl ?_
            refine k_goto (q := 62) C dL_reads_57 (by decide) ?_
            refine k_istore (q := 64) (fr2 := [(4, .int (nI (i - 1))), (0, .ref (e 0)), (1, .ref (e 1)), (2, .ref (e 4)), (3, .ref (e 5)), (5, .int (nI (i - 1)))]) C dL_reads_62 (by decide) rfl rfl ?_
            refine k_iinc (q := 67) (v := iI (((i - 1 : Nat) : Int) - 1)) (fr2 := [(5, .int (iI (((i - 1 : Nat) : Int) - 1))), (4, .int (nI (i - 1))), (0, .ref (e 0)), (1, .ref (e 1)), (2, .ref (e 4)), (3, .ref (e 5))]) C 5 dL_reads_64 rfl ((by rw [← iI_nI, show (Int32.ofInt (-1)) = iI (-1) from rfl, iI_add]; rfl)) (by decide) rfl rfl ?_
            refine k_goto (q := 11) C dL_reads_67 (by decide) ?_
            refine k_fr (fr2 := [(0, .ref (e 0)), (1, .ref (e 1)), (2, .ref (e 4)), (3, .ref (e 5)), (4, .int (nI (i - 1))), (5, .int (iI (((i - 1 : Nat) : Int) - 1)))]) ⟨[2, 3, 4, 5, 1, 0], rfl⟩ ?_
            exact ih (i - 1) (nI (i - 1)) (by omega) (by omega) (rdP_y2 hi0 hi hn hp hx c_24 c_52)
set_option maxHeartbeats 4000000 in
set_option maxRecDepth 100000 in
theorem c_L_reads (cy : Nat → ClassId) (e : Nat → Nat) (nM : Nat) (oM : Nat → Int32) (sM : Nat → Int32) (gM : Nat → Int32) (knM : Nat) (loM : Int32) (lfM : Int32) (hM : Nat → Int32) (tM : Nat → Int32) (lM : Nat → Int32) (bM : Nat → Int32) (rM : Nat → Int32)  (hn : nM ≤ 6) (hb : lB nM hM tM (gM 1) bM) (ho : mBin oM) (hs0 : sOk (sM 0)) (hs1 : sOk (sM 1)) (hg0 : 50 ≤ (gM 0).toInt ∧ (gM 0).toInt ≤ 1000) : kI yL_reads wsL_reads rm_L_reads cy [.ref (e 0), .ref (e 1), .ref (e 4), .ref (e 5)] (wLa e cy (qSt nM oM sM gM knM loM lfM) hM tM lM bM rM) (bI (lIs (sMeet gM (sM 0) (sM 1)) (mC (sClose (mLit oM) hM tM sM gM) (mD hM sM gM) nM))) (wLa e cy (qSt nM oM sM gM knM loM lfM) hM tM lM bM (upd (upd (upd (upd rM 0 (mRn hM nM (sMeet gM (sM 0) (sM 1)) (mC (sClose (mLit oM) hM tM sM gM) (mD hM sM gM) nM) 0)) 1 (mRn hM nM (sMeet gM (sM 0) (sM 1)) (mC (sClose (mLit oM) hM tM sM gM) (mD hM sM gM) nM) 1)) 2 (mRn hM nM (sMeet gM (sM 0) (sM 1)) (mC (sClose (mLit oM) hM tM sM gM) (mD hM sM gM) nM) 2)) 3 (mRn hM nM (sMeet gM (sM 0) (sM 1)) (mC (sClose (mLit oM) hM tM sM gM) (mD hM sM gM) nM) 3))) := by
  refine kI_of (cc := cL_reads) (maxL := 8) (rt := .boolean) (by decide) rfl (kb_nar _) (Nat.le_of_ble_eq_true rfl) ?_
  intro X hR C E
  have C : kC X 8 RL cL_reads wsL_reads cy := C
  refine k_fr (fr2 := [(0, .ref (e 0)), (1, .ref (e 1)), (2, .ref (e 4)), (3, .ref (e 5))]) ⟨[0, 1, 2, 3], rfl⟩ ?_
  refine k_iconst (q := 1) (v := -1) C dL_reads_0 (by decide) rfl ?_
  refine k_istore (q := 3) (fr2 := [(4, .int (-1)), (0, .ref (e 0)), (1, .ref (e 1)), (2, .ref (e 4)), (3, .ref (e 5))]) C dL_reads_1 (by decide) rfl rfl ?_
  refine k_aload_n (q := 4) C 1 dL_reads_3 rfl rfl ?_
  refine k_bipush (q := 6) (v := 8) C dL_reads_4 (by decide +kernel) rfl ?_
  refine k_iald (q := 7) C 0 rfl (vp_in_nI (n := 8) (by decide) (by decide)) dL_reads_6 rfl ?_
  refine k_sti (show (qSt nM oM sM gM knM loM lfM) (8 : Int32).toNatClampNeg = (qSt nM oM sM gM knM loM lfM) 8 from congrArg (qSt nM oM sM gM knM loM lfM) (nI_clamp (n := 8) (by decide))) ?_
  refine k_sti (show (qSt nM oM sM gM knM loM lfM) 8 = nI nM from rfl) ?_
  refine k_iconst (q := 8) (v := 1) C dL_reads_7 (by decide) rfl ?_
  refine k_isub (q := 9) C dL_reads_8 rfl ?_
  refine k_sti (show (nI nM) - 1 = iI ((nM : Int) - 1) from (show nI nM - 1 = _ from by rw [← iI_nI, show (1 : Int32) = iI 1 from rfl, iI_sub])) ?_
  refine k_istore (q := 11) (fr2 := [(5, .int (iI ((nM : Int) - 1))), (4, .int (-1)), (0, .ref (e 0)), (1, .ref (e 1)), (2, .ref (e 4)), (3, .ref (e 5))]) C dL_reads_9 (by decide) rfl rfl ?_
  refine k_fr (fr2 := [(0, .ref (e 0)), (1, .ref (e 1)), (2, .ref (e 4)), (3, .ref (e 5)), (4, .int (-1)), (5, .int (iI ((nM : Int) - 1)))]) ⟨[2, 3, 4, 5, 1, 0], rfl⟩ ?_
  exact lp_L_reads_11 cy e nM oM sM gM knM loM lfM hM tM lM bM rM hn hb ho hs0 hs1 hg0 X hR C E _ nM (-1) (Nat.lt_succ_self _) (Nat.le_refl _) rdP_0
