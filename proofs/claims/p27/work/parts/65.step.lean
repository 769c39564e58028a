set_option maxHeartbeats 4000000 in
set_option maxRecDepth 100000 in
theorem c_L_isSo (cy : Nat → ClassId) (e : Nat → Nat) (nM : Nat) (oM : Nat → Int32) (sM : Nat → Int32) (gM : Nat → Int32) (knM : Nat) (loM : Int32) (lfM : Int32) (hM : Nat → Int32) (tM : Nat → Int32) (lM : Nat → Int32) (bM : Nat → Int32) (rM : Nat → Int32) (a : Nat → Nat) (b : Nat → Nat) (r : Nat) (nx : Nat) (sn : Nat) (ln : Nat) (sk : Nat → Nat → Nat) (S : Nat → CK) (ik : Nat → Int32) (bf : Nat → Nat) (kd : Nat) (hg : Nat) (nu : Nat) (dg : Nat) (ng : Bool) (tk : Bool) (n : Nat) (lit : Int32) (h : Nat → Int32) (t : Nat → Int32) (s : Nat → Int32) (g : Nat → Int32) (kn : Nat) (lo : Int32) (lf : Int32) (nm : Nat → Int32) (x : Int32) (hR0 : sRel ((n, lit, h, t, s, g, kn, lo, lf, nm) : CK) ((nM, oM, hM, tM, sM, gM, knM, loM, lfM, lM) : SK)) (hU : sUpw hM nM) : kD yL_isSo wsL_isSo rm_L_isSo cy [.ref (b 0), .int x, .ref (e 0), .ref (e 1), .ref (e 2), .ref (e 3), .ref (e 4), .ref (e 5)] ((wLa e cy (qSt nM oM sM gM knM loM lfM) hM tM lM bM rM) ++ ((wXo b cy (a 0) r nx sn ln (svOf sk) (kpOf sk) ik bf ++ wRd r kd hg nu dg ng tk) ++ (wSky a cy n lit h t s g kn lo lf nm ++ wOth sk cy S))) 1 (fun (u : FI32) => ((wLa e cy (qSt nM oM sM gM knM loM lfM) hM tM lM (lBm hM tM (gM 1) (lBm hM tM (nI (lHz oM hM tM gM nM)) (lBm hM tM (nI (min ((lHz oM hM tM gM nM) + 1) 1000)) (lBm hM tM 0 bM nM) nM) nM) nM) u) ++ ((wXo b cy (a 0) r nx sn ln (svOf sk) (kpOf sk) ik bf ++ wRd r kd hg nu dg ng tk) ++ (wSky a cy n lit h t s g kn lo lf nm ++ wOth sk cy S)))) := by
  refine kD_of (cc := cL_isSo) (maxL := 19) (by decide) rfl rfl (Nat.le_of_ble_eq_true rfl) ?_
  intro X hR C E
  obtain ⟨s0, d0, hs, hd0, E⟩ := E
  refine k_fr (fr2 := [(0, .ref (b 0)), (1, .int x), (2, .ref (e 0)), (3, .ref (e 1)), (4, .ref (e 2)), (5, .ref (e 3)), (6, .ref (e 4)), (7, .ref (e 5))]) ⟨[0, 1, 2, 3, 4, 5, 6, 7], rfl⟩ ?_
  refine isSo_A cy e nM oM sM gM knM loM lfM hM tM lM bM rM a b r nx sn ln sk S ik bf kd hg nu dg ng tk n lit h t s g kn lo lf nm x hR0 hU X hR C ?_
  refine isSo_M cy e nM oM sM gM knM loM lfM hM tM lM (lBm hM tM (gM 1) (lBm hM tM (nI (lHz oM hM tM gM nM)) (lBm hM tM (nI (min ((lHz oM hM tM gM nM) + 1) 1000)) (lBm hM tM 0 bM nM) nM) nM) nM) (upd (upd (upd (upd rM 0 (mRn hM nM (sMeet gM (sM 0) (sM 1)) (mC (sClose (mLit oM) hM tM sM gM) (mD hM sM gM) nM) 0)) 1 (mRn hM nM (sMeet gM (sM 0) (sM 1)) (mC (sClose (mLit oM) hM tM sM gM) (mD hM sM gM) nM) 1)) 2 (mRn hM nM (sMeet gM (sM 0) (sM 1)) (mC (sClose (mLit oM) hM tM sM gM) (mD hM sM gM) nM) 2)) 3 (mRn hM nM (sMeet gM (sM 0) (sM 1)) (mC (sClose (mLit oM) hM tM sM gM) (mD hM sM gM) nM) 3)) a b r nx sn ln sk S ik bf kd hg nu dg ng tk n lit h t s g kn lo lf nm x hR0 X hR C s0 d0 hs hd0 (fun d hd => ?_)
  exact isSo_T cy e nM oM sM gM knM loM lfM hM tM lM (lBm hM tM (gM 1) (lBm hM tM (nI (lHz oM hM tM gM nM)) (lBm hM tM (nI (min ((lHz oM hM tM gM nM) + 1) 1000)) (lBm hM tM 0 bM nM) nM) nM) nM) (upd (upd (upd (upd rM 0 (mRn hM nM (sMeet gM (sM 0) (sM 1)) (mC (sClose (mLit oM) hM tM sM gM) (mD hM sM gM) nM) 0)) 1 (mRn hM nM (sMeet gM (sM 0) (sM 1)) (mC (sClose (mLit oM) hM tM sM gM) (mD hM sM gM) nM) 1)) 2 (mRn hM nM (sMeet gM (sM 0) (sM 1)) (mC (sClose (mLit oM) hM tM sM gM) (mD hM sM gM) nM) 2)) 3 (mRn hM nM (sMeet gM (sM 0) (sM 1)) (mC (sClose (mLit oM) hM tM sM gM) (mD hM sM gM) nM) 3)) a b r nx sn ln sk S ik bf kd hg nu dg ng tk n lit h t s g kn lo lf nm x hR0 (lBm_ok _ _ _ _ _) (kXs X (s0.setDrawn d)) hR (kC_d (d := d) C hs) (fun u pc fr hdec => E d hd u pc fr hdec)
/-! cell: the script's int, or a number of its place -/
def lCell (xs : Nat → Int32) (L k : Nat) : Int32 := if k < L then xs k else 42139 * (nI k + 7) + 3035593
def kPreS (D : va_G) (cy : Nat → ClassId) (av : List Value) (sz sb L : Nat) (xs : Nat → Int32) : Array Value → State → Prop := va_Pc av (fun U => U.heap.size = sz ∧ va_P D vwCl [] U.heap ∧ va_K D vwCl (kT cy) U ∧ va_D (fun _ => True) [] ∧ va_X sb L xs U U.heap ∧ sb < sz)
def kIs (sb L : Nat) (xs : Nat → Int32) (y : MethodName) (wy : List Cond) (rm : Room) (cy : Nat → ClassId) (av : List Value) (v : Int32) : Prop :=
  ∀ (l : Launch) (D : va_G) (sz : Nat), Met l y wy rm (kPreS D cy av sz sb L xs) (va_Qi (fun r (_ : Unit) => r = v) (fun _ t => kB D cy sz [] [] t) (va_A [] sz)) 0 0 (va_A [] sz)
theorem kPreS_blind {D : va_G} {cy : Nat → ClassId} {av : List Value} {sz sb L : Nat} {xs : Nat → Int32} : FrameBlind (kPreS D cy av sz sb L xs) := by
  intro a U g mk q
  obtain ⟨q0, q1, qP, qK, qD, qX, qs⟩ := q
  exact ⟨q0, q1, qP, va_K.moved (u := U) (U := U.calling g mk a) (Vm.Alike.refl U.vm) qK, qD, va_X.moved (u := U) (U := U.calling g mk a) (Vm.Alike.refl U.vm) qX, qs⟩
theorem kPreS_intro {D : va_G} {cy : Nat → ClassId} {av : List Value} {A0 : Nat → Prop} {s : State} {H : Heap} {locs : List Loc} {sb L : Nat} {xs : Nat → Int32} (hK : va_K D vwCl (kT cy) s) (hS : va_S A0 s.heap H locs) (hX : va_X sb L xs s s.heap) (hbl : sb < s.heap.size) (hbA : ¬ A0 sb) : ∀ U : State, U.heap = H → s.WarmedH U.vm → kPreS D cy av H.size sb L xs av.toArray U :=
  fun U hU hW => ⟨rfl, by rw [hU], fun k q h => by simp at h, va_K.moved hW.alike hK, ⟨fun i j p q h => by simp at h, fun k q h => by simp at h⟩, by rw [hU]; exact va_X.moved hW.alike (hX.kept (hS.2.1 sb hbl hbA)), Nat.lt_of_lt_of_le hbl hS.1⟩
set_option maxHeartbeats 4000000 in
theorem kIs_of {y : MethodName} {wy wy' : List Cond} {rm : Room} {cy : Nat → ClassId} {av : List Value} {v : Int32} {cc : ByteArray} {maxL sb L : Nat} {xs : Nat → Int32} (hy : plainName y.cls = true) (hw : wy = Cond.code y cc maxL (some .int) :: wy') (hlen : (lg_sl av).length ≤ maxL)
    (body : ∀ X : kX, xR X = rm → kC X maxL y.cls cc wy cy → va_X sb L xs (xS X) (xS X).heap → sb < (xS X).heap.size → ¬ (xA X) sb → kEnd X maxL cc v [] → kG X maxL 0 0 [] 0 (lv_args 0 av) []) : kIs sb L xs y wy rm cy av v := by
  intro l D sz
  refine Met.ofW (cc := cc) (maxL := maxL) (ret := some .int) hy hw ?_
  intro p e s m args below meth c s₁ B hml hv
  obtain ⟨rfl, hsz, hP, hK, hD0, hX, hsb⟩ := hv
  have hx := B.exec
  have hb := B.bytes
  have hr := B.returns
  have hts := atoms_spec (ws := wy) B.pre
  have hown : s.vm.findClass y.cls = some m.cls := findClass_of_methodNamed B.named
  have hlocks := B.notSynchronized
  subst hsz
  have hD : va_D (va_A [] s.heap.size) ([] : va_W) := hD0.self (sz := s.heap.size)
  have hA : ∀ q : Nat, s.heap.size ≤ q → va_A [] s.heap.size q := fun q h => Or.inr h
  have hS : va_S (va_A [] s.heap.size) s.heap s.heap [] := va_S.rf
  have hl := lv_entry av (n := maxL) hlen
  rw [lg_entry_eq]
  generalize (lg_sl av ++ List.replicate (maxL - (lg_sl av).length) Slot.unset).toArray = ls at hl ⊢
  exact body (p, l, e, (headSpec wy rm).room, s, m, av.toArray, below, meth, c, MQ below (va_Qi (fun r (_ : Unit) => r = v) (fun _ t => kB D cy s.heap.size [] [] t) (va_A [] s.heap.size)) av.toArray s 0 0 (va_A [] s.heap.size), D, va_A [] s.heap.size) rfl ⟨hx, hb, hml, hown, hts, hK, hA⟩ hX hsb (fun q => (kA_iff.mp q).elim (fun ⟨z, hz, _⟩ => absurd hz List.not_mem_nil) (fun q => absurd q (Nat.not_le.mpr hsb)))
    (fun pc fr hd H locs ls hP hD hS _ => W.zret hx hb hr rfl (fun t ht hW => ⟨⟨v, (), rfl, rfl, by rw [ht]; exact hP, va_K.moved hW.alike hK, hD⟩, hS.F ht⟩) hS.2.2 hd hlocks) s.heap [] ls hP hD hS hl
theorem k_callSs {X : kX} {nL ce sl pc q : Nat} {own : String} {cc : ByteArray} {ts : List Cond} {cy : Nat → ClassId} {w : va_W} {fr : List (Nat × Value)} {st rest : List Value} (C : kC X nL own cc ts cy) {y : MethodName} {wy wy' : List Cond} {rm : Room} {index n maxL sb L : Nat} {xs : Nat → Int32} {bytes : ByteArray} {ret : Option FieldType} {As : List Value} {v : Int32} (hX : va_X sb L xs (xS X) (xS X).heap) (hbl : sb < (xS X).heap.size) (hbA : ¬ (xA X) sb) (hM : kIs sb L xs y wy rm cy As v)
    (hG : GoodIn ts (va_wsS own index y wy)) (hwy : wy = Cond.code y bytes maxL ret :: wy') (hrc : rm.cells = 0) (hrs : rm.slots = 0) (hdd : y.cls ≠ "java/lang/invoke/MethodHandle" ∧ y.cls ≠ "java/lang/invoke/VarHandle" ∧ (parseMethodDescriptor y.desc).map (fun d => d.parameters.length) = some n)
    (hR : rm.frames + 1 ≤ (xR X).frames ∧ 8 + (maxL + 11) + rm.locals ≤ (xR X).locals) (hcs : ce ≤ (xR X).cells ∧ sl ≤ (xR X).slots)
    (hn : As.length = n) (hst : st = As.reverse ++ rest) (hcat : (rest.map fun v => v.category).sum ≤ 8) (hd : decode cc pc = .ok (.invokestatic index, 3)) (hq : pc + 3 = q)
    (g : kG X nL ce sl w q fr (.int v :: rest)) : kG X nL ce sl w pc fr st := by
  intro H locs ls hP hD hS hl
  subst hq; subst hst
  have hF : ∀ q, va_A [] H.size q → (xA X) q := fun q h => by
    rcases kA_iff.mp h with ⟨z, hz, -⟩ | h
    · cases hz
    · exact C.2.2.2.2.2.2 q (Nat.le_trans hS.1 h)
  refine va_calli (va_runS (As := As) (rest := rest) ⟨C.1, C.2.1, C.2.2.1, C.2.2.2.1, C.2.2.2.2.1⟩ (hM (xL X) (xD X) H.size) (va_cwS n C.2.2.2.2.1 hG hwy hrc hrs hdd hR) ⟨kPreS_blind, kPreS_intro C.2.2.2.2.2.1 hS hX hbl hbA⟩ rfl hn hl.1 rfl (by show 2 * 0 + _ ≤ 8; omega) hd ⟨by simpa using hcs.1, by simpa using hcs.2⟩) hS (fun q _ h => hF q h) hF (fun r u t H1 locs ht hvm hw hB hz1 hk1 hS => ?_)
  obtain ⟨hP1, hK1, hD1⟩ := hB
  rw [ht] at hP1
  obtain ⟨hP, hD⟩ := k_join (pre := w) (mid := []) (post := []) (mid1 := []) (by simpa using hP) (by simpa using hD) hk1 hF hP1 hD1
  rw [hw]
  exact g H1 locs ls (by simpa using hP) (by simpa using hD) hS hl
abbrev rm_L_cell : Room := { frames := 0, cells := 0, slots := 0, locals := 0 }
theorem c_L_cell {cy : Nat → ClassId} (sb L : Nat) (xs : Nat → Int32) (k : Nat) (hL : L < 2 ^ 31) (hk : k < 2 ^ 31) : kIs sb L xs yL_cell wsL_cell rm_L_cell cy [.ref sb, .int (nI k)] (lCell xs L k) := by
  refine kIs_of (cc := cL_cell) (maxL := 2) (by decide) rfl (Nat.le_of_ble_eq_true rfl) ?_
  intro X hR C hX hbl hbA E
  have C : kC X 2 RL cL_cell wsL_cell cy := C
  refine k_fr (fr2 := [(0, .ref sb), (1, .int (nI k))]) ⟨[0, 1], rfl⟩ ?_
  refine k_iload_n (q := 1) C 1 dL_cell_0 rfl rfl ?_
  refine k_aload_n (q := 2) C 0 dL_cell_1 rfl rfl ?_
  refine k_slen (q := 3) C hX hbl hbA dL_cell_2 rfl ?_
  refine k_nicmp_ge (a := k) (b := L) (tgt := 12) (q := 6) C dL_cell_3 (by decide) rfl hk hL (fun h => ?_) (fun h => ?_)
  · refine k_ldc (q := 14) (v := 42139) C (List.mem_of_getElem? (i := 1) rfl) dL_cell_12 rfl ?_
    refine k_iload_n (q := 15) C 1 dL_cell_14 rfl rfl ?_
    refine k_bipush (q := 17) (v := 7) C dL_cell_15 (by decide +kernel) rfl ?_
    refine k_iadd (q := 18) C dL_cell_17 rfl ?_
    refine k_imul (q := 19) C dL_cell_18 rfl ?_
    refine k_ldc (q := 21) (v := 3035593) C (List.mem_of_getElem? (i := 2) rfl) dL_cell_19 rfl ?_
    refine k_iadd (q := 22) C dL_cell_21 rfl ?_
    exact k_fin E dL_cell_22 (if_neg (Nat.not_lt.mpr h)).symm rfl
  · refine k_aload_n (q := 7) C 0 dL_cell_6 rfl rfl ?_
    refine k_iload_n (q := 8) C 1 dL_cell_7 rfl rfl ?_
    refine k_sld (q := 9) C hX hbl hbA (vp_in_nI h (by omega)) dL_cell_8 rfl ?_
    refine k_goto (q := 22) C dL_cell_9 (by decide) ?_
    exact k_fin E dL_cell_22 (by rw [nI_clamp hk]; exact (if_pos h).symm) rfl
/-! the law's step -/
abbrev wXk (cy : Nat → ClassId) (a b : Nat → Nat) (r : Nat) (sk : Nat → Nat → Nat) (nx sn ln : Nat) (S : Nat → CK) (ik : FI32) (bf : Nat → Nat) (kd hg nu dg : Nat) (ng tk : Bool) (K : CK) : va_W := (wXo b cy (a 0) r nx sn ln (svOf sk) (kpOf sk) ik bf ++ wRd r kd hg nu dg ng tk) ++ (wSky a cy (qN K) (qLit K) (qH K) (qT K) (qS K) (qG K) (qK K) (qLo K) (qLf K) (qNm K) ++ wOth sk cy S)
abbrev wLk (e : Nat → Nat) (cy : Nat → ClassId) (M : SK) (b r : FI32) : va_W := wLa e cy (qSt (kN M) (kO M) (kS M) (kGs M) (kK M) (kLo M) (kLf M)) (kH M) (kT2 M) (kNm M) b r
/-- a call that is done -/
def cOk (cy : Nat → ClassId) (a b : Nat → Nat) (r : Nat) (sk : Nat → Nat → Nat) (M M1 : SK) (k9 u v ans : Int32) : Prop := ∀ (nx sn ln : Nat) (S : Nat → CK) (ik : FI32) (bf : Nat → Nat) (kd hg nu dg : Nat) (ng tk : Bool) (K : CK), sRel K M → nx < 6 → sn ≤ 6 →
  ∃ K1 : CK, sRel K1 M1 ∧ kIl yL_call wsL_call rm_L_call cy [.ref (b 0), .int k9, .int u, .int v] (wXk cy a b r sk nx sn ln S ik bf kd hg nu dg ng tk K) ans (wXk cy a b r sk ((nx + 1) % 6) (min (sn + 1) 6) ln (updS S nx (cLike K (S nx))) ik bf kd hg nu dg ng tk K1) 1 6
/-- a call that is refused -/
def cNo (cy : Nat → ClassId) (a b : Nat → Nat) (r : Nat) (sk : Nat → Nat → Nat) (M : SK) (k9 u v ans : Int32) : Prop := ∀ (nx sn ln : Nat) (S : Nat → CK) (ik : FI32) (bf : Nat → Nat) (kd hg nu dg : Nat) (ng tk : Bool) (K : CK), sRel K M → nx < 6 → sn ≤ 6 →
  kIl yL_call wsL_call rm_L_call cy [.ref (b 0), .int k9, .int u, .int v] (wXk cy a b r sk nx sn ln S ik bf kd hg nu dg ng tk K) ans (wXk cy a b r sk nx sn ln S ik bf kd hg nu dg ng tk K) 1 6
/-- what is due -/
def dOk (e : Nat → Nat) (cy : Nat → ClassId) (M M1 : SK) (rM rM1 : FI32) (k9 u v ans : Int32) : Prop := ∀ bM : FI32, lB (kN M) (kH M) (kT2 M) (kGs M 1) bM →
  kI yL_due wsL_due rm_L_due cy [.int k9, .int u, .int v, .ref (e 0), .ref (e 1), .ref (e 2), .ref (e 3), .ref (e 4), .ref (e 5)] (wLk e cy M bM rM) ans (wLk e cy M1 bM rM1)
/-- the loop's head, with any state in order -/
def lwE (X : kX) (cy : Nat → ClassId) (e a b : Nat → Nat) (r : Nat) (sk : Nat → Nat → Nat) (sb i ce sl : Nat) : Prop := ∀ (nx sn ln : Nat) (S : Nat → CK) (ik : FI32) (bf : Nat → Nat) (kd hg nu dg : Nat) (ng tk : Bool) (K : CK) (M : SK) (bM rM : FI32), nx < 6 → sn ≤ 6 → sRel K M → sUpw (kH M) (kN M) →
  kG X 17 ce sl (wLk e cy M bM rM ++ wXk cy a b r sk nx sn ln S ik bf kd hg nu dg ng tk K) 84 [(0, .ref sb), (1, .ref (b 0)), (2, .ref (e 0)), (3, .ref (e 1)), (4, .ref (e 2)), (5, .ref (e 3)), (6, .ref (e 4)), (7, .ref (e 5)), (8, .int (nI i))] []
/-- what told tells, out of the law's own numbers -/
def tMs (M : SK) : Int64 := tB (tA (fun k => if k = 11 ∨ k = 12 then 0 else mTc 0 0 (kN M) (kO M) (kH M) (kT2 M) (kS M) (kGs M) (kK M) (kLo M) (kLf M) k) 17) (tN (kK M) (kNm M)) (tY (kN M) (mLit (kO M)) (kH M) (kT2 M) (kS M) (kGs M)) 32
theorem tA_c {f g : Nat → Int32} : ∀ {n : Nat}, (∀ k, k < n → f k = g k) → tA f n = tA g n
  | 0, _ => rfl
  | n + 1, H => by unfold tA; rw [tA_c (fun k hk => H k (by omega)), H n (by omega)]
theorem tB_c {v : Int64} {a a' y y' : Nat → Int32} : ∀ {n : Nat}, (∀ k, k < n → a k = a' k) → (∀ k, k < n → y k = y' k) → tB v a y n = tB v a' y' n
  | 0, _, _ => rfl
  | n + 1, H, G => by unfold tB; rw [tB_c (fun k hk => H k (by omega)) (fun k hk => G k (by omega)), H n (by omega), G n (by omega)]
theorem mTc_9 {sm ln n : Nat} {o h t s g : Nat → Int32} {kn : Nat} {lo lf : Int32} {k : Nat} (h1 : ¬ k = 11) (h2 : ¬ k = 12) : mTc sm ln n o h t s g kn lo lf k = mTc 0 0 n o h t s g kn lo lf k := by
  unfold mTc
  rw [if_neg h1, if_neg h2, if_neg h1, if_neg h2]
theorem told_M {K : CK} {M : SK} (h : sRel K M) (sn ln : Nat) : tB (tA (tC sn ln (qN K) (qLit K) (qH K) (qT K) (qS K) (qG K) (qK K) (qLo K) (qLf K)) 17) (tN (qK K) (qNm K)) (tY (qN K) (qLit K) (qH K) (qT K) (qS K) (qG K)) 32 = tMs M := by
  obtain ⟨⟨hn, ho, hs0, hs1, hk, -⟩, e1, e2, eH, eT, eS, eG, eK, eLo, eLf, eN, -⟩ := h
  unfold tMs
  have a1 : tA (tC sn ln (qN K) (qLit K) (qH K) (qT K) (qS K) (qG K) (qK K) (qLo K) (qLf K)) 17 = tA (fun k => if k = 11 ∨ k = 12 then 0 else mTc 0 0 (kN M) (kO M) (kH M) (kT2 M) (kS M) (kGs M) (kK M) (kLo M) (kLf M) k) 17 := by
    refine tA_c (fun k hk => ?_)
    show tC _ _ _ _ _ _ _ _ _ _ _ k = if k = 11 ∨ k = 12 then 0 else _
    unfold tC
    by_cases c : k = 11 ∨ k = 12
    · rw [if_pos c, if_pos c]
    · rw [if_neg c, if_neg c, e1, e2, eK, eLo, eLf, cg_Tc hn (by omega) eH eT eS eG, xTc_m hn ho, mTc_9 (fun q => c (Or.inl q)) (fun q => c (Or.inr q))]
  rw [a1]
  refine tB_c (fun k hk9 => ?_) (fun k hk9 => ?_)
  · unfold tN sNight
    rw [eK]
    by_cases c : k / 4 < kK M
    · rw [if_pos c, if_pos c]; exact eN _ (by omega)
    · rw [if_neg c, if_neg c]
  · unfold tY
    rw [e1, e2]
    by_cases c : k / 4 < kN M
    · rw [if_pos c, if_pos c, cg_Ly eH eT eS eG c]
    · rw [if_neg c, if_neg c]
theorem rel_like {K y : CK} {M : SK} (h : sRel K M) : sRel (cLike K y) M := by
  obtain ⟨k0, e1, e2, H, T, S, G, e3, e4, e5, N, O⟩ := h
  have hn := k0.1
  have c : ∀ (f g : FI32) (m i : Nat), i < m → va_cpy f g 0 0 m i = f i := fun f g m i hi => by
    unfold va_cpy; rw [if_pos (by omega)]; congr 1; omega
  refine ⟨k0, e1, e2, fun i hi => ?_, fun i hi => ?_, fun i hi => ?_, fun i hi => ?_, e3, e4, e5, fun i hi => ?_, O⟩
  · exact (c _ _ 6 i (by omega)).trans (H i hi)
  · exact (c _ _ 6 i (by omega)).trans (T i hi)
  · exact (c _ _ 2 i hi).trans (S i hi)
  · exact (c _ _ 4 i hi).trans (G i hi)
  · exact (c _ _ 32 i hi).trans (N i hi)
theorem lcmp_0 (x : Int64) : lg_cmp x x = 0 := by unfold lg_cmp; simp
theorem k_stl {X : kX} {nL ce sl pc : Nat} {w : va_W} {fr : List (Nat × Value)} {st : List Value} {a b : Int64} (h : a = b) (g : kG X nL ce sl w pc fr (.long b :: st)) : kG X nL ce sl w pc fr (.long a :: st) := by rw [h]; exact g
