/-! throws -/
def zNames : List String := ["java/lang/RuntimeException", "java/lang/Exception"]
def zNw : List Cond := [.castable "java/lang/IllegalArgumentException" "java/lang/IllegalArgumentException", .castable "java/lang/IllegalStateException" "java/lang/IllegalStateException", .castable "java/lang/IndexOutOfBoundsException" "java/lang/IndexOutOfBoundsException",
  .declares (Bundle.initS "java/lang/RuntimeException"), .declares (Bundle.initS "java/lang/Exception"), .declares (Bundle.initS Bundle.tN)]
def zTx : List (Nat × String) := [(44, "height or thickness out of range"), (54, "too many layers, or one has this height"), (69, "no such layer"), (76, "thickness out of range"), (84, "no such light"), (86, "slope out of range"), (94, "no such setting"), (103, "value out of range"), (108, "no such light or layer"), (148, "no state is saved"), (180, "what is not 0 to 3"), (182, "what is not 0 to 4"), (194, "ago is negative, or what is not 0 to 3"), (237, "what is not 0 to 16"), (239, "way is neither 0 nor 1")]
/-- what a throw (and 'set') asks of the start: texts, words of the tables, statics that lie outside what is written -/
def kZ (A : Nat → Prop) (U : State) (H : Heap) : Prop :=
  (∀ q ∈ zTx, ∃ sa, vk_R RX3 q.1 q.2 sa U) ∧ (∀ w ∈ zNw, va_Nw w U) ∧ vx_Zq Bundle.tN "UNASSIGNED_STACK" Bundle.steD A U H ∧ vx_Zq Bundle.tN "SUPPRESSED_SENTINEL" Bundle.listD A U H ∧
  (∃ a : Nat, va_Z "CloudBeams" "LEAST_VALUES" "[I" (.ref a) A U H ∧ va_X a 4 mLeast U H ∧ a < H.size ∧ ¬ A a) ∧ (∃ a : Nat, va_Z "CloudBeams" "MOST_VALUES" "[I" (.ref a) A U H ∧ va_X a 4 mMost U H ∧ a < H.size ∧ ¬ A a) ∧
  va_Nc "java/lang/IllegalStateException" "java/lang/IllegalArgumentException" U ∧ va_Nc "java/lang/IllegalArgumentException" "java/lang/IndexOutOfBoundsException" U
theorem zNw_warm {s U : State} (hW : s.WarmedH U.vm) : ∀ w ∈ zNw, va_Nw w s → va_Nw w U := by
  intro w hw h
  simp only [zNw, List.mem_cons, List.not_mem_nil, or_false] at hw
  rcases hw with rfl | rfl | rfl | rfl | rfl | rfl
  · exact va_Nw.warmC hW h
  · exact va_Nw.warmC hW h
  · exact va_Nw.warmC hW h
  · exact va_Nw.warmD hW h
  · exact va_Nw.warmD hW h
  · exact va_Nw.warmD hW h
theorem kZ.go {A B : Nat → Prop} {s U : State} {H0 H : Heap} (hW : s.WarmedH U.vm) (hsz : H0.size ≤ H.size) (hk : ∀ a : Nat, a < H0.size → ¬ A a → H[a]? = H0[a]?) (hAB : ∀ q, B q → A q) (h : kZ A s H0) : kZ B U H := by
  obtain ⟨h1, h2, h3, h4, ⟨a, a1, a2, a3, a4⟩, ⟨b, b1, b2, b3, b4⟩, n1, n2⟩ := h
  refine ⟨fun q hq => ?_, fun w hw => zNw_warm hW w hw (h2 w hw), vx_Zq.narrow (vx_Zq.moved hW.alike (h3.kept hk)) hAB, vx_Zq.narrow (vx_Zq.moved hW.alike (h4.kept hk)) hAB, ⟨a, ?_, va_X.moved hW.alike (a2.kept (hk a a3 a4)), by omega, fun z => a4 (hAB _ z)⟩, ⟨b, ?_, va_X.moved hW.alike (b2.kept (hk b b3 b4)), by omega, fun z => b4 (hAB _ z)⟩, va_Nc.moved hW.alike n1, va_Nc.moved hW.alike n2⟩
  · obtain ⟨sa, hs⟩ := h1 q hq
    exact ⟨sa, vk_R.warm hW hs⟩
  · exact va_Z.narrow (va_Z.moved hW.alike (a1.kept hk)) hAB
  · exact va_Z.narrow (va_Z.moved hW.alike (b1.kept hk)) hAB
def kPreZ (D : va_G) (cy : Nat → ClassId) (av : List Value) (sz : Nat) (w0 : va_W) : Array Value → State → Prop := va_Pc av (fun U => U.heap.size = sz ∧ va_P D vwCl w0 U.heap ∧ va_K D vwCl (kT cy) U ∧ va_D (fun _ => True) w0 ∧ kZ (va_A w0 sz) U U.heap)
theorem kPreZ_blind {D : va_G} {cy : Nat → ClassId} {av : List Value} {sz : Nat} {w0 : va_W} : FrameBlind (kPreZ D cy av sz w0) := by
  intro a U g mk q
  obtain ⟨q0, q1, qP, qK, qD, qZ⟩ := q
  exact ⟨q0, q1, qP, va_K.moved (u := U) (U := U.calling g mk a) (Vm.Alike.refl U.vm) qK, qD, kZ.go (s := U) (U := U.calling g mk a) (State.WarmedH.refl U) (Nat.le_refl _) (fun _ _ _ => rfl) (fun _ h => h) qZ⟩
theorem kPreZ_intro {D : va_G} {cy : Nat → ClassId} {av : List Value} {A0 : Nat → Prop} {s : State} {H : Heap} {locs : List Loc} {pre mid post : va_W} (hP : va_P D vwCl (pre ++ (mid ++ post)) H) (hD : va_D A0 (pre ++ (mid ++ post))) (hK : va_K D vwCl (kT cy) s) (hS : va_S A0 s.heap H locs) (hA : ∀ q, s.heap.size ≤ q → A0 q) (Z : kZ A0 s s.heap) : ∀ U : State, U.heap = H → s.WarmedH U.vm → kPreZ D cy av H.size mid av.toArray U :=
  fun U hU hW => ⟨rfl, by rw [hU], by rw [hU]; exact kP_mid hP, va_K.moved hW.alike hK, (kD_mid hD).weaken (fun _ _ _ _ => trivial), by rw [hU]; exact kZ.go hW hS.1 hS.2.1 (k_free (D := D) (cl := vwCl) hD hS hA) Z⟩
/-- a method that throws cls, from the world w0, and leaves w1 -/
def kE (y : MethodName) (wy : List Cond) (rm : Room) (cy : Nat → ClassId) (av : List Value) (w0 : va_W) (cls : String) (w1 : va_W) : Prop :=
  ∀ (l : Launch), l.stackTraces = false → ∀ (D : va_G) (sz : Nat), vx_Met l y wy rm (kPreZ D cy av sz w0) (va_Qi (fun _ (_ : Unit) => False) (fun _ t => kB D cy sz w0 w1 t) (va_A w0 sz)) (vx_X (fun _ : Unit => True) (fun E _ t => E = cls ∧ kB D cy sz w0 w1 t) (va_A w0 sz)) 1 6 (va_A w0 sz)
def zCls (cls : String) (ik ic : Nat) : Prop := Bundle.fit cls = true ∧ (∀ w ∈ Cond.classLink RX3 ik cls :: Cond.initialized cls :: vx_atS RX3 ic cls zNames, vx_ot w = true) ∧ (∀ w ∈ (vx_atS RX3 ic cls zNames).filter (fun w => !goodWord w), w ∈ zNw)
theorem zA : zCls "java/lang/IllegalArgumentException" 42 46 := ⟨by decide +kernel, List.all_eq_true.mp (by decide +kernel), fun w h => of_decide_eq_true (List.all_eq_true.mp (show ((vx_atS RX3 46 "java/lang/IllegalArgumentException" zNames).filter (fun w => !goodWord w)).all (fun w => decide (w ∈ zNw)) = true by decide +kernel) w h)⟩
theorem zB : zCls "java/lang/IllegalStateException" 52 56 := ⟨by decide +kernel, List.all_eq_true.mp (by decide +kernel), fun w h => of_decide_eq_true (List.all_eq_true.mp (show ((vx_atS RX3 56 "java/lang/IllegalStateException" zNames).filter (fun w => !goodWord w)).all (fun w => decide (w ∈ zNw)) = true by decide +kernel) w h)⟩
theorem zC : zCls "java/lang/IndexOutOfBoundsException" 67 71 := ⟨by decide +kernel, List.all_eq_true.mp (by decide +kernel), fun w h => of_decide_eq_true (List.all_eq_true.mp (show ((vx_atS RX3 71 "java/lang/IndexOutOfBoundsException" zNames).filter (fun w => !goodWord w)).all (fun w => decide (w ∈ zNw)) = true by decide +kernel) w h)⟩
def kEndE (X : kX) (nL : Nat) (cc : ByteArray) (ts : List Cond) (cls : String) (w1 : va_W) : Prop :=
  ∀ (pc : Nat) (fr : List (Nat × Value)) (ik is ic : Nat) (text : String), zCls cls ik ic → Cond.classLink RX3 ik cls ∈ ts → Cond.initialized cls ∈ ts → (∀ w ∈ (vx_atS RX3 ic cls zNames).filter goodWord, w ∈ ts) → (is, text) ∈ zTx →
    decode cc pc = .ok (.new ik, 3) → decode cc (pc + 3) = .ok (.dup, 1) → decode cc (pc + 4) = .ok (.ldc is, 2) → decode cc (pc + 6) = .ok (.invokespecial ic, 3) → decode cc (pc + 9) = .ok (.athrow, 1) → kG X nL 0 0 w1 pc fr []
theorem k_thr {X : kX} {nL : Nat} {cc : ByteArray} {ts : List Cond} {cls text : String} {w w1 : va_W} {pc ik is ic : Nat} {fr : List (Nat × Value)} (E : kEndE X nL cc ts cls w1) (hw : w = w1) (hz : zCls cls ik ic) (h1 : Cond.classLink RX3 ik cls ∈ ts) (h2 : Cond.initialized cls ∈ ts) (h3 : ∀ w ∈ (vx_atS RX3 ic cls zNames).filter goodWord, w ∈ ts) (h4 : (is, text) ∈ zTx)
    (d0 : decode cc pc = .ok (.new ik, 3)) (d3 : decode cc (pc + 3) = .ok (.dup, 1)) (d4 : decode cc (pc + 4) = .ok (.ldc is, 2)) (d6 : decode cc (pc + 6) = .ok (.invokespecial ic, 3)) (d9 : decode cc (pc + 9) = .ok (.athrow, 1)) : kG X nL 0 0 w pc fr [] := by
  rw [hw]; exact E pc fr ik is ic text hz h1 h2 h3 h4 d0 d3 d4 d6 d9
theorem zNw_any {w : Cond} (hw : w ∈ zNw) {A : Array Value} {s : State} (h : va_Nw w s) : w.before A s = true :=
  va_tabs (u := s) (U := s) (List.all_eq_true.mp (show zNw.all Cond.onTables = true by decide +kernel) w hw) rfl h
set_option maxHeartbeats 4000000 in
theorem kE_of {y : MethodName} {wy wy' : List Cond} {rm : Room} {cy : Nat → ClassId} {av : List Value} {w0 w1 : va_W} {cls : String} {cc : ByteArray} {maxL : Nat} {rt : FieldType} (hy : y.cls = RX3) (hyp : plainName y.cls = true) (hw : wy = Cond.code y cc maxL (some rt) :: wy') (hlen : (lg_sl av).length ≤ maxL) (hrm : 6 ≤ rm.frames ∧ 82 ≤ rm.locals ∧ 1 ≤ rm.cells ∧ 6 ≤ rm.slots)
    (body : ∀ X : kX, xR X = rm → kC X maxL y.cls cc wy cy → kZ (xA X) (xS X) (xS X).heap → kEndE X maxL cc wy cls w1 → kG X maxL 0 0 w0 0 (lv_args 0 av) []) : kE y wy rm cy av w0 cls w1 := by
  intro l hst D sz
  refine vx_ofW (cc := cc) (maxL := maxL) (ret := some rt) hyp hw ?_
  intro p e s m args below meth c s₁ B hml hex hv
  obtain ⟨rfl, hsz, hP, hK, hD0, hZ⟩ := hv
  have hx := B.exec
  have hb := B.bytes
  have hts := atoms_spec (ws := wy) B.pre
  have hown : s.vm.findClass y.cls = some m.cls := findClass_of_methodNamed B.named
  have hlocks := B.notSynchronized
  subst hsz
  have hD := hD0.self (sz := s.heap.size)
  have hA : ∀ q : Nat, s.heap.size ≤ q → va_A w0 s.heap.size q := fun q h => Or.inr h
  have hS : va_S (va_A w0 s.heap.size) s.heap s.heap [] := va_S.rf
  have hl := lv_entry av (n := maxL) hlen
  rw [lg_entry_eq]
  generalize (lg_sl av ++ List.replicate (maxL - (lg_sl av).length) Slot.unset).toArray = ls at hl ⊢
  refine body (p, l, e, (headSpec wy rm).room, s, m, av.toArray, below, meth, c, vx_MQ below (va_Qi (fun _ (_ : Unit) => False) (fun _ t => kB D cy s.heap.size w0 w1 t) (va_A w0 s.heap.size)) (vx_X (fun _ : Unit => True) (fun E _ t => E = cls ∧ kB D cy s.heap.size w0 w1 t) (va_A w0 s.heap.size)) av.toArray s 1 6 (va_A w0 s.heap.size), D, va_A w0 s.heap.size) rfl ⟨hx, hb, hml, hown, hts, hK, hA⟩
    hZ ?_ s.heap [] ls hP hD hS hl
  intro pc fr ik is ic text hz h1 h2 h3 h4 d0 d3 d4 d6 d9 H locs ls hP hD hS hl
  obtain ⟨z1, z2, z3, z4, -⟩ := hZ
  obtain ⟨sa, hsa⟩ := z1 _ h4
  rw [hy] at hown
  exact vx_throwS (names := zNames) (own := RX3) (cls := cls) (text := text) (A := va_A w0 s.heap.size) hx hb hst hown hz.1 (List.all_eq_true.mp (show zNames.all Bundle.fit = true by decide +kernel)) (hts _ h1) (hts _ h2) hsa
    (vx_hat (fun w hw => hts w (h3 w hw)) hz.2.2 (fun w hw => zNw_any hw (z2 w hw))) hz.2.1 z3 z4 hS (by rw [hml]; exact hl.1) d0 d3 d4 d6 d9 (fun x hx => (hex x hx).elim) (by show 2 + 3 < rm.frames; omega) (by show 0 + (13 * (2 + 1) + 43) ≤ rm.locals; omega) (by show 0 + 1 ≤ rm.cells; omega) (by show 0 + 6 ≤ rm.slots; omega) hlocks
    (fun t ht hsz hq => ⟨(), trivial, ⟨rfl, kP_iff.mpr (fun x hx => (kP_iff.mp hP x hx).kept (hq _ (kP_iff.mp hP x hx).lt)), va_K.moved ht hK, hD⟩, ⟨Nat.le_trans hS.1 hsz, fun q h1 h2 => by rw [hq q (Nat.lt_of_lt_of_le h1 hS.1)]; exact hS.2.1 q h1 h2⟩⟩) hS.2.2 (Nat.le_refl _) (Nat.le_refl _)
theorem i_lt4 {x : Int32} (h : x < 4) : x ≤ 3 := by
  rw [Int32.lt_iff_toInt_lt, show (4 : Int32).toInt = 4 by decide +kernel] at h
  rw [Int32.le_iff_toInt_le, show (3 : Int32).toInt = 3 by decide +kernel]; omega
theorem i_4lt {x : Int32} (h : x < 4) : x ≤ 3 := i_lt4 h
/-- an int method that reads the statics too -/
def kIz (y : MethodName) (wy : List Cond) (rm : Room) (cy : Nat → ClassId) (av : List Value) (w0 : va_W) (v : Int32) (w1 : va_W) : Prop :=
  ∀ (l : Launch) (D : va_G) (sz : Nat), Met l y wy rm (kPreZ D cy av sz w0) (va_Qi (fun r (_ : Unit) => r = v) (fun _ t => kB D cy sz w0 w1 t) (va_A w0 sz)) 0 0 (va_A w0 sz)
set_option maxHeartbeats 4000000 in
theorem kIz_of {y : MethodName} {wy wy' : List Cond} {rm : Room} {cy : Nat → ClassId} {av : List Value} {w0 w1 : va_W} {v : Int32} {cc : ByteArray} {maxL : Nat} {rt : FieldType} (hy : plainName y.cls = true) (hw : wy = Cond.code y cc maxL (some rt) :: wy') (hn : narrow rt (.int v) = .int v) (hlen : (lg_sl av).length ≤ maxL)
    (body : ∀ X : kX, xR X = rm → kC X maxL y.cls cc wy cy → kZ (xA X) (xS X) (xS X).heap → kEnd X maxL cc v w1 → kG X maxL 0 0 w0 0 (lv_args 0 av) []) : kIz y wy rm cy av w0 v w1 := by
  intro l D sz
  refine Met.ofW (cc := cc) (maxL := maxL) (ret := some rt) hy hw ?_
  intro p e s m args below meth c s₁ B hml hv
  obtain ⟨rfl, hsz, hP, hK, hD0, hZ⟩ := hv
  have hx := B.exec
  have hb := B.bytes
  have hr := B.returns
  have hts := atoms_spec (ws := wy) B.pre
  have hown : s.vm.findClass y.cls = some m.cls := findClass_of_methodNamed B.named
  have hlocks := B.notSynchronized
  subst hsz
  have hD := hD0.self (sz := s.heap.size)
  have hA : ∀ q : Nat, s.heap.size ≤ q → va_A w0 s.heap.size q := fun q h => Or.inr h
  have hS : va_S (va_A w0 s.heap.size) s.heap s.heap [] := va_S.rf
  have hl := lv_entry av (n := maxL) hlen
  rw [lg_entry_eq]
  generalize (lg_sl av ++ List.replicate (maxL - (lg_sl av).length) Slot.unset).toArray = ls at hl ⊢
  exact body (p, l, e, (headSpec wy rm).room, s, m, av.toArray, below, meth, c, MQ below (va_Qi (fun r (_ : Unit) => r = v) (fun _ t => kB D cy s.heap.size w0 w1 t) (va_A w0 s.heap.size)) av.toArray s 0 0 (va_A w0 s.heap.size), D, va_A w0 s.heap.size) rfl ⟨hx, hb, hml, hown, hts, hK, hA⟩ hZ
    (fun pc fr hd H locs ls hP hD hS _ => W.zret hx hb hr hn (fun t ht hW => ⟨⟨v, (), rfl, rfl, by rw [ht]; exact hP, va_K.moved hW.alike hK, hD⟩, hS.F ht⟩) hS.2.2 hd hlocks) s.heap [] ls hP hD hS hl
theorem k_gets {X : kX} {nL ce sl pc q index : Nat} {cc : ByteArray} {own C n d : String} {ts : List Cond} {cy : Nat → ClassId} {w : va_W} {fr : List (Nat × Value)} {st : List Value} {v : Value} (C0 : kC X nL own cc ts cy) (hZ : va_Z C n d v (xA X) (xS X) (xS X).heap) (hlink : Cond.fieldLink own index C n d ∈ ts) (hd : decode cc pc = .ok (.getstatic index, 3)) (hq : pc + 3 = q)
    (g : kG X nL ce sl w q fr (v :: st)) : kG X nL ce sl w pc fr st := fun H locs ls hP hD hS hl => by subst hq; exact va_gets C0.1 C0.2.1 hZ hS C0.2.2.2.1 (C0.2.2.2.2.1 _ hlink) (fun _ h => h) hd (g H locs ls hP hD hS hl)
theorem k_sld {X : kX} {nL ce sl pc q b L : Nat} {cc : ByteArray} {own : String} {ts : List Cond} {cy : Nat → ClassId} {w : va_W} {fr : List (Nat × Value)} {st : List Value} {xs : Nat → Int32} {i : Int32} (C0 : kC X nL own cc ts cy) (hX : va_X b L xs (xS X) (xS X).heap) (hbl : b < (xS X).heap.size) (hbA : ¬ (xA X) b) (hin : vp_in i L) (hd : decode cc pc = .ok (.iaload, 1)) (hq : pc + 1 = q)
    (g : kG X nL ce sl w q fr (.int (xs i.toNatClampNeg) :: st)) : kG X nL ce sl w pc fr (.int i :: .ref b :: st) := fun H locs ls hP hD hS hl => by subst hq; exact va_sld C0.1 C0.2.1 hX hbl hbA hS hin hd (g H locs ls hP hD hS hl)
