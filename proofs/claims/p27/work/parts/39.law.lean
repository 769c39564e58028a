/-! the law's methods: contracts with new cells, wrappers with handlers -/
def kIl (y : MethodName) (wy : List Cond) (rm : Room) (cy : Nat → ClassId) (av : List Value) (w0 : va_W) (v : Int32) (w1 : va_W) (mc ms : Nat) : Prop :=
  ∀ (l : Launch), l.stackTraces = false → ∀ (D : va_G) (sz : Nat), Met l y wy rm (kPreZ D cy av sz w0) (va_Qi (fun r (_ : Unit) => r = v) (fun _ t => kB D cy sz w0 w1 t) (va_A w0 sz)) mc ms (va_A w0 sz)
def kLl (y : MethodName) (wy : List Cond) (rm : Room) (cy : Nat → ClassId) (av : List Value) (w0 : va_W) (v : Int64) (w1 : va_W) (mc ms : Nat) : Prop :=
  ∀ (l : Launch), l.stackTraces = false → ∀ (D : va_G) (sz : Nat), Met l y wy rm (kPreZ D cy av sz w0) (va_Ql (fun r (_ : Unit) => r = v) (fun _ t => kB D cy sz w0 w1 t) (va_A w0 sz)) mc ms (va_A w0 sz)
def kEndL (X : kX) (nL : Nat) (cc : ByteArray) (v : Int32) (w1 : va_W) (mc ms : Nat) : Prop := ∀ (pc : Nat) (fr : List (Nat × Value)) (ce sl : Nat), ce ≤ mc → sl ≤ ms → decode cc pc = .ok (.ireturn, 1) → kG X nL ce sl w1 pc fr [.int v]
def kEndLl (X : kX) (nL : Nat) (cc : ByteArray) (v : Int64) (w1 : va_W) (mc ms : Nat) : Prop := ∀ (pc : Nat) (fr : List (Nat × Value)) (ce sl : Nat), ce ≤ mc → sl ≤ ms → decode cc pc = .ok (.lreturn, 1) → kG X nL ce sl w1 pc fr [.long v]
theorem k_finL {X : kX} {nL ce sl mc ms : Nat} {cc : ByteArray} {v v2 : Int32} {w w1 : va_W} {pc : Nat} {fr : List (Nat × Value)} (E : kEndL X nL cc v w1 mc ms) (hc : ce ≤ mc) (hs : sl ≤ ms) (hd : decode cc pc = .ok (.ireturn, 1)) (hv : v2 = v) (hw : w = w1) : kG X nL ce sl w pc fr [.int v2] := by
  rw [hv, hw]; exact E pc fr ce sl hc hs hd
theorem k_finLl {X : kX} {nL ce sl mc ms : Nat} {cc : ByteArray} {v v2 : Int64} {w w1 : va_W} {pc : Nat} {fr : List (Nat × Value)} (E : kEndLl X nL cc v w1 mc ms) (hc : ce ≤ mc) (hs : sl ≤ ms) (hd : decode cc pc = .ok (.lreturn, 1)) (hv : v2 = v) (hw : w = w1) : kG X nL ce sl w pc fr [.long v2] := by
  rw [hv, hw]; exact E pc fr ce sl hc hs hd
theorem Met_ofWH {l : Launch} {y : MethodName} {ws ws' : List Cond} {rm : Room} {Pc : Array Value → State → Prop} {Qc : Array Value → State → Outcome → State → Prop} {mc ms : Nat} {free : Addr → Prop} {cc : ByteArray} {maxL : Nat} {ret : Option FieldType} {hh : List (Nat × Nat × Nat × Nat)}
    (hy : plainName y.cls = true) (hw : ws = Cond.codeWith y cc maxL ret hh :: ws')
    (body : ∀ p e s m args below meth c s₁, BodyLoose p l y (headSpec ws rm) cc maxL ret e s m args below meth c s₁ → c.maxLocals = maxL → c.exceptionTable.toList = tableOf hh → Pc args s →
      W p l e (headSpec ws rm).room s m args below meth c s.heap [] 0 0 (MQ below Qc args s mc ms free) (entryFrame m args maxL)) : Met l y ws rm Pc Qc mc ms free := by
  refine MetFree.of_bodyS (code := cc) (maxLocals := maxL) (ret := ret) hy ?_ ?_
  · intro args s m h hn
    obtain ⟨m9, meth, c, hn9, h1, h2, h3, h4, -, h5, h6, -⟩ := Cond.codeWith_spec (atoms_spec (ws := ws) h _ (by rw [hw]; exact List.mem_cons_self))
    cases hn.symm.trans hn9
    exact ⟨meth, c, h1, h2, h3, h4, h5, h6⟩
  · intro p e s m args below meth c s₁ B hml hP _
    have hh0 : s₁.heap = s.heap := by rw [B.state]; rfl
    have ht : c.exceptionTable.toList = tableOf hh := vx_table (x := y) B (atoms_spec (ws := ws) B.pre _ (by rw [hw]; exact List.mem_cons_self))
    obtain ⟨t, a1, o, b1, b2, b3⟩ := body p e s m args below meth c s₁ B hml ht hP s₁ hh0 (Stand.of_body B)
    exact ⟨t, o, a1, b1, b2, ⟨b3.1, b3.2⟩⟩
set_option maxHeartbeats 4000000 in
theorem kIl_of {y : MethodName} {wy wy' : List Cond} {rm : Room} {cy : Nat → ClassId} {av : List Value} {w0 w1 : va_W} {cc : ByteArray} {maxL : Nat} {v : Int32} {mc ms : Nat} {hh : List (Nat × Nat × Nat × Nat)} (hy : plainName y.cls = true) (hw : wy = Cond.codeWith y cc maxL (some .int) hh :: wy') (hlen : (lg_sl av).length ≤ maxL)
    (body : ∀ X : kX, xR X = rm → kC X maxL y.cls cc wy cy → kZ (xA X) (xS X) (xS X).heap → (xL X).stackTraces = false → (xC X).exceptionTable.toList = tableOf hh → kEndL X maxL cc v w1 mc ms → kG X maxL 0 0 w0 0 (lv_args 0 av) []) : kIl y wy rm cy av w0 v w1 mc ms := by
  intro l hst D sz
  refine Met_ofWH (cc := cc) (maxL := maxL) (ret := (some .int)) hy hw ?_
  intro p e s m args below meth c s₁ B hml htb hv
  obtain ⟨rfl, hsz, hP, hK, hD0, hZ⟩ := hv
  have hx := B.exec
  have hb := B.bytes
  have hr := B.returns
  have hts := atoms_spec (ws := wy) B.pre
  have hown : s.vm.findClass y.cls = some m.cls := findClass_of_methodNamed B.named
  have hlocks := B.notSynchronized
  subst hsz
  have hD := hD0.self (sz := s.heap.size)
  have hA : ∀ q : Nat, s.heap.size ≤ q → va_A w0 s.heap.size q := fun q h => Or.inr h
  have hS : va_S (va_A w0 s.heap.size) s.heap s.heap [] := va_S.rf
  have hl := lv_entry av (n := maxL) hlen
  rw [lg_entry_eq]
  generalize (lg_sl av ++ List.replicate (maxL - (lg_sl av).length) Slot.unset).toArray = ls at hl ⊢
  exact body (p, l, e, (headSpec wy rm).room, s, m, av.toArray, below, meth, c, MQ below (va_Qi (fun r (_ : Unit) => r = v) (fun _ t => kB D cy s.heap.size w0 w1 t) (va_A w0 s.heap.size)) av.toArray s mc ms (va_A w0 s.heap.size), D, va_A w0 s.heap.size) rfl ⟨hx, hb, hml, hown, hts, hK, hA⟩ hZ hst htb
    (fun pc fr ce sl hc hs hd H locs ls hP hD hS _ => (W.widen hc hs (W.zret hx hb hr rfl (fun t ht hW => ⟨⟨v, (), rfl, rfl, by rw [ht]; exact hP, va_K.moved hW.alike hK, hD⟩, hS.F ht⟩) hS.2.2 hd hlocks))) s.heap [] ls hP hD hS hl
set_option maxHeartbeats 4000000 in
theorem kIlc_of {y : MethodName} {wy wy' : List Cond} {rm : Room} {cy : Nat → ClassId} {av : List Value} {w0 w1 : va_W} {cc : ByteArray} {maxL : Nat} {v : Int32} {mc ms : Nat} (hy : plainName y.cls = true) (hw : wy = Cond.code y cc maxL (some .int) :: wy') (hlen : (lg_sl av).length ≤ maxL)
    (body : ∀ X : kX, xR X = rm → kC X maxL y.cls cc wy cy → kZ (xA X) (xS X) (xS X).heap → (xL X).stackTraces = false → kEndL X maxL cc v w1 mc ms → kG X maxL 0 0 w0 0 (lv_args 0 av) []) : kIl y wy rm cy av w0 v w1 mc ms := by
  intro l hst D sz
  refine Met.ofW (cc := cc) (maxL := maxL) (ret := (some .int)) hy hw ?_
  intro p e s m args below meth c s₁ B hml hv
  obtain ⟨rfl, hsz, hP, hK, hD0, hZ⟩ := hv
  have hx := B.exec
  have hb := B.bytes
  have hr := B.returns
  have hts := atoms_spec (ws := wy) B.pre
  have hown : s.vm.findClass y.cls = some m.cls := findClass_of_methodNamed B.named
  have hlocks := B.notSynchronized
  subst hsz
  have hD := hD0.self (sz := s.heap.size)
  have hA : ∀ q : Nat, s.heap.size ≤ q → va_A w0 s.heap.size q := fun q h => Or.inr h
  have hS : va_S (va_A w0 s.heap.size) s.heap s.heap [] := va_S.rf
  have hl := lv_entry av (n := maxL) hlen
  rw [lg_entry_eq]
  generalize (lg_sl av ++ List.replicate (maxL - (lg_sl av).length) Slot.unset).toArray = ls at hl ⊢
  exact body (p, l, e, (headSpec wy rm).room, s, m, av.toArray, below, meth, c, MQ below (va_Qi (fun r (_ : Unit) => r = v) (fun _ t => kB D cy s.heap.size w0 w1 t) (va_A w0 s.heap.size)) av.toArray s mc ms (va_A w0 s.heap.size), D, va_A w0 s.heap.size) rfl ⟨hx, hb, hml, hown, hts, hK, hA⟩ hZ hst
    (fun pc fr ce sl hc hs hd H locs ls hP hD hS _ => (W.widen hc hs (W.zret hx hb hr rfl (fun t ht hW => ⟨⟨v, (), rfl, rfl, by rw [ht]; exact hP, va_K.moved hW.alike hK, hD⟩, hS.F ht⟩) hS.2.2 hd hlocks))) s.heap [] ls hP hD hS hl
set_option maxHeartbeats 4000000 in
theorem kLl_of {y : MethodName} {wy wy' : List Cond} {rm : Room} {cy : Nat → ClassId} {av : List Value} {w0 w1 : va_W} {cc : ByteArray} {maxL : Nat} {v : Int64} {mc ms : Nat} (hy : plainName y.cls = true) (hw : wy = Cond.code y cc maxL (some .long) :: wy') (hlen : (lg_sl av).length ≤ maxL)
    (body : ∀ X : kX, xR X = rm → kC X maxL y.cls cc wy cy → kZ (xA X) (xS X) (xS X).heap → (xL X).stackTraces = false → kEndLl X maxL cc v w1 mc ms → kG X maxL 0 0 w0 0 (lv_args 0 av) []) : kLl y wy rm cy av w0 v w1 mc ms := by
  intro l hst D sz
  refine Met.ofW (cc := cc) (maxL := maxL) (ret := (some .long)) hy hw ?_
  intro p e s m args below meth c s₁ B hml hv
  obtain ⟨rfl, hsz, hP, hK, hD0, hZ⟩ := hv
  have hx := B.exec
  have hb := B.bytes
  have hr := B.returns
  have hts := atoms_spec (ws := wy) B.pre
  have hown : s.vm.findClass y.cls = some m.cls := findClass_of_methodNamed B.named
  have hlocks := B.notSynchronized
  subst hsz
  have hD := hD0.self (sz := s.heap.size)
  have hA : ∀ q : Nat, s.heap.size ≤ q → va_A w0 s.heap.size q := fun q h => Or.inr h
  have hS : va_S (va_A w0 s.heap.size) s.heap s.heap [] := va_S.rf
  have hl := lv_entry av (n := maxL) hlen
  rw [lg_entry_eq]
  generalize (lg_sl av ++ List.replicate (maxL - (lg_sl av).length) Slot.unset).toArray = ls at hl ⊢
  exact body (p, l, e, (headSpec wy rm).room, s, m, av.toArray, below, meth, c, MQ below (va_Ql (fun r (_ : Unit) => r = v) (fun _ t => kB D cy s.heap.size w0 w1 t) (va_A w0 s.heap.size)) av.toArray s mc ms (va_A w0 s.heap.size), D, va_A w0 s.heap.size) rfl ⟨hx, hb, hml, hown, hts, hK, hA⟩ hZ hst
    (fun pc fr ce sl hc hs hd H locs ls hP hD hS _ => (W.widen hc hs (W.lret hx hb hr (fun t ht hW => ⟨⟨v, (), rfl, rfl, by rw [ht]; exact hP, va_K.moved hW.alike hK, hD⟩, hS.F ht⟩) hS.2.2 hd hlocks))) s.heap [] ls hP hD hS hl
set_option maxHeartbeats 4000000 in
theorem kI_ofH {y : MethodName} {wy wy' : List Cond} {rm : Room} {cy : Nat → ClassId} {av : List Value} {w0 w1 : va_W} {cc : ByteArray} {maxL : Nat} {v : Int32} {hh : List (Nat × Nat × Nat × Nat)} (hy : plainName y.cls = true) (hw : wy = Cond.codeWith y cc maxL (some .int) hh :: wy') (hlen : (lg_sl av).length ≤ maxL)
    (body : ∀ X : kX, xR X = rm → kC X maxL y.cls cc wy cy → kEnd X maxL cc v w1 → kG X maxL 0 0 w0 0 (lv_args 0 av) []) : kI y wy rm cy av w0 v w1 := by
  intro l D sz
  refine Met_ofWH (cc := cc) (maxL := maxL) (ret := (some .int)) hy hw ?_
  intro p e s m args below meth c s₁ B hml htb hv
  obtain ⟨rfl, hsz, hP, hK, hD0⟩ := hv
  have hx := B.exec
  have hb := B.bytes
  have hr := B.returns
  have hts := atoms_spec (ws := wy) B.pre
  have hown : s.vm.findClass y.cls = some m.cls := findClass_of_methodNamed B.named
  have hlocks := B.notSynchronized
  subst hsz
  have hD := hD0.self (sz := s.heap.size)
  have hA : ∀ q : Nat, s.heap.size ≤ q → va_A w0 s.heap.size q := fun q h => Or.inr h
  have hS : va_S (va_A w0 s.heap.size) s.heap s.heap [] := va_S.rf
  have hl := lv_entry av (n := maxL) hlen
  rw [lg_entry_eq]
  generalize (lg_sl av ++ List.replicate (maxL - (lg_sl av).length) Slot.unset).toArray = ls at hl ⊢
  exact body (p, l, e, (headSpec wy rm).room, s, m, av.toArray, below, meth, c, MQ below (va_Qi (fun r (_ : Unit) => r = v) (fun _ t => kB D cy s.heap.size w0 w1 t) (va_A w0 s.heap.size)) av.toArray s 0 0 (va_A w0 s.heap.size), D, va_A w0 s.heap.size) rfl ⟨hx, hb, hml, hown, hts, hK, hA⟩
    (fun pc fr hd H locs ls hP hD hS _ => W.zret hx hb hr rfl (fun t ht hW => ⟨⟨v, (), rfl, rfl, by rw [ht]; exact hP, va_K.moved hW.alike hK, hD⟩, hS.F ht⟩) hS.2.2 hd hlocks) s.heap [] ls hP hD hS hl
section KLAW
variable {X : kX} {nL ce sl pc q : Nat} {own : String} {cc : ByteArray} {ts : List Cond} {cy : Nat → ClassId} {w w2 pre mid mid1 post : va_W} {fr : List (Nat × Value)} {st rest : List Value}
theorem zCa {A : Nat → Prop} {U : State} {H : Heap} (Z : kZ A U H) {cls : String} (h : Cond.castable cls cls ∈ zNw) (a : Array Value) : (Cond.castable cls cls).before a U = true := zNw_any h (Z.2.1 _ h)
/-- a call that throws, caught here -/
theorem k_callVE (C : kC X nL own cc ts cy) (Z : kZ (xA X) (xS X) (xS X).heap) (hst0 : (xL X).stackTraces = false) {y : MethodName} {wy wy' : List Cond} {rm : Room} {index n maxL b ci : Nat} {bytes : ByteArray} {ret : Option FieldType} {As : List Value} {cls : String} {c3 : vw_C} {fs : List Value} (hM : kE y wy rm cy (.ref b :: As) mid cls mid1)
    (hG : GoodIn ts (wsV own index c3.1 y wy)) (hwy : wy = Cond.code y bytes maxL ret :: wy') (hrc : rm.cells = 1) (hrs : rm.slots = 6) (hdd : y.cls = c3.1 ∧ y.cls ≠ "java/lang/invoke/MethodHandle" ∧ y.cls ≠ "java/lang/invoke/VarHandle" ∧ (parseMethodDescriptor y.desc).map (fun d => d.parameters.length) = some n)
    (hR : rm.frames + 1 ≤ (xR X).frames ∧ 8 + (maxL + 11) + rm.locals ≤ (xR X).locals) (hcs : ce + 1 ≤ (xR X).cells ∧ sl + 6 ≤ (xR X).slots)
    (hc3 : vwCl[ci]? = some c3) (qr : Nat) (hrecv : mid[qr]? = some (b, .inr (ci, fs))) (hn : As.length = n) (hst : st = As.reverse ++ .ref b :: rest) (hcat : (rest.map fun v => v.category).sum ≤ 8)
    (hw : w = pre ++ (mid ++ post)) (hw2 : pre ++ (mid1 ++ post) = w2) (hd : decode cc pc = .ok (.invokevirtual index, 3))
    {hh : List (Nat × Nat × Nat × Nat)} (htb : (xC X).exceptionTable.toList = tableOf hh) (p0 : List ExceptionTableEntry) (x : ExceptionTableEntry) (suf : List ExceptionTableEntry) (hsplit : tableOf hh = p0 ++ x :: suf)
    (hpass : ∀ z ∈ p0, covers z pc = false ∨ (z.catchType ≠ 0 ∧ ∃ nm : String, Cond.classLink own z.catchType nm ∈ ts ∧ va_Nc cls nm (xS X))) (hxc : covers x pc = true) (h0 : x.catchType ≠ 0) (hlink : Cond.classLink own x.catchType cls ∈ ts) (hcz : Cond.castable cls cls ∈ zNw) (hq : x.handlerPc = q)
    (g : ∀ q9 : Nat, kG X nL (ce + 1) (sl + 6) w2 q fr [.ref q9]) : kG X nL ce sl w pc fr st := by
  intro H locs ls hP hD hS hl
  subst hw; subst hw2; subst hq; subst hst
  have hF := k_free (D := xD X) (cl := vwCl) hD hS C.2.2.2.2.2.2
  refine vx_calli (vx_runV (As := As) (rest := rest) ⟨C.1, C.2.1, C.2.2.1, C.2.2.2.1, C.2.2.2.2.1⟩ (hM (xL X) hst0 (xD X) H.size) (cwV n C.2.2.2.2.1 hG hwy hrc hrs hdd hR) ⟨kPreZ_blind, va_recv C.2.2.2.2.2.1 (kP_mid hP) hc3 hrecv, kPreZ_intro hP hD C.2.2.2.2.2.1 hS C.2.2.2.2.2.2 Z⟩ rfl hn hl.1 rfl (by show 2 * 0 + _ ≤ 8; omega) hd hcs) hS (fun q _ h => hF q h) hF (fun q _ h => hF q h) (fun E ce9 q9 u t H1 locs ht hvm _ hB hz1 hk1 hS hce hcv hcl => ?_) (fun r u t H1 locs ht hvm hw hB hz1 hk1 hS => hw.elim)
  obtain ⟨rfl, hP1, hK1, hD1⟩ := hB
  rw [ht] at hP1
  obtain ⟨hP, hD⟩ := k_join hP hD hk1 hF hP1 hD1
  exact vx_catch C.2.2.2.1 p0 x suf (htb.trans hsplit) (fun z hz => (hpass z hz).imp id (fun ⟨a, nm, b, c⟩ => ⟨a, nm, C.2.2.2.2.1 _ b, c⟩)) hxc h0 (C.2.2.2.2.1 _ hlink) (zCa Z hcz _) hce hcv hcl (g q9 H1 locs ls hP hD hS hl)
/-- a call of a method that reads the statics -/
theorem k_callVIz (C : kC X nL own cc ts cy) (Z : kZ (xA X) (xS X) (xS X).heap) {y : MethodName} {wy wy' : List Cond} {rm : Room} {index n maxL b ci : Nat} {bytes : ByteArray} {ret : Option FieldType} {As : List Value} {v : Int32} {c3 : vw_C} {fs : List Value} (hM : kIz y wy rm cy (.ref b :: As) mid v mid1)
    (hG : GoodIn ts (wsV own index c3.1 y wy)) (hwy : wy = Cond.code y bytes maxL ret :: wy') (hrc : rm.cells = 0) (hrs : rm.slots = 0) (hdd : y.cls = c3.1 ∧ y.cls ≠ "java/lang/invoke/MethodHandle" ∧ y.cls ≠ "java/lang/invoke/VarHandle" ∧ (parseMethodDescriptor y.desc).map (fun d => d.parameters.length) = some n)
    (hR : rm.frames + 1 ≤ (xR X).frames ∧ 8 + (maxL + 11) + rm.locals ≤ (xR X).locals) (hcs : ce ≤ (xR X).cells ∧ sl ≤ (xR X).slots)
    (hc3 : vwCl[ci]? = some c3) (qr : Nat) (hrecv : mid[qr]? = some (b, .inr (ci, fs))) (hn : As.length = n) (hst : st = As.reverse ++ .ref b :: rest) (hcat : (rest.map fun v => v.category).sum ≤ 8)
    (hw : w = pre ++ (mid ++ post)) (hw2 : pre ++ (mid1 ++ post) = w2) (hd : decode cc pc = .ok (.invokevirtual index, 3)) (hq : pc + 3 = q)
    (g : kG X nL ce sl w2 q fr (.int v :: rest)) : kG X nL ce sl w pc fr st := by
  intro H locs ls hP hD hS hl
  subst hw; subst hw2; subst hq; subst hst
  have hF := k_free (D := xD X) (cl := vwCl) hD hS C.2.2.2.2.2.2
  refine va_calli (va_runV (As := As) (rest := rest) ⟨C.1, C.2.1, C.2.2.1, C.2.2.2.1, C.2.2.2.2.1⟩ (hM (xL X) (xD X) H.size) (cwV n C.2.2.2.2.1 hG hwy hrc hrs hdd hR) ⟨kPreZ_blind, va_recv C.2.2.2.2.2.1 (kP_mid hP) hc3 hrecv, kPreZ_intro hP hD C.2.2.2.2.2.1 hS C.2.2.2.2.2.2 Z⟩ rfl hn hl.1 rfl (by show 2 * 0 + _ ≤ 8; omega) hd ⟨by simpa using hcs.1, by simpa using hcs.2⟩) hS (fun q _ h => hF q h) hF (fun r u t H1 locs ht hvm hw hB hz1 hk1 hS => ?_)
  obtain ⟨hP1, hK1, hD1⟩ := hB
  rw [ht] at hP1
  obtain ⟨hP, hD⟩ := k_join hP hD hk1 hF hP1 hD1
  rw [hw]
  exact g H1 locs ls hP hD hS hl
/-- a call of a wrapper with handlers: it lets nothing through -/
theorem k_callSL (C : kC X nL own cc ts cy) (Z : kZ (xA X) (xS X) (xS X).heap) (hst0 : (xL X).stackTraces = false) {y : MethodName} {wy wy' : List Cond} {rm : Room} {index n maxL mc ms : Nat} {bytes : ByteArray} {ret : Option FieldType} {hh : List (Nat × Nat × Nat × Nat)} {As : List Value} {v : Int32} (hM : kIl y wy rm cy As mid v mid1 mc ms)
    (hG : GoodIn ts (va_wsS own index y wy)) (hwy : wy = Cond.codeWith y bytes maxL ret hh :: wy') (hrc : rm.cells = mc) (hrs : rm.slots = ms) (hdd : y.cls ≠ "java/lang/invoke/MethodHandle" ∧ y.cls ≠ "java/lang/invoke/VarHandle" ∧ (parseMethodDescriptor y.desc).map (fun d => d.parameters.length) = some n)
    (hR : rm.frames + 1 ≤ (xR X).frames ∧ 8 + (maxL + 11) + rm.locals ≤ (xR X).locals) (hcs : ce + mc ≤ (xR X).cells ∧ sl + ms ≤ (xR X).slots)
    (hn : As.length = n) (hst : st = As.reverse ++ rest) (hcat : (rest.map fun v => v.category).sum ≤ 8)
    (hw : w = pre ++ (mid ++ post)) (hw2 : pre ++ (mid1 ++ post) = w2) (hd : decode cc pc = .ok (.invokestatic index, 3)) (hq : pc + 3 = q)
    (g : kG X nL (ce + mc) (sl + ms) w2 q fr (.int v :: rest)) : kG X nL ce sl w pc fr st := by
  intro H locs ls hP hD hS hl
  subst hw; subst hw2; subst hq; subst hst
  have hF := k_free (D := xD X) (cl := vwCl) hD hS C.2.2.2.2.2.2
  refine va_calli (vx_runSW (As := As) (rest := rest) ⟨C.1, C.2.1, C.2.2.1, C.2.2.2.1, C.2.2.2.2.1⟩ (hM (xL X) hst0 (xD X) H.size) (vx_cwSW n C.2.2.2.2.1 hG hwy hrc hrs hdd hR) ⟨kPreZ_blind, kPreZ_intro hP hD C.2.2.2.2.2.1 hS C.2.2.2.2.2.2 Z⟩ rfl hn hl.1 rfl (by show 2 * 0 + _ ≤ 8; omega) hd hcs) hS (fun q _ h => hF q h) hF (fun r u t H1 locs ht hvm hw hB hz1 hk1 hS => ?_)
  obtain ⟨hP1, hK1, hD1⟩ := hB
  rw [ht] at hP1
  obtain ⟨hP, hD⟩ := k_join hP hD hk1 hF hP1 hD1
  rw [hw]
  exact g H1 locs ls hP hD hS hl
/-- a call of a law method that may make cells -/
theorem k_callSLc (C : kC X nL own cc ts cy) (Z : kZ (xA X) (xS X) (xS X).heap) (hst0 : (xL X).stackTraces = false) {y : MethodName} {wy wy' : List Cond} {rm : Room} {index n maxL mc ms : Nat} {bytes : ByteArray} {ret : Option FieldType} {As : List Value} {v : Int32} (hM : kIl y wy rm cy As mid v mid1 mc ms)
    (hG : GoodIn ts (va_wsS own index y wy)) (hwy : wy = Cond.code y bytes maxL ret :: wy') (hrc : rm.cells = mc) (hrs : rm.slots = ms) (hdd : y.cls ≠ "java/lang/invoke/MethodHandle" ∧ y.cls ≠ "java/lang/invoke/VarHandle" ∧ (parseMethodDescriptor y.desc).map (fun d => d.parameters.length) = some n)
    (hR : rm.frames + 1 ≤ (xR X).frames ∧ 8 + (maxL + 11) + rm.locals ≤ (xR X).locals) (hcs : ce + mc ≤ (xR X).cells ∧ sl + ms ≤ (xR X).slots)
    (hn : As.length = n) (hst : st = As.reverse ++ rest) (hcat : (rest.map fun v => v.category).sum ≤ 8)
    (hw : w = pre ++ (mid ++ post)) (hw2 : pre ++ (mid1 ++ post) = w2) (hd : decode cc pc = .ok (.invokestatic index, 3)) (hq : pc + 3 = q)
    (g : kG X nL (ce + mc) (sl + ms) w2 q fr (.int v :: rest)) : kG X nL ce sl w pc fr st := by
  intro H locs ls hP hD hS hl
  subst hw; subst hw2; subst hq; subst hst
  have hF := k_free (D := xD X) (cl := vwCl) hD hS C.2.2.2.2.2.2
  refine va_calli (va_runS (As := As) (rest := rest) ⟨C.1, C.2.1, C.2.2.1, C.2.2.2.1, C.2.2.2.2.1⟩ (hM (xL X) hst0 (xD X) H.size) (va_cwS n C.2.2.2.2.1 hG hwy hrc hrs hdd hR) ⟨kPreZ_blind, kPreZ_intro hP hD C.2.2.2.2.2.1 hS C.2.2.2.2.2.2 Z⟩ rfl hn hl.1 rfl (by show 2 * 0 + _ ≤ 8; omega) hd hcs) hS (fun q _ h => hF q h) hF (fun r u t H1 locs ht hvm hw hB hz1 hk1 hS => ?_)
  obtain ⟨hP1, hK1, hD1⟩ := hB
  rw [ht] at hP1
  obtain ⟨hP, hD⟩ := k_join hP hD hk1 hF hP1 hD1
  rw [hw]
  exact g H1 locs ls hP hD hS hl
/-- the same, a long method -/
theorem k_callSLl (C : kC X nL own cc ts cy) (Z : kZ (xA X) (xS X) (xS X).heap) (hst0 : (xL X).stackTraces = false) {y : MethodName} {wy wy' : List Cond} {rm : Room} {index n maxL mc ms : Nat} {bytes : ByteArray} {ret : Option FieldType} {As : List Value} {v : Int64} (hM : kLl y wy rm cy As mid v mid1 mc ms)
    (hG : GoodIn ts (va_wsS own index y wy)) (hwy : wy = Cond.code y bytes maxL ret :: wy') (hrc : rm.cells = mc) (hrs : rm.slots = ms) (hdd : y.cls ≠ "java/lang/invoke/MethodHandle" ∧ y.cls ≠ "java/lang/invoke/VarHandle" ∧ (parseMethodDescriptor y.desc).map (fun d => d.parameters.length) = some n)
    (hR : rm.frames + 1 ≤ (xR X).frames ∧ 8 + (maxL + 11) + rm.locals ≤ (xR X).locals) (hcs : ce + mc ≤ (xR X).cells ∧ sl + ms ≤ (xR X).slots)
    (hn : As.length = n) (hst : st = As.reverse ++ rest) (hcat : (rest.map fun v => v.category).sum ≤ 8)
    (hw : w = pre ++ (mid ++ post)) (hw2 : pre ++ (mid1 ++ post) = w2) (hd : decode cc pc = .ok (.invokestatic index, 3)) (hq : pc + 3 = q)
    (g : kG X nL (ce + mc) (sl + ms) w2 q fr (.long v :: rest)) : kG X nL ce sl w pc fr st := by
  intro H locs ls hP hD hS hl
  subst hw; subst hw2; subst hq; subst hst
  have hF := k_free (D := xD X) (cl := vwCl) hD hS C.2.2.2.2.2.2
  refine va_calll (va_runS (As := As) (rest := rest) ⟨C.1, C.2.1, C.2.2.1, C.2.2.2.1, C.2.2.2.2.1⟩ (hM (xL X) hst0 (xD X) H.size) (va_cwS n C.2.2.2.2.1 hG hwy hrc hrs hdd hR) ⟨kPreZ_blind, kPreZ_intro hP hD C.2.2.2.2.2.1 hS C.2.2.2.2.2.2 Z⟩ rfl hn hl.1 rfl (by show 2 * 0 + _ ≤ 8; omega) hd hcs) hS (fun q _ h => hF q h) hF (fun r u t H1 locs ht hvm hw hB hz1 hk1 hS => ?_)
  obtain ⟨hP1, hK1, hD1⟩ := hB
  rw [ht] at hP1
  obtain ⟨hP, hD⟩ := k_join hP hD hk1 hF hP1 hD1
  rw [hw]
  exact g H1 locs ls hP hD hS hl
/-- a call of a wrapper that does not throw here -/
theorem k_callSIw (C : kC X nL own cc ts cy) {y : MethodName} {wy wy' : List Cond} {rm : Room} {index n maxL : Nat} {bytes : ByteArray} {ret : Option FieldType} {hh : List (Nat × Nat × Nat × Nat)} {As : List Value} {v : Int32} (hM : kI y wy rm cy As mid v mid1)
    (hG : GoodIn ts (va_wsS own index y wy)) (hwy : wy = Cond.codeWith y bytes maxL ret hh :: wy') (hrc : rm.cells = 0) (hrs : rm.slots = 0) (hdd : y.cls ≠ "java/lang/invoke/MethodHandle" ∧ y.cls ≠ "java/lang/invoke/VarHandle" ∧ (parseMethodDescriptor y.desc).map (fun d => d.parameters.length) = some n)
    (hR : rm.frames + 1 ≤ (xR X).frames ∧ 8 + (maxL + 11) + rm.locals ≤ (xR X).locals) (hcs : ce ≤ (xR X).cells ∧ sl ≤ (xR X).slots)
    (hn : As.length = n) (hst : st = As.reverse ++ rest) (hcat : (rest.map fun v => v.category).sum ≤ 8)
    (hw : w = pre ++ (mid ++ post)) (hw2 : pre ++ (mid1 ++ post) = w2) (hd : decode cc pc = .ok (.invokestatic index, 3)) (hq : pc + 3 = q)
    (g : kG X nL (ce) (sl) w2 q fr (.int v :: rest)) : kG X nL ce sl w pc fr st := by
  intro H locs ls hP hD hS hl
  subst hw; subst hw2; subst hq; subst hst
  have hF := k_free (D := xD X) (cl := vwCl) hD hS C.2.2.2.2.2.2
  refine va_calli (vx_runSW (As := As) (rest := rest) ⟨C.1, C.2.1, C.2.2.1, C.2.2.2.1, C.2.2.2.2.1⟩ (hM (xL X) (xD X) H.size) (vx_cwSW n C.2.2.2.2.1 hG hwy hrc hrs hdd hR) ⟨kPre_blind, kPre_intro hP hD C.2.2.2.2.2.1⟩ rfl hn hl.1 rfl (by show 2 * 0 + _ ≤ 8; omega) hd hcs) hS (fun q _ h => hF q h) hF (fun r u t H1 locs ht hvm hw hB hz1 hk1 hS => ?_)
  obtain ⟨hP1, hK1, hD1⟩ := hB
  rw [ht] at hP1
  obtain ⟨hP, hD⟩ := k_join hP hD hk1 hF hP1 hD1
  rw [hw]
  exact g H1 locs ls hP hD hS hl
theorem k_lconst (C : kC X nL own cc ts cy) {n : Fin 2} {v : Int64} (hd : decode cc pc = .ok (.lconst n, 1)) (hv : Int64.ofNat (n : Nat) = v) (hq : pc + 1 = q) (g : kG X nL ce sl w q fr (.long v :: st)) : kG X nL ce sl w pc fr st := fun H locs ls hP hD hS hl => by subst hq; exact lv_lconst C.1 C.2.1 hd hv (g H locs ls hP hD hS hl)
theorem k_fcmp (C : kC X nL own cc ts cy) {x y : UInt32} {op : CmpOp} (hd : decode cc pc = .ok (.fcmp op, 1)) (hq : pc + 1 = q) (g : kG X nL ce sl w q fr (.int (Op.cmpValue (FP.fcmp x y) op) :: st)) : kG X nL ce sl w pc fr (.float y :: .float x :: st) := fun H locs ls hP hD hS hl => by subst hq; exact lv_fcmp C.1 C.2.1 hd (g H locs ls hP hD hS hl)
theorem k_slen (C : kC X nL own cc ts cy) {b L : Nat} {xs : Nat → Int32} (hX : va_X b L xs (xS X) (xS X).heap) (hbl : b < (xS X).heap.size) (hbA : ¬ (xA X) b) (hd : decode cc pc = .ok (.arraylength, 1)) (hq : pc + 1 = q) (g : kG X nL ce sl w q fr (.int (nI L) :: st)) : kG X nL ce sl w pc fr (.ref b :: st) :=
  fun H locs ls hP hD hS hl => by subst hq; exact va_slen C.1 C.2.1 hX hbl hbA hS hd (g H locs ls hP hD hS hl)
theorem kZ_d {A : Nat → Prop} {s : State} {H : Heap} {d0 d : Drawn} (h : kZ A (s.setDrawn d0) H) : kZ A (s.setDrawn d) H :=
  kZ.go (s := s.setDrawn d0) (U := s.setDrawn d) (State.WarmedH.refl (s.setDrawn d0)) (Nat.le_refl _) (fun _ _ _ => rfl) (fun _ h => h) h
end KLAW
theorem k_cells {X : kX} {rm : Room} (hR : xR X = rm) (h : 1 ≤ rm.cells ∧ 6 ≤ rm.slots) : 0 + 1 ≤ (xR X).cells ∧ 0 + 6 ≤ (xR X).slots := by rw [hR]; exact ⟨by omega, by omega⟩
theorem k_cs {X : kX} {rm : Room} {a b ce sl : Nat} (hR : xR X = rm) (h1 : rm.cells = a) (h2 : rm.slots = b) (h : ce ≤ a ∧ sl ≤ b) : ce ≤ (xR X).cells ∧ sl ≤ (xR X).slots := by rw [hR, h1, h2]; exact h
theorem k_pre {p x : va_W} : p ++ x = p ++ (x ++ []) := by rw [List.append_nil]
