/-! contracts whose world behind holds something unnamed: u of S, of which pp u is known -/
def kIx {S : Type} (y : MethodName) (wy : List Cond) (rm : Room) (cy : Nat → ClassId) (av : List Value) (w0 : va_W) (v : Int32) (w1 : S → va_W) (pp : S → Prop) : Prop :=
  ∀ (l : Launch) (D : va_G) (sz : Nat), Met l y wy rm (kPre D cy av sz w0) (va_Qi (fun r (u : S) => r = v ∧ pp u) (fun u t => kB D cy sz w0 (w1 u) t) (va_A w0 sz)) 0 0 (va_A w0 sz)
def kVx {S : Type} (y : MethodName) (wy : List Cond) (rm : Room) (cy : Nat → ClassId) (av : List Value) (w0 : va_W) (w1 : S → va_W) (pp : S → Prop) : Prop :=
  ∀ (l : Launch) (D : va_G) (sz : Nat), Met l y wy rm (kPre D cy av sz w0) (va_Qv (fun (u : S) => pp u) (fun u t => kB D cy sz w0 (w1 u) t) (va_A w0 sz)) 0 0 (va_A w0 sz)
def kEndx {S : Type} (X : kX) (nL : Nat) (cc : ByteArray) (v : Int32) (w1 : S → va_W) (pp : S → Prop) : Prop := ∀ (u : S) (pc : Nat) (fr : List (Nat × Value)), pp u → decode cc pc = .ok (.ireturn, 1) → kG X nL 0 0 (w1 u) pc fr [.int v]
def kEndVx {S : Type} (X : kX) (nL : Nat) (cc : ByteArray) (w1 : S → va_W) (pp : S → Prop) : Prop := ∀ (u : S) (pc : Nat) (fr : List (Nat × Value)), pp u → decode cc pc = .ok (.return_, 1) → kG X nL 0 0 (w1 u) pc fr []
theorem k_finx {S : Type} {X : kX} {nL : Nat} {cc : ByteArray} {v v2 : Int32} {w : va_W} {w1 : S → va_W} {pp : S → Prop} {pc : Nat} {fr : List (Nat × Value)} (E : kEndx X nL cc v w1 pp) (u : S) (hd : decode cc pc = .ok (.ireturn, 1)) (hv : v2 = v) (hw : w = w1 u) (hp : pp u) : kG X nL 0 0 w pc fr [.int v2] := by
  rw [hv, hw]; exact E u pc fr hp hd
theorem k_finVx {S : Type} {X : kX} {nL : Nat} {cc : ByteArray} {w : va_W} {w1 : S → va_W} {pp : S → Prop} {pc : Nat} {fr : List (Nat × Value)} (E : kEndVx X nL cc w1 pp) (u : S) (hd : decode cc pc = .ok (.return_, 1)) (hw : w = w1 u) (hp : pp u) : kG X nL 0 0 w pc fr [] := by
  rw [hw]; exact E u pc fr hp hd
set_option maxHeartbeats 4000000 in
theorem kIx_of {S : Type} {y : MethodName} {wy wy' : List Cond} {rm : Room} {cy : Nat → ClassId} {av : List Value} {w0 : va_W} {w1 : S → va_W} {pp : S → Prop} {v : Int32} {cc : ByteArray} {maxL : Nat} {rt : FieldType} (hy : plainName y.cls = true) (hw : wy = Cond.code y cc maxL (some rt) :: wy') (hn : narrow rt (.int v) = .int v) (hlen : (lg_sl av).length ≤ maxL)
    (body : ∀ X : kX, xR X = rm → kC X maxL y.cls cc wy cy → kEndx X maxL cc v w1 pp → kG X maxL 0 0 w0 0 (lv_args 0 av) []) : kIx y wy rm cy av w0 v w1 pp := by
  intro l D sz
  refine Met.ofW (cc := cc) (maxL := maxL) (ret := some rt) hy hw ?_
  intro p e s m args below meth c s₁ B hml hv
  obtain ⟨rfl, hsz, hP, hK, hD0⟩ := hv
  have hx := B.exec
  have hb := B.bytes
  have hr := B.returns
  have hts := atoms_spec (ws := wy) B.pre
  have hown : s.vm.findClass y.cls = some m.cls := findClass_of_methodNamed B.named
  have hlocks := B.notSynchronized
  subst hsz
  have hD := hD0.self (sz := s.heap.size)
  have hA : ∀ q : Nat, s.heap.size ≤ q → va_A w0 s.heap.size q := fun q h => Or.inr h
  have hS : va_S (va_A w0 s.heap.size) s.heap s.heap [] := va_S.rf
  have hl := lv_entry av (n := maxL) hlen
  rw [lg_entry_eq]
  generalize (lg_sl av ++ List.replicate (maxL - (lg_sl av).length) Slot.unset).toArray = ls at hl ⊢
  exact body (p, l, e, (headSpec wy rm).room, s, m, av.toArray, below, meth, c, MQ below (va_Qi (fun r (u : S) => r = v ∧ pp u) (fun u t => kB D cy s.heap.size w0 (w1 u) t) (va_A w0 s.heap.size)) av.toArray s 0 0 (va_A w0 s.heap.size), D, va_A w0 s.heap.size) rfl ⟨hx, hb, hml, hown, hts, hK, hA⟩
    (fun u pc fr hp hd H locs ls hP hD hS _ => W.zret hx hb hr hn (fun t ht hW => ⟨⟨v, u, rfl, ⟨rfl, hp⟩, by rw [ht]; exact hP, va_K.moved hW.alike hK, hD⟩, hS.F ht⟩) hS.2.2 hd hlocks) s.heap [] ls hP hD hS hl
set_option maxHeartbeats 4000000 in
theorem kVx_of {S : Type} {y : MethodName} {wy wy' : List Cond} {rm : Room} {cy : Nat → ClassId} {av : List Value} {w0 : va_W} {w1 : S → va_W} {pp : S → Prop} {cc : ByteArray} {maxL : Nat} (hy : plainName y.cls = true) (hw : wy = Cond.code y cc maxL none :: wy') (hlen : (lg_sl av).length ≤ maxL)
    (body : ∀ X : kX, xR X = rm → kC X maxL y.cls cc wy cy → kEndVx X maxL cc w1 pp → kG X maxL 0 0 w0 0 (lv_args 0 av) []) : kVx y wy rm cy av w0 w1 pp := by
  intro l D sz
  refine Met.ofW (cc := cc) (maxL := maxL) (ret := none) hy hw ?_
  intro p e s m args below meth c s₁ B hml hv
  obtain ⟨rfl, hsz, hP, hK, hD0⟩ := hv
  have hx := B.exec
  have hb := B.bytes
  have hr := B.returns
  have hts := atoms_spec (ws := wy) B.pre
  have hown : s.vm.findClass y.cls = some m.cls := findClass_of_methodNamed B.named
  have hlocks := B.notSynchronized
  subst hsz
  have hD := hD0.self (sz := s.heap.size)
  have hA : ∀ q : Nat, s.heap.size ≤ q → va_A w0 s.heap.size q := fun q h => Or.inr h
  have hS : va_S (va_A w0 s.heap.size) s.heap s.heap [] := va_S.rf
  have hl := lv_entry av (n := maxL) hlen
  rw [lg_entry_eq]
  generalize (lg_sl av ++ List.replicate (maxL - (lg_sl av).length) Slot.unset).toArray = ls at hl ⊢
  exact body (p, l, e, (headSpec wy rm).room, s, m, av.toArray, below, meth, c, MQ below (va_Qv (fun (u : S) => pp u) (fun u t => kB D cy s.heap.size w0 (w1 u) t) (va_A w0 s.heap.size)) av.toArray s 0 0 (va_A w0 s.heap.size), D, va_A w0 s.heap.size) rfl ⟨hx, hb, hml, hown, hts, hK, hA⟩
    (fun u pc fr hp hd H locs ls hP hD hS _ => W.vret hx hb hr (fun t ht hW => ⟨⟨u, rfl, hp, by rw [ht]; exact hP, va_K.moved hW.alike hK, hD⟩, hS.F ht⟩) hS.2.2 hd hlocks) s.heap [] ls hP hD hS hl
section KCALLX
variable {S : Type} {X : kX} {nL ce sl pc q : Nat} {own : String} {cc : ByteArray} {ts : List Cond} {cy : Nat → ClassId} {w pre mid post : va_W} {mid1 w2 : S → va_W} {pp : S → Prop} {fr : List (Nat × Value)} {st rest : List Value}
theorem k_callVIx (C : kC X nL own cc ts cy) {y : MethodName} {wy wy' : List Cond} {rm : Room} {index n maxL b ci : Nat} {bytes : ByteArray} {ret : Option FieldType} {As : List Value} {v : Int32} {c3 : vw_C} {fs : List Value} (hM : kIx y wy rm cy (.ref b :: As) mid v mid1 pp)
    (hG : GoodIn ts (wsV own index c3.1 y wy)) (hwy : wy = Cond.code y bytes maxL ret :: wy') (hrc : rm.cells = 0) (hrs : rm.slots = 0) (hdd : y.cls = c3.1 ∧ y.cls ≠ "java/lang/invoke/MethodHandle" ∧ y.cls ≠ "java/lang/invoke/VarHandle" ∧ (parseMethodDescriptor y.desc).map (fun d => d.parameters.length) = some n)
    (hR : rm.frames + 1 ≤ (xR X).frames ∧ 8 + (maxL + 11) + rm.locals ≤ (xR X).locals) (hcs : ce ≤ (xR X).cells ∧ sl ≤ (xR X).slots)
    (hc3 : vwCl[ci]? = some c3) (qr : Nat) (hrecv : mid[qr]? = some (b, .inr (ci, fs))) (hn : As.length = n) (hst : st = As.reverse ++ .ref b :: rest) (hcat : (rest.map fun v => v.category).sum ≤ 8)
    (hw : w = pre ++ (mid ++ post)) (hw2 : ∀ u, pre ++ (mid1 u ++ post) = w2 u) (hd : decode cc pc = .ok (.invokevirtual index, 3)) (hq : pc + 3 = q)
    (g : ∀ u, pp u → kG X nL ce sl (w2 u) q fr (.int v :: rest)) : kG X nL ce sl w pc fr st := by
  intro H locs ls hP hD hS hl
  subst hw; subst hq; subst hst
  have hF := k_free (D := xD X) (cl := vwCl) hD hS C.2.2.2.2.2.2
  refine va_calli (va_runV (As := As) (rest := rest) ⟨C.1, C.2.1, C.2.2.1, C.2.2.2.1, C.2.2.2.2.1⟩ (hM (xL X) (xD X) H.size) (cwV n C.2.2.2.2.1 hG hwy hrc hrs hdd hR) ⟨kPre_blind, va_recv C.2.2.2.2.2.1 (kP_mid hP) hc3 hrecv, kPre_intro hP hD C.2.2.2.2.2.1⟩ rfl hn hl.1 rfl (by show 2 * 0 + _ ≤ 8; omega) hd ⟨by simpa using hcs.1, by simpa using hcs.2⟩) hS (fun q _ h => hF q h) hF (fun r u t H1 locs ht hvm hw hB hz1 hk1 hS => ?_)
  obtain ⟨hP1, hK1, hD1⟩ := hB
  rw [ht] at hP1
  obtain ⟨hP, hD⟩ := k_join hP hD hk1 hF hP1 hD1
  rw [hw.1]
  rw [hw2 u] at hP hD
  exact g u hw.2 H1 locs ls hP hD hS hl
theorem k_callVVx (C : kC X nL own cc ts cy) {y : MethodName} {wy wy' : List Cond} {rm : Room} {index n maxL b ci : Nat} {bytes : ByteArray} {ret : Option FieldType} {As : List Value} {c3 : vw_C} {fs : List Value} (hM : kVx y wy rm cy (.ref b :: As) mid mid1 pp)
    (hG : GoodIn ts (wsV own index c3.1 y wy)) (hwy : wy = Cond.code y bytes maxL ret :: wy') (hrc : rm.cells = 0) (hrs : rm.slots = 0) (hdd : y.cls = c3.1 ∧ y.cls ≠ "java/lang/invoke/MethodHandle" ∧ y.cls ≠ "java/lang/invoke/VarHandle" ∧ (parseMethodDescriptor y.desc).map (fun d => d.parameters.length) = some n)
    (hR : rm.frames + 1 ≤ (xR X).frames ∧ 8 + (maxL + 11) + rm.locals ≤ (xR X).locals) (hcs : ce ≤ (xR X).cells ∧ sl ≤ (xR X).slots)
    (hc3 : vwCl[ci]? = some c3) (qr : Nat) (hrecv : mid[qr]? = some (b, .inr (ci, fs))) (hn : As.length = n) (hst : st = As.reverse ++ .ref b :: rest) (hcat : (rest.map fun v => v.category).sum ≤ 8)
    (hw : w = pre ++ (mid ++ post)) (hw2 : ∀ u, pre ++ (mid1 u ++ post) = w2 u) (hd : decode cc pc = .ok (.invokevirtual index, 3)) (hq : pc + 3 = q)
    (g : ∀ u, pp u → kG X nL ce sl (w2 u) q fr rest) : kG X nL ce sl w pc fr st := by
  intro H locs ls hP hD hS hl
  subst hw; subst hq; subst hst
  have hF := k_free (D := xD X) (cl := vwCl) hD hS C.2.2.2.2.2.2
  refine va_callv (va_runV (As := As) (rest := rest) ⟨C.1, C.2.1, C.2.2.1, C.2.2.2.1, C.2.2.2.2.1⟩ (hM (xL X) (xD X) H.size) (cwV n C.2.2.2.2.1 hG hwy hrc hrs hdd hR) ⟨kPre_blind, va_recv C.2.2.2.2.2.1 (kP_mid hP) hc3 hrecv, kPre_intro hP hD C.2.2.2.2.2.1⟩ rfl hn hl.1 rfl (by show 2 * 0 + _ ≤ 8; omega) hd ⟨by simpa using hcs.1, by simpa using hcs.2⟩) hS (fun q _ h => hF q h) hF (fun u t H1 locs ht hvm hw hB hz1 hk1 hS => ?_)
  obtain ⟨hP1, hK1, hD1⟩ := hB
  rw [ht] at hP1
  obtain ⟨hP, hD⟩ := k_join hP hD hk1 hF hP1 hD1
  rw [hw2 u] at hP hD
  exact g u hw H1 locs ls hP hD hS hl
end KCALLX
