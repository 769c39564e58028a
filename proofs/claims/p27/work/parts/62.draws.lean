/-! a boolean method that may draw, and leaves something unnamed -/
def kD {S : Type} (y : MethodName) (wy : List Cond) (rm : Room) (cy : Nat → ClassId) (av : List Value) (w0 : va_W) (v : Int32) (w1 : S → va_W) : Prop :=
  ∀ (l : Launch) (D : va_G) (sz : Nat), MetD lw_cs l y wy rm (kPre D cy av sz w0) (va_Qi (fun r (_ : S) => r = v) (fun u t => kB D cy sz w0 (w1 u) t) (va_A w0 sz)) 0 0 (va_A w0 sz)
def kEndD {S : Type} (X : kX) (nL : Nat) (cc : ByteArray) (v : Int32) (w1 : S → va_W) : Prop :=
  ∃ (s0 : State) (d0 : Drawn), xS X = s0.setDrawn d0 ∧ s0.drawn.sameBut d0 lw_cs ∧ ∀ d, s0.drawn.sameBut d lw_cs → ∀ (u : S) (pc : Nat) (fr : List (Nat × Value)), decode cc pc = .ok (.ireturn, 1) → kG (kXs X (s0.setDrawn d)) nL 0 0 (w1 u) pc fr [.int v]
section KD
variable {X : kX} {nL ce sl pc q : Nat} {own : String} {cc : ByteArray} {ts : List Cond} {cy : Nat → ClassId} {w pre mid post : va_W} {fr : List (Nat × Value)} {st rest : List Value}
set_option maxHeartbeats 4000000 in
theorem kD_of {S : Type} {y : MethodName} {wy wy' : List Cond} {rm : Room} {av : List Value} {w0 : va_W} {v : Int32} {w1 : S → va_W} {maxL : Nat} (hy : plainName y.cls = true) (hw : wy = Cond.code y cc maxL (some .boolean) :: wy') (hnb : narrow .boolean (.int v) = .int v) (hlen : (lg_sl av).length ≤ maxL)
    (body : ∀ X : kX, xR X = rm → kC X maxL y.cls cc wy cy → kEndD X maxL cc v w1 → kG X maxL 0 0 w0 0 (lv_args 0 av) []) : kD y wy rm cy av w0 v w1 := by
  intro l D sz
  refine MetD.ofW (cc := cc) (maxL := maxL) (ret := some .boolean) hy hw ?_
  intro p e s m args below meth c s₁ B hml hv hd0
  obtain ⟨rfl, hsz, hP, hK, hD0⟩ := hv
  have hx := B.exec
  have hb := B.bytes
  have hr := B.returns
  have hts := atoms_spec (ws := wy) B.pre
  have hown : s.vm.findClass y.cls = some m.cls := findClass_of_methodNamed B.named
  have hlocks := B.notSynchronized
  subst hsz
  have hD := hD0.self (sz := s.heap.size)
  have hA : ∀ q : Nat, s.heap.size ≤ q → va_A w0 s.heap.size q := fun q h => Or.inr h
  have hS : va_S (va_A w0 s.heap.size) s.heap s.heap [] := va_S.rf
  have hl := lv_entry av (n := maxL) hlen
  rw [lg_entry_eq]
  generalize (lg_sl av ++ List.replicate (maxL - (lg_sl av).length) Slot.unset).toArray = ls at hl ⊢
  exact body (p, l, e, (headSpec wy rm).room, s.setDrawn s.drawn, m, av.toArray, below, meth, c, MQD lw_cs below (va_Qi (fun r (_ : S) => r = v) (fun u t => kB D cy s.heap.size w0 (w1 u) t) (va_A w0 s.heap.size)) av.toArray s 0 0 (va_A w0 s.heap.size), D, va_A w0 s.heap.size) rfl ⟨hx, hb, hml, hown, dr_words hts _, hK, hA⟩
    ⟨s, s.drawn, rfl, hd0, fun d hd u pc fr hdg H locs ls hP hD hS _ => W.endD hd (W.zret hx hb hr hnb (fun t ht hW => ⟨⟨v, u, rfl, rfl, by rw [ht]; exact hP, va_K.moved hW.alike hK, hD⟩, hS.F ht⟩) hS.2.2 hdg hlocks)⟩ s.heap [] ls hP hD hS hl
theorem k_callSD {s0 : State} {d0 : Drawn} (C : kC X nL own cc ts cy) (hs : xS X = s0.setDrawn d0) (hd0 : s0.drawn.sameBut d0 lw_cs) {y : MethodName} {wy wy' : List Cond} {rm : Room} {index n maxL : Nat} {bytes : ByteArray} {ret : Option FieldType} {As : List Value} {v : Int32} {S : Type} {mid1 : S → va_W} {w2 : S → va_W} (hM : kD y wy rm cy As mid v mid1)
    (hG : GoodIn ts (va_wsS own index y wy)) (hwy : wy = Cond.code y bytes maxL ret :: wy') (hrc : rm.cells = 0) (hrs : rm.slots = 0) (hdd : y.cls ≠ "java/lang/invoke/MethodHandle" ∧ y.cls ≠ "java/lang/invoke/VarHandle" ∧ (parseMethodDescriptor y.desc).map (fun d => d.parameters.length) = some n)
    (hR : rm.frames + 1 ≤ (xR X).frames ∧ 8 + (maxL + 11) + rm.locals ≤ (xR X).locals) (hcs : ce ≤ (xR X).cells ∧ sl ≤ (xR X).slots)
    (hn : As.length = n) (hst : st = As.reverse ++ rest) (hcat : (rest.map fun v => v.category).sum ≤ 8)
    (hw : w = pre ++ (mid ++ post)) (hw2 : ∀ u, pre ++ (mid1 u ++ post) = w2 u) (hd : decode cc pc = .ok (.invokestatic index, 3)) (hq : pc + 3 = q)
    (g : ∀ u d, s0.drawn.sameBut d lw_cs → kG (kXs X (s0.setDrawn d)) nL ce sl (w2 u) q fr (.int v :: rest)) : kG X nL ce sl w pc fr st := by
  obtain ⟨p, l, e, R, s, m, args, below, meth, c, Q, D, A⟩ := X
  have hs : s = s0.setDrawn d0 := hs
  subst hs
  intro H locs ls hP hD hS hl
  subst hw; subst hq; subst hst
  have hF := k_free (D := D) (cl := vwCl) hD hS C.2.2.2.2.2.2
  refine va_calliD hd0 (va_runS_D (As := As) (rest := rest) ⟨C.1, C.2.1, C.2.2.1, C.2.2.2.1, C.2.2.2.2.1⟩ (hM l D H.size) (va_cwS n C.2.2.2.2.1 hG hwy hrc hrs hdd hR) ⟨kPre_blind, kPre_intro hP hD C.2.2.2.2.2.1⟩ rfl hn hl.1 rfl (by show 2 * 0 + _ ≤ 8; omega) hd ⟨by simpa using hcs.1, by simpa using hcs.2⟩) hS (fun q _ h => hF q h) hF (fun r u t H1 locs ht hvm hw hB hz1 hk1 hS d' hd' => ?_)
  obtain ⟨hP1, hK1, hD1⟩ := hB
  rw [ht] at hP1
  obtain ⟨hP, hD⟩ := k_join hP hD hk1 hF hP1 hD1
  rw [hw]
  rw [hw2 u] at hP hD
  exact g u d' hd' H1 locs ls hP hD hS hl
end KD
