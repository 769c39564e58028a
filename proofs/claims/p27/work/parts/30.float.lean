/-! floats: contracts of methods that may draw -/
def kXs (X : kX) (s : State) : kX := (X.1, X.2.1, X.2.2.1, X.2.2.2.1, s, X.2.2.2.2.2)
/-- a float method: its answer r fulfils pv r -/
def kF (y : MethodName) (wy : List Cond) (rm : Room) (cy : Nat → ClassId) (av : List Value) (w0 : va_W) (pv : UInt32 → Prop) (w1 : va_W) : Prop :=
  ∀ (l : Launch) (D : va_G) (sz : Nat), MetD lw_cs l y wy rm (kPre D cy av sz w0) (va_Qf (fun r (_ : Unit) => pv r) (fun _ t => kB D cy sz w0 w1 t) (va_A w0 sz)) 0 0 (va_A w0 sz)
def kEndF (X : kX) (nL : Nat) (cc : ByteArray) (pv : UInt32 → Prop) (w1 : va_W) : Prop :=
  ∃ (s0 : State) (d0 : Drawn), xS X = s0.setDrawn d0 ∧ s0.drawn.sameBut d0 lw_cs ∧ ∀ d, s0.drawn.sameBut d lw_cs → ∀ (pc : Nat) (fr : List (Nat × Value)) (v : UInt32), pv v → decode cc pc = .ok (.freturn, 1) → kG (kXs X (s0.setDrawn d)) nL 0 0 w1 pc fr [.float v]
theorem kXs_self {X : kX} {s : State} (h : xS X = s) : kXs X s = X := by subst h; rfl
section KF
variable {X : kX} {nL ce sl pc q : Nat} {own : String} {cc : ByteArray} {ts : List Cond} {cy : Nat → ClassId} {w w1 w2 pre mid mid1 post : va_W} {fr : List (Nat × Value)} {st rest : List Value}
theorem k_i2f (C : kC X nL own cc ts cy) {x : Int32} (hd : decode cc pc = .ok (.i2f, 1)) (hq : pc + 1 = q) (g : kG X nL ce sl w q fr (.float (FP.i2f x) :: st)) : kG X nL ce sl w pc fr (.int x :: st) := fun H locs ls hP hD hS hl => by subst hq; exact lv_i2f C.1 C.2.1 hd (g H locs ls hP hD hS hl)
theorem k_fconst0 (C : kC X nL own cc ts cy) (hd : decode cc pc = .ok (.fconst 0, 1)) (hq : pc + 1 = q) (g : kG X nL ce sl w q fr (.float FP.fconst0 :: st)) : kG X nL ce sl w pc fr st := fun H locs ls hP hD hS hl => by subst hq; exact lv_fconst0 C.1 C.2.1 hd (g H locs ls hP hD hS hl)
theorem k_finF {pv : UInt32 → Prop} {v : UInt32} (E : kEndF X nL cc pv w1) (hd : decode cc pc = .ok (.freturn, 1)) (hv : pv v) (hw : w = w1) : kG X nL 0 0 w pc fr [.float v] := by
  obtain ⟨s0, d0, hs, hd0, E⟩ := E
  have := E d0 hd0 pc fr v hv hd
  rw [kXs_self hs] at this
  rw [hw]; exact this
theorem kC_d {s0 : State} {d0 d : Drawn} (C : kC X nL own cc ts cy) (hs : xS X = s0.setDrawn d0) : kC (kXs X (s0.setDrawn d)) nL own cc ts cy := by
  obtain ⟨c1, c2, c3, c4, c5, c6, c7⟩ := C
  rw [hs] at c4 c5 c6 c7
  refine ⟨c1, c2, c3, c4, fun w hw => ?_, va_K.moved (u := s0.setDrawn d0) (U := s0.setDrawn d) (Vm.Alike.refl s0.vm) c6, c7⟩
  have z := c5 w hw
  rw [Cond.before_setDrawn] at z
  exact (Cond.before_setDrawn _ s0 d w).trans z
theorem k_fdiv {s0 : State} {d0 : Drawn} (C : kC X nL own cc ts cy) (hs : xS X = s0.setDrawn d0) (hd0 : s0.drawn.sameBut d0 lw_cs) {x y : UInt32} (hd : decode cc pc = .ok (.fdiv, 1)) (hq : pc + 1 = q)
    (g : ∀ r d, alike32 r (FP.fdiv x y) = true → s0.drawn.sameBut d lw_cs → kG (kXs X (s0.setDrawn d)) nL ce sl w q fr (.float r :: st)) : kG X nL ce sl w pc fr (.float y :: .float x :: st) := by
  obtain ⟨p, l, e, R, s, m, args, below, meth, c, Q, D, A⟩ := X
  have hs : s = s0.setDrawn d0 := hs
  subst hs; subst hq
  intro H locs ls hP hD hS hl
  exact lv_fdiv_any hd0 lw_bits C.1 C.2.1 hd (fun r d hal hd1 => g r d hal hd1 H locs ls hP hD hS hl)
theorem k_fdvR {pv : UInt32 → Prop} {x y : UInt32} (E : kEndF X nL cc pv w1) (C : kC X nL own cc ts cy) (hd : decode cc pc = .ok (.fdiv, 1)) (hr : decode cc (pc + 1) = .ok (.freturn, 1)) (hv : ∀ r, alike32 r (FP.fdiv x y) = true → pv r) (hw : w = w1) : kG X nL 0 0 w pc fr [.float y, .float x] := by
  obtain ⟨s0, d0, hs, hd0, E⟩ := E
  refine k_fdiv (q := pc + 1) C hs hd0 hd rfl (fun r d hal hd1 => ?_)
  rw [hw]; exact E d hd1 _ fr r (hv r hal) hr
theorem k_fdvG {pv : UInt32 → Prop} {x y : UInt32} {off : Int} {tgt : Nat} (E : kEndF X nL cc pv w1) (C : kC X nL own cc ts cy) (hd : decode cc pc = .ok (.fdiv, 1)) (hg : decode cc (pc + 1) = .ok (.goto off, 3)) (ht : ((pc + 1 : Nat) : Int) + off = (tgt : Int)) (hr : decode cc tgt = .ok (.freturn, 1)) (hv : ∀ r, alike32 r (FP.fdiv x y) = true → pv r) (hw : w = w1) : kG X nL 0 0 w pc fr [.float y, .float x] := by
  obtain ⟨s0, d0, hs, hd0, E⟩ := E
  refine k_fdiv (q := pc + 1) C hs hd0 hd rfl (fun r d hal hd1 => ?_)
  refine k_goto (q := tgt) (kC_d C hs) hg ht ?_
  rw [hw]; exact E d hd1 _ fr r (hv r hal) hr
set_option maxHeartbeats 4000000 in
theorem kF_of {y : MethodName} {wy wy' : List Cond} {rm : Room} {av : List Value} {w0 : va_W} {pv : UInt32 → Prop} {maxL : Nat} (hy : plainName y.cls = true) (hw : wy = Cond.code y cc maxL (some .float) :: wy') (hlen : (lg_sl av).length ≤ maxL)
    (body : ∀ X : kX, xR X = rm → kC X maxL y.cls cc wy cy → kEndF X maxL cc pv w1 → kG X maxL 0 0 w0 0 (lv_args 0 av) []) : kF y wy rm cy av w0 pv w1 := by
  intro l D sz
  refine MetD.ofW (cc := cc) (maxL := maxL) (ret := some .float) hy hw ?_
  intro p e s m args below meth c s₁ B hml hv hd0
  obtain ⟨rfl, hsz, hP, hK, hD0⟩ := hv
  have hx := B.exec
  have hb := B.bytes
  have hr := B.returns
  have hts := atoms_spec (ws := wy) B.pre
  have hown : s.vm.findClass y.cls = some m.cls := findClass_of_methodNamed B.named
  have hlocks := B.notSynchronized
  subst hsz
  have hD := hD0.self (sz := s.heap.size)
  have hA : ∀ q : Nat, s.heap.size ≤ q → va_A w0 s.heap.size q := fun q h => Or.inr h
  have hS : va_S (va_A w0 s.heap.size) s.heap s.heap [] := va_S.rf
  have hl := lv_entry av (n := maxL) hlen
  rw [lg_entry_eq]
  generalize (lg_sl av ++ List.replicate (maxL - (lg_sl av).length) Slot.unset).toArray = ls at hl ⊢
  exact body (p, l, e, (headSpec wy rm).room, s.setDrawn s.drawn, m, av.toArray, below, meth, c, MQD lw_cs below (va_Qf (fun r (_ : Unit) => pv r) (fun _ t => kB D cy s.heap.size w0 w1 t) (va_A w0 s.heap.size)) av.toArray s 0 0 (va_A w0 s.heap.size), D, va_A w0 s.heap.size) rfl ⟨hx, hb, hml, hown, dr_words hts _, hK, hA⟩
    ⟨s, s.drawn, rfl, hd0, fun d hd pc fr v hpv hdg H locs ls hP hD hS _ => W.endD hd (W.fret hx hb hr (fun t ht hW => ⟨⟨v, (), rfl, hpv, by rw [ht]; exact hP, va_K.moved hW.alike hK, hD⟩, hS.F ht⟩) hS.2.2 hdg hlocks)⟩ s.heap [] ls hP hD hS hl
theorem k_callVF {s0 : State} {d0 : Drawn} (C : kC X nL own cc ts cy) (hs : xS X = s0.setDrawn d0) (hd0 : s0.drawn.sameBut d0 lw_cs) {y : MethodName} {wy wy' : List Cond} {rm : Room} {index n maxL b ci : Nat} {bytes : ByteArray} {ret : Option FieldType} {As : List Value} {pv : UInt32 → Prop} {c3 : vw_C} {fs : List Value} (hM : kF y wy rm cy (.ref b :: As) mid pv mid1)
    (hG : GoodIn ts (wsV own index c3.1 y wy)) (hwy : wy = Cond.code y bytes maxL ret :: wy') (hrc : rm.cells = 0) (hrs : rm.slots = 0) (hdd : y.cls = c3.1 ∧ y.cls ≠ "java/lang/invoke/MethodHandle" ∧ y.cls ≠ "java/lang/invoke/VarHandle" ∧ (parseMethodDescriptor y.desc).map (fun d => d.parameters.length) = some n)
    (hR : rm.frames + 1 ≤ (xR X).frames ∧ 8 + (maxL + 11) + rm.locals ≤ (xR X).locals) (hcs : ce ≤ (xR X).cells ∧ sl ≤ (xR X).slots)
    (hc3 : vwCl[ci]? = some c3) (qr : Nat) (hrecv : mid[qr]? = some (b, .inr (ci, fs))) (hn : As.length = n) (hst : st = As.reverse ++ .ref b :: rest) (hcat : (rest.map fun v => v.category).sum ≤ 8)
    (hw : w = pre ++ (mid ++ post)) (hw2 : pre ++ (mid1 ++ post) = w2) (hd : decode cc pc = .ok (.invokevirtual index, 3)) (hq : pc + 3 = q)
    (g : ∀ r d, pv r → s0.drawn.sameBut d lw_cs → kG (kXs X (s0.setDrawn d)) nL ce sl w2 q fr (.float r :: rest)) : kG X nL ce sl w pc fr st := by
  obtain ⟨p, l, e, R, s, m, args, below, meth, c, Q, D, A⟩ := X
  have hs : s = s0.setDrawn d0 := hs
  subst hs
  intro H locs ls hP hD hS hl
  subst hw; subst hw2; subst hq; subst hst
  have hF := k_free (D := D) (cl := vwCl) hD hS C.2.2.2.2.2.2
  refine va_callfD hd0 (va_runV_D (As := As) (rest := rest) ⟨C.1, C.2.1, C.2.2.1, C.2.2.2.1, C.2.2.2.2.1⟩ (hM l D H.size) (cwV n C.2.2.2.2.1 hG hwy hrc hrs hdd hR) ⟨kPre_blind, va_recv C.2.2.2.2.2.1 (kP_mid hP) hc3 hrecv, kPre_intro hP hD C.2.2.2.2.2.1⟩ rfl hn hl.1 rfl (by show 2 * 0 + _ ≤ 8; omega) hd ⟨by simpa using hcs.1, by simpa using hcs.2⟩) hS (fun q _ h => hF q h) hF (fun r u t H1 locs ht hvm hw hB hz1 hk1 hS d' hd' => ?_)
  obtain ⟨hP1, hK1, hD1⟩ := hB
  rw [ht] at hP1
  obtain ⟨hP, hD⟩ := k_join hP hD hk1 hF hP1 hD1
  exact g r d' hw hd' H1 locs ls hP hD hS hl
theorem k_callVFR {y : MethodName} {wy wy' : List Cond} {rm : Room} {index n maxL b ci : Nat} {bytes : ByteArray} {ret : Option FieldType} {As : List Value} {pv pv1 : UInt32 → Prop} {c3 : vw_C} {fs : List Value} (E : kEndF X nL cc pv1 w1) (C : kC X nL own cc ts cy) (hM : kF y wy rm cy (.ref b :: As) mid pv mid1)
    (hG : GoodIn ts (wsV own index c3.1 y wy)) (hwy : wy = Cond.code y bytes maxL ret :: wy') (hrc : rm.cells = 0) (hrs : rm.slots = 0) (hdd : y.cls = c3.1 ∧ y.cls ≠ "java/lang/invoke/MethodHandle" ∧ y.cls ≠ "java/lang/invoke/VarHandle" ∧ (parseMethodDescriptor y.desc).map (fun d => d.parameters.length) = some n)
    (hR : rm.frames + 1 ≤ (xR X).frames ∧ 8 + (maxL + 11) + rm.locals ≤ (xR X).locals) (hcs : 0 ≤ (xR X).cells ∧ 0 ≤ (xR X).slots)
    (hc3 : vwCl[ci]? = some c3) (qr : Nat) (hrecv : mid[qr]? = some (b, .inr (ci, fs))) (hn : As.length = n) (hst : st = As.reverse ++ [.ref b])
    (hw : w = pre ++ (mid ++ post)) (hw2 : pre ++ (mid1 ++ post) = w1) (hd : decode cc pc = .ok (.invokevirtual index, 3)) (hr : decode cc (pc + 3) = .ok (.freturn, 1)) (hv : ∀ r, pv r → pv1 r) : kG X nL 0 0 w pc fr st := by
  obtain ⟨s0, d0, hs, hd0, E⟩ := E
  exact k_callVF C hs hd0 hM hG hwy hrc hrs hdd hR hcs hc3 qr hrecv hn hst (Nat.zero_le _) hw hw2 hd rfl (fun r d hpv hd1 => E d hd1 _ fr r (hv r hpv) hr)
end KF
/-! the mean error -/
def mEs (nm : Nat → Int32) : Nat → Int32
  | 0 => 0
  | k + 1 => mEs nm k + (if nm (4 * k) = -99999 then 0 else mAbs (nm (4 * k + 2)))
def mEm (nm : Nat → Int32) : Nat → Nat
  | 0 => 0
  | k + 1 => mEm nm k + (if nm (4 * k) = -99999 then 0 else 1)
def sEs (nm : Nat → Int32) : Nat → Int32
  | 0 => 0
  | k + 1 => sEs nm k + (if nm (4 * k + 2) = -99999 then 0 else mAbs (nm (4 * k + 2)))
def sEm (nm : Nat → Int32) : Nat → Nat
  | 0 => 0
  | k + 1 => sEm nm k + (if nm (4 * k + 2) = -99999 then 0 else 1)
def fMean (many : Nat) (sum : Int32) (r : UInt32) : Prop := (many = 0 ∧ r = FP.fconst0) ∨ (0 < many ∧ alike32 r (FP.fdiv (FP.i2f sum) (FP.i2f (nI many))) = true)
theorem mEm_le (nm : Nat → Int32) : ∀ k, mEm nm k ≤ k
  | 0 => Nat.le_refl 0
  | k + 1 => by have := mEm_le nm k; unfold mEm; split <;> omega
theorem sEm_le (nm : Nat → Int32) : ∀ k, sEm nm k ≤ k
  | 0 => Nat.le_refl 0
  | k + 1 => by have := sEm_le nm k; unfold sEm; split <;> omega
