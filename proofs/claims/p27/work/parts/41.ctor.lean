/-! constructors: new cells -/
def kNw {S : Type} (y : MethodName) (wy : List Cond) (rm : Room) (cy : Nat → ClassId) (av : List Value) (w0 : va_W) (w1 : S → va_W) (mc ms : Nat) : Prop :=
  ∀ (l : Launch) (D : va_G) (sz : Nat), Met l y wy rm (va_Pc av (fun U => U.heap.size = sz ∧ va_P D vwCl w0 U.heap ∧ va_K D vwCl (kT cy) U ∧ va_D (fun _ => True) w0 ∧ va_AO "CloudBeams$Sky" U)) (va_Qv (fun (_ : S) => True) (fun u t => kB D cy sz w0 (w1 u) t) (va_A w0 sz)) mc ms (va_A w0 sz)
def kEndN {S : Type} (X : kX) (nL : Nat) (cc : ByteArray) (w1 : S → va_W) (mc ms : Nat) : Prop := ∀ (u : S) (pc : Nat) (fr : List (Nat × Value)) (ce sl : Nat), ce ≤ mc → sl ≤ ms → decode cc pc = .ok (.return_, 1) → kG X nL ce sl (w1 u) pc fr []
theorem k_finN {S : Type} {X : kX} {nL ce sl mc ms : Nat} {cc : ByteArray} {w : va_W} {w1 : S → va_W} {pc : Nat} {fr : List (Nat × Value)} (E : kEndN X nL cc w1 mc ms) (u : S) (hc : ce ≤ mc) (hs : sl ≤ ms) (hd : decode cc pc = .ok (.return_, 1)) (hw : w = w1 u) : kG X nL ce sl w pc fr [] := by
  rw [hw]; exact E u pc fr ce sl hc hs hd
set_option maxHeartbeats 4000000 in
theorem kNw_of {S : Type} {y : MethodName} {wy wy' : List Cond} {rm : Room} {cy : Nat → ClassId} {av : List Value} {w0 : va_W} {w1 : S → va_W} {mc ms : Nat} {cc : ByteArray} {maxL : Nat} (hy : plainName y.cls = true) (hyn : y.name = "<init>") (hw : wy = Cond.code y cc maxL none :: wy') (hlen : (lg_sl av).length ≤ maxL)
    (body : ∀ X : kX, xR X = rm → kC X maxL y.cls cc wy cy → (xMeth X).name = "<init>" → va_AO "CloudBeams$Sky" (xS X) → kEndN X maxL cc w1 mc ms → kG X maxL 0 0 w0 0 (lv_args 0 av) []) : kNw y wy rm cy av w0 w1 mc ms := by
  intro l D sz
  refine Met.ofW (cc := cc) (maxL := maxL) (ret := none) hy hw ?_
  intro p e s m args below meth c s₁ B hml hv
  obtain ⟨rfl, hsz, hP, hK, hD0, hao⟩ := hv
  have hx := B.exec
  have hb := B.bytes
  have hr := B.returns
  have hts := atoms_spec (ws := wy) B.pre
  have hown : s.vm.findClass y.cls = some m.cls := findClass_of_methodNamed B.named
  have hlocks := B.notSynchronized
  have hnm : meth.name = "<init>" := (name_of_methodNamed B.named B.method).1.trans hyn
  subst hsz
  have hD := hD0.self (sz := s.heap.size)
  have hA : ∀ q : Nat, s.heap.size ≤ q → va_A w0 s.heap.size q := fun q h => Or.inr h
  have hS : va_S (va_A w0 s.heap.size) s.heap s.heap [] := va_S.rf
  have hl := lv_entry av (n := maxL) hlen
  rw [lg_entry_eq]
  generalize (lg_sl av ++ List.replicate (maxL - (lg_sl av).length) Slot.unset).toArray = ls at hl ⊢
  exact body (p, l, e, (headSpec wy rm).room, s, m, av.toArray, below, meth, c, MQ below (va_Qv (fun (_ : S) => True) (fun u t => kB D cy s.heap.size w0 (w1 u) t) (va_A w0 s.heap.size)) av.toArray s mc ms (va_A w0 s.heap.size), D, va_A w0 s.heap.size) rfl ⟨hx, hb, hml, hown, hts, hK, hA⟩ hnm hao
    (fun u pc fr ce sl hc hs hd H locs ls hP hD hS _ => W.widen hc hs (W.vret hx hb hr (fun t ht hW => ⟨⟨u, rfl, trivial, by rw [ht]; exact hP, va_K.moved hW.alike hK, hD⟩, hS.F ht⟩) hS.2.2 hd hlocks)) s.heap [] ls hP hD hS hl
section KCTOR
variable {X : kX} {nL ce sl pc q : Nat} {own : String} {cc : ByteArray} {ts : List Cond} {cy : Nat → ClassId} {w w2 pre mid mid1 post : va_W} {fr : List (Nat × Value)} {st rest : List Value}
theorem k_objI (C : kC X nL own cc ts cy) {a idx : Nat} (hlink : Cond.methodLink own idx Lib.objectInit ∈ ts) (hinst : Cond.instanceMethod Lib.objectInit ∈ ts) (hcode : Cond.code Lib.objectInit ⟨#[0xb1]⟩ 1 none ∈ ts) (hR : 1 ≤ (xR X).frames ∧ 12 ≤ (xR X).locals) (hd : decode cc pc = .ok (.invokespecial idx, 3)) (hq : pc + 3 = q) (g : kG X nL ce sl w q fr []) : kG X nL ce sl w pc fr [.ref a] := by
  intro H locs ls hP hD hS hl
  subst hq
  refine W.objInit C.1 C.2.1 C.2.2.2.1 (C.2.2.2.2.1 _ hlink) (C.2.2.2.2.1 _ hinst) (C.2.2.2.2.1 _ hcode) rfl (by rw [C.2.2.1]; exact hl.1) rfl hd hR.1 (by show 2 * 0 + 0 + 12 ≤ _; exact hR.2) ?_
  exact g H locs ls hP hD hS hl
theorem k_new (C : kC X nL own cc ts cy) {C0 : String} {T : u_T} {N ci index : Nat} {fs : List Value} (hin : ∀ w ∈ u_ws C0 T N, w ∈ ts) (ty0 : Nat → FieldType) (hty : ∀ k, k < N → parseFieldDescriptor (T k).2.2.1 = some (ty0 k)) (hcl : Cond.classLink own index C0 ∈ ts) (hinst : Cond.instantiable C0 N ∈ ts) (hini : Cond.initialized C0 ∈ ts) (hc : vwCl[ci]? = some (C0, T, N)) (hfs : ∀ j, j < N → defaultValue (ty0 j) = vp_V fs j)
    (hcs : ce + 1 ≤ (xR X).cells ∧ sl + N ≤ (xR X).slots) (hd : decode cc pc = .ok (.new index, 3)) (hq : pc + 3 = q) (g : ∀ q9 : Nat, kG X nL (ce + 1) (sl + N) (w ++ [(q9, .inr (ci, fs))]) q fr (.ref q9 :: st)) : kG X nL ce sl w pc fr st := by
  intro H locs ls hP hD hS hl
  subst hq
  exact va_new (ci := ci) (fs := fs) C.1 C.2.1 C.2.2.2.2.1 hin ty0 hty C.2.2.2.1 (C.2.2.2.2.1 _ hcl) (C.2.2.2.2.1 _ hinst) (C.2.2.2.2.1 _ hini) C.2.2.2.2.2.1 hP hD hS C.2.2.2.2.2.2 hc hfs hcs.1 hcs.2 hd (fun q9 H1 hP hD hS => g q9 H1 locs ls hP hD hS hl)
theorem k_K5 {D : va_G} {tys : List (ClassId × FieldType)} {cA cB : ClassId} {ty : FieldType} {t0 : Nat} {s : State} (h : va_K D vwCl (tys ++ [(cA, ty)]) s) (ht : tys[t0]? = some (cB, ty)) (hna : ∀ c, va_RA s c ty → s.vm.findClass ("[" ++ ty.toString) = some c) : cA = cB := by
  have h1 := (h.2 t0 (cB, ty) (by rw [List.getElem?_append_left (List.getElem?_eq_some_iff.mp ht).1]; exact ht)).2
  have h2 := (h.2 tys.length (cA, ty) (by rw [List.getElem?_append_right (Nat.le_refl _), Nat.sub_self]; rfl)).2
  exact Option.some.inj ((hna _ h2).symm.trans (hna _ h1))
theorem k_newa (C : kC X nL own cc ts cy) {atype : ArrayType} {ty : FieldType} {cB : ClassId} (t0 : Nat) (ht : (kT cy)[t0]? = some (cB, ty)) (hna : ∀ c, va_RA (xS X) c ty → (xS X).vm.findClass ("[" ++ ty.toString) = some c) (harr : Cond.arrayClass (newarray.typeOf atype) ∈ ts) (hty : newarray.typeOf atype = ty) {n : Int32} {N' : Nat} {a0 : vp_A} (ha : ∀ cA : ClassId, vp_cell cA a0 = arrV cA N' (fun _ => defaultValue ty)) (hn : ¬ n < 0) (hN : n.toNatClampNeg = N') (hby : N' * componentBytes ty ≤ 536870912)
    (hcs : ce + 1 ≤ (xR X).cells ∧ sl + N' ≤ (xR X).slots) (hd : decode cc pc = .ok (.newarray atype, 2)) (hq : pc + 2 = q) (g : ∀ q9 : Nat, kG X nL (ce + 1) (sl + N') (w ++ [(q9, .inl (cB, a0))]) q fr (.ref q9 :: st)) : kG X nL ce sl w pc fr (.int n :: st) := by
  intro H locs ls hP hD hS hl
  subst hq
  refine va_newa C.1 C.2.1 (C.2.2.2.2.1 _ harr) hty C.2.2.2.2.2.1 hP hD hS C.2.2.2.2.2.2 ha hn hN hby hcs.1 hcs.2 hd (fun q9 cA H1 hK hP hD hS => ?_)
  have e := k_K5 hK ht hna
  subst e
  exact g q9 H1 locs ls hP hD hS hl
theorem k_newq (C : kC X nL own cc ts cy) {C0 : String} {index : Nat} {cB : ClassId} (t0 : Nat) (ht : (kT cy)[t0]? = some (cB, .object C0)) (hao : va_AO C0 (xS X)) (hcl : Cond.classLink own index C0 ∈ ts) {n : Int32} {N' : Nat} (hn : ¬ n < 0) (hN : n.toNatClampNeg = N') (hby : N' * 4 ≤ 536870912)
    (hcs : ce + 1 ≤ (xR X).cells ∧ sl + N' ≤ (xR X).slots) (hd : decode cc pc = .ok (.anewarray index, 3)) (hq : pc + 3 = q) (g : ∀ q9 : Nat, kG X nL (ce + 1) (sl + N') (w ++ [(q9, .inl (cB, N', .inr (.inr (.inr (.inr (fun _ => none))))))]) q fr (.ref q9 :: st)) : kG X nL ce sl w pc fr (.int n :: st) := by
  intro H locs ls hP hD hS hl
  subst hq
  refine va_newq C.1 C.2.1 C.2.2.2.1 (C.2.2.2.2.1 _ hcl) hao C.2.2.2.2.2.1 hP hD hS C.2.2.2.2.2.2 hn hN hby hcs.1 hcs.2 hd (fun q9 cA H1 hK hP hD hS => ?_)
  have e := k_K5 hK ht (fun c h => by obtain ⟨kA, comp, -, -, -, h4⟩ := h; exact h4)
  subst e
  exact g q9 H1 locs ls hP hD hS hl
theorem k_callN {S : Type} (C : kC X nL own cc ts cy) (hao : va_AO "CloudBeams$Sky" (xS X)) {y : MethodName} {wy wy' : List Cond} {rm : Room} {index n maxL b mc ms : Nat} {bytes : ByteArray} {As : List Value} {w1 : S → va_W} {w2 : S → va_W} (hM : kNw y wy rm cy (.ref b :: As) mid w1 mc ms)
    (hG : GoodIn ts wy) (hwy : wy = Cond.code y bytes maxL none :: wy') (hrc : rm.cells = mc) (hrs : rm.slots = ms) (hini : Cond.initialized y.cls ∈ ts) (hli : Cond.methodLink own index y ∈ ts) (hin : Cond.instanceMethod y ∈ ts) (hy1 : y.name = "<init>") (hdd : y.cls ≠ "java/lang/invoke/MethodHandle" ∧ y.cls ≠ "java/lang/invoke/VarHandle" ∧ (parseMethodDescriptor y.desc).map (fun d => d.parameters.length) = some n)
    (hR : rm.frames + 1 ≤ (xR X).frames ∧ 8 + (maxL + 11) + rm.locals ≤ (xR X).locals) (hcs : ce + mc ≤ (xR X).cells ∧ sl + ms ≤ (xR X).slots)
    (hn : As.length = n) (hst : st = As.reverse ++ .ref b :: rest) (hcat : (rest.map fun v => v.category).sum ≤ 8)
    (hw : w = pre ++ (mid ++ post)) (hw2 : ∀ u, pre ++ (w1 u ++ post) = w2 u) (hd : decode cc pc = .ok (.invokespecial index, 3)) (hq : pc + 3 = q)
    (g : ∀ u, kG X nL (ce + mc) (sl + ms) (w2 u) q fr rest) : kG X nL ce sl w pc fr st := by
  intro H locs ls hP hD hS hl
  subst hw; subst hq; subst hst
  have hF := k_free (D := xD X) (cl := vwCl) hD hS C.2.2.2.2.2.2
  refine va_callv (va_runI (As := As) (rest := rest) ⟨C.1, C.2.1, C.2.2.1, C.2.2.2.1, C.2.2.2.2.1⟩ (hM (xL X) (xD X) H.size) (cwI n C.2.2.2.2.1 hG hwy hrc hrs (C.2.2.2.2.1 _ hini) (C.2.2.2.2.1 _ hli) (C.2.2.2.2.1 _ hin) hy1 hdd hR)
    ⟨fun a U g mk q => by obtain ⟨q0, q1, qP, qK, qD, qA⟩ := q; exact ⟨q0, q1, qP, va_K.moved (u := U) (U := U.calling g mk a) (Vm.Alike.refl U.vm) qK, qD, va_AO.moved (u := U) (U := U.calling g mk a) (Vm.Alike.refl U.vm) qA⟩, fun U hU hW => ⟨rfl, by rw [hU], by rw [hU]; exact kP_mid hP, va_K.moved hW.alike C.2.2.2.2.2.1, (kD_mid hD).weaken (fun _ _ _ _ => trivial), va_AO.moved hW.alike hao⟩⟩ rfl hn hl.1 rfl (by show 2 * 0 + _ ≤ 8; omega) hd hcs) hS (fun q _ h => hF q h) hF (fun u t H1 locs ht hvm _ hB hz1 hk1 hS => ?_)
  obtain ⟨hP1, hK1, hD1⟩ := hB
  rw [ht] at hP1
  obtain ⟨hP, hD⟩ := k_join hP hD hk1 hF hP1 hD1
  rw [hw2] at hP hD
  exact g u H1 locs ls hP hD hS hl
theorem k_aast (C : kC X nL own cc ts cy) {a n v ci : Nat} {r : vw_C} {vs : List Value} {f : Nat → Option Nat} {i : Int32} {cB : ClassId} (q0 t0 qk : Nat) (ha : w[q0]? = some (a, .inl (cB, n, .inr (.inr (.inr (.inr f)))))) (ht : (kT cy)[t0]? = some (cB, .object r.1)) (hv : w[qk]? = some (v, .inr (ci, vs))) (hc : vwCl[ci]? = some r) (hin : vp_in i n) (hw : w.set q0 (a, .inl (cB, n, .inr (.inr (.inr (.inr (va_up f i.toNatClampNeg (some v))))))) = w2) (hd : decode cc pc = .ok (.aastore, 1)) (hq : pc + 1 = q) (g : kG X nL ce sl w2 q fr st) : kG X nL ce sl w pc fr (.ref v :: .int i :: .ref a :: st) := by
  intro H locs ls hP hD hS hl
  subst hq; subst hw
  exact va_astq C.1 C.2.1 C.2.2.2.2.2.1 hP hD hS q0 t0 qk ci ha ht hv hc hin hd (fun H1 locs1 hP hD hS => g H1 locs1 ls hP hD hS hl)
end KCTOR
