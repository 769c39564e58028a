/-! contracts in one form: a world before, an answer, a world behind; and their calls -/
theorem kP_iff {D : va_G} {cl : List vw_C} {ws : va_W} {H : Heap} : va_P D cl ws H ↔ ∀ q ∈ ws, va_at D cl q H := by
  constructor
  · intro h q hq
    obtain ⟨i, hi⟩ := List.getElem?_of_mem hq
    exact h i q hi
  · intro h k q hk
    exact h q (List.mem_of_getElem? hk)
theorem kD_iff {A : Nat → Prop} {ws : va_W} : va_D A ws ↔ (ws.map Prod.fst).Nodup ∧ ∀ q ∈ ws, A q.1 := by
  constructor
  · intro h
    refine ⟨?_, fun q hq => ?_⟩
    · rw [List.nodup_iff_pairwise_ne, List.pairwise_iff_getElem]
      intro i j hi hj hij he
      rw [List.length_map] at hi hj
      rw [List.getElem_map, List.getElem_map] at he
      have := h.1 i j (ws[i]) (ws[j]) (List.getElem?_eq_getElem hi) (List.getElem?_eq_getElem hj) he
      omega
    · obtain ⟨i, hi⟩ := List.getElem?_of_mem hq
      exact h.2 i q hi
  · intro h
    refine ⟨fun i j p q hi hj he => ?_, fun k q hk => h.2 q (List.mem_of_getElem? hk)⟩
    obtain ⟨hi', ei⟩ := List.getElem?_eq_some_iff.mp hi
    obtain ⟨hj', ej⟩ := List.getElem?_eq_some_iff.mp hj
    have hn := h.1
    rw [List.nodup_iff_pairwise_ne, List.pairwise_iff_getElem] at hn
    rcases Nat.lt_trichotomy i j with hl | hl | hl
    · exact absurd (by rw [List.getElem_map, List.getElem_map, ei, ej]; exact he) (hn i j (by rw [List.length_map]; exact hi') (by rw [List.length_map]; exact hj') hl)
    · exact hl
    · exact absurd (by rw [List.getElem_map, List.getElem_map, ei, ej]; exact he.symm) (hn j i (by rw [List.length_map]; exact hj') (by rw [List.length_map]; exact hi') hl)
theorem kA_iff {ws : va_W} {sz q : Nat} : va_A ws sz q ↔ (∃ x ∈ ws, x.1 = q) ∨ sz ≤ q := by
  constructor
  · rintro (⟨k, e, h⟩ | h)
    · exact Or.inl ⟨_, List.mem_of_getElem? h, rfl⟩
    · exact Or.inr h
  · rintro (⟨x, hx, rfl⟩ | h)
    · obtain ⟨i, hi⟩ := List.getElem?_of_mem hx
      exact Or.inl ⟨i, x.2, hi⟩
    · exact Or.inr h
theorem kP_perm {D : va_G} {cl : List vw_C} {ws ws' : va_W} {H : Heap} (hp : ws.Perm ws') (h : va_P D cl ws H) : va_P D cl ws' H := kP_iff.mpr fun q hq => kP_iff.mp h q (hp.mem_iff.mpr hq)
theorem kD_perm {A : Nat → Prop} {ws ws' : va_W} (hp : ws.Perm ws') (h : va_D A ws) : va_D A ws' := by
  obtain ⟨h1, h2⟩ := kD_iff.mp h
  exact kD_iff.mpr ⟨(hp.map Prod.fst).nodup_iff.mp h1, fun q hq => h2 q (hp.mem_iff.mpr hq)⟩
theorem kP_mid {D : va_G} {cl : List vw_C} {pre mid post : va_W} {H : Heap} (h : va_P D cl (pre ++ (mid ++ post)) H) : va_P D cl mid H := kP_iff.mpr fun q hq => kP_iff.mp h q (by simp [hq])
theorem kD_mid {A : Nat → Prop} {pre mid post : va_W} (h : va_D A (pre ++ (mid ++ post))) : va_D A mid := by
  obtain ⟨h1, h2⟩ := kD_iff.mp h
  rw [List.map_append, List.map_append, List.nodup_append, List.nodup_append] at h1
  exact kD_iff.mpr ⟨h1.2.1.1, fun q hq => h2 q (by simp [hq])⟩
theorem k_join {D : va_G} {cl : List vw_C} {A0 : Nat → Prop} {pre mid post mid1 : va_W} {H H1 : Heap} (hP : va_P D cl (pre ++ (mid ++ post)) H) (hD : va_D A0 (pre ++ (mid ++ post)))
    (hk : ∀ q : Nat, q < H.size → ¬ va_A mid H.size q → H1[q]? = H[q]?) (hF : ∀ q, va_A mid H.size q → A0 q) (hP1 : va_P D cl mid1 H1) (hD1 : va_D (va_A mid H.size) mid1) :
    va_P D cl (pre ++ (mid1 ++ post)) H1 ∧ va_D A0 (pre ++ (mid1 ++ post)) := by
  obtain ⟨h1, h2⟩ := kD_iff.mp hD
  obtain ⟨g1, g2⟩ := kD_iff.mp hD1
  rw [List.map_append, List.map_append, List.nodup_append, List.nodup_append] at h1
  obtain ⟨n1, ⟨n2, n3, n4⟩, n5⟩ := h1
  have out : ∀ x, x ∈ pre ∨ x ∈ post → x.1 < H.size ∧ ¬ va_A mid H.size x.1 := by
    intro x hx
    have hl : x.1 < H.size := (kP_iff.mp hP x (by rcases hx with h | h <;> simp [h])).lt
    refine ⟨hl, fun h => ?_⟩
    rcases kA_iff.mp h with ⟨y, hy, e⟩ | h
    · rcases hx with hx | hx
      · exact n5 x.1 (List.mem_map_of_mem hx) y.1 (List.mem_append_left _ (List.mem_map_of_mem hy)) e.symm
      · exact n4 y.1 (List.mem_map_of_mem hy) x.1 (List.mem_map_of_mem hx) e
    · omega
  refine ⟨kP_iff.mpr fun x hx => ?_, kD_iff.mpr ⟨?_, fun x hx => ?_⟩⟩
  · rcases List.mem_append.mp hx with h | h
    · obtain ⟨a, b⟩ := out x (Or.inl h)
      exact (kP_iff.mp hP x (by simp [h])).kept (hk _ a b)
    · rcases List.mem_append.mp h with h | h
      · exact kP_iff.mp hP1 x h
      · obtain ⟨a, b⟩ := out x (Or.inr h)
        exact (kP_iff.mp hP x (by simp [h])).kept (hk _ a b)
  · rw [List.map_append, List.map_append, List.nodup_append, List.nodup_append]
    refine ⟨n1, ⟨g1, n3, ?_⟩, ?_⟩
    · intro a ha b hb e
      obtain ⟨x, hx, rfl⟩ := List.mem_map.mp ha
      obtain ⟨y, hy, rfl⟩ := List.mem_map.mp hb
      exact (out y (Or.inr hy)).2 (by rw [← e]; exact g2 x hx)
    · intro a ha b hb e
      obtain ⟨x, hx, rfl⟩ := List.mem_map.mp ha
      rcases List.mem_append.mp hb with hb | hb
      · obtain ⟨y, hy, rfl⟩ := List.mem_map.mp hb
        exact (out x (Or.inl hx)).2 (by rw [e]; exact g2 y hy)
      · exact n5 x.1 ha b (List.mem_append_right _ hb) e
  · rcases List.mem_append.mp hx with h | h
    · exact h2 x (by simp [h])
    · rcases List.mem_append.mp h with h | h
      · exact hF _ (g2 x h)
      · exact h2 x (by simp [h])
theorem k_free {D : va_G} {cl : List vw_C} {A0 : Nat → Prop} {pre mid post : va_W} {H0 H : Heap} {locs : List Loc} (hD : va_D A0 (pre ++ (mid ++ post))) (hS : va_S A0 H0 H locs) (hA : ∀ q, H0.size ≤ q → A0 q) : ∀ q, va_A mid H.size q → A0 q := by
  intro q h
  rcases kA_iff.mp h with ⟨x, hx, rfl⟩ | h
  · exact (kD_iff.mp hD).2 x (by simp [hx])
  · exact hA q (Nat.le_trans hS.1 h)
def kPre (D : va_G) (cy : Nat → ClassId) (av : List Value) (sz : Nat) (w0 : va_W) : Array Value → State → Prop := va_Pc av (fun U => U.heap.size = sz ∧ va_P D vwCl w0 U.heap ∧ va_K D vwCl (kT cy) U ∧ va_D (fun _ => True) w0)
def kB (D : va_G) (cy : Nat → ClassId) (sz : Nat) (w0 w1 : va_W) (t : State) : Prop := va_P D vwCl w1 t.heap ∧ va_K D vwCl (kT cy) t ∧ va_D (va_A w0 sz) w1
/-- an int method: from the world w0 with arguments av it answers v and leaves w1 -/
def kI (y : MethodName) (wy : List Cond) (rm : Room) (cy : Nat → ClassId) (av : List Value) (w0 : va_W) (v : Int32) (w1 : va_W) : Prop :=
  ∀ (l : Launch) (D : va_G) (sz : Nat), Met l y wy rm (kPre D cy av sz w0) (va_Qi (fun r (_ : Unit) => r = v) (fun _ t => kB D cy sz w0 w1 t) (va_A w0 sz)) 0 0 (va_A w0 sz)
/-- a void method -/
def kV (y : MethodName) (wy : List Cond) (rm : Room) (cy : Nat → ClassId) (av : List Value) (w0 : va_W) (w1 : va_W) : Prop :=
  ∀ (l : Launch) (D : va_G) (sz : Nat), Met l y wy rm (kPre D cy av sz w0) (va_Qv (fun (_ : Unit) => True) (fun _ t => kB D cy sz w0 w1 t) (va_A w0 sz)) 0 0 (va_A w0 sz)
def kEnd (X : kX) (nL : Nat) (cc : ByteArray) (v : Int32) (w1 : va_W) : Prop := ∀ (pc : Nat) (fr : List (Nat × Value)), decode cc pc = .ok (.ireturn, 1) → kG X nL 0 0 w1 pc fr [.int v]
def kEndV (X : kX) (nL : Nat) (cc : ByteArray) (w1 : va_W) : Prop := ∀ (pc : Nat) (fr : List (Nat × Value)), decode cc pc = .ok (.return_, 1) → kG X nL 0 0 w1 pc fr []
theorem k_fin {X : kX} {nL : Nat} {cc : ByteArray} {v v2 : Int32} {w w1 : va_W} {pc : Nat} {fr : List (Nat × Value)} (E : kEnd X nL cc v w1) (hd : decode cc pc = .ok (.ireturn, 1)) (hv : v2 = v) (hw : w = w1) : kG X nL 0 0 w pc fr [.int v2] := by
  rw [hv, hw]; exact E pc fr hd
theorem k_finV {X : kX} {nL : Nat} {cc : ByteArray} {w w1 : va_W} {pc : Nat} {fr : List (Nat × Value)} (E : kEndV X nL cc w1) (hd : decode cc pc = .ok (.return_, 1)) (hw : w = w1) : kG X nL 0 0 w pc fr [] := by
  rw [hw]; exact E pc fr hd
set_option maxHeartbeats 4000000 in
theorem kI_of {y : MethodName} {wy wy' : List Cond} {rm : Room} {cy : Nat → ClassId} {av : List Value} {w0 w1 : va_W} {v : Int32} {cc : ByteArray} {maxL : Nat} {rt : FieldType} (hy : plainName y.cls = true) (hw : wy = Cond.code y cc maxL (some rt) :: wy') (hn : narrow rt (.int v) = .int v) (hlen : (lg_sl av).length ≤ maxL)
    (body : ∀ X : kX, xR X = rm → kC X maxL y.cls cc wy cy → kEnd X maxL cc v w1 → kG X maxL 0 0 w0 0 (lv_args 0 av) []) : kI y wy rm cy av w0 v w1 := by
  intro l D sz
  refine Met.ofW (cc := cc) (maxL := maxL) (ret := some rt) hy hw ?_
  intro p e s m args below meth c s₁ B hml hv
  obtain ⟨rfl, hsz, hP, hK, hD0⟩ := hv
  have hx := B.exec
  have hb := B.bytes
  have hr := B.returns
  have hts := atoms_spec (ws := wy) B.pre
  have hown : s.vm.findClass y.cls = some m.cls := findClass_of_methodNamed B.named
  have hlocks := B.notSynchronized
  subst hsz
  have hD := hD0.self (sz := s.heap.size)
  have hA : ∀ q : Nat, s.heap.size ≤ q → va_A w0 s.heap.size q := fun q h => Or.inr h
  have hS : va_S (va_A w0 s.heap.size) s.heap s.heap [] := va_S.rf
  have hl := lv_entry av (n := maxL) hlen
  rw [lg_entry_eq]
  generalize (lg_sl av ++ List.replicate (maxL - (lg_sl av).length) Slot.unset).toArray = ls at hl ⊢
  exact body (p, l, e, (headSpec wy rm).room, s, m, av.toArray, below, meth, c, MQ below (va_Qi (fun r (_ : Unit) => r = v) (fun _ t => kB D cy s.heap.size w0 w1 t) (va_A w0 s.heap.size)) av.toArray s 0 0 (va_A w0 s.heap.size), D, va_A w0 s.heap.size) rfl ⟨hx, hb, hml, hown, hts, hK, hA⟩
    (fun pc fr hd H locs ls hP hD hS _ => W.zret hx hb hr hn (fun t ht hW => ⟨⟨v, (), rfl, rfl, by rw [ht]; exact hP, va_K.moved hW.alike hK, hD⟩, hS.F ht⟩) hS.2.2 hd hlocks) s.heap [] ls hP hD hS hl
set_option maxHeartbeats 4000000 in
theorem kV_of {y : MethodName} {wy wy' : List Cond} {rm : Room} {cy : Nat → ClassId} {av : List Value} {w0 w1 : va_W} {cc : ByteArray} {maxL : Nat} (hy : plainName y.cls = true) (hw : wy = Cond.code y cc maxL none :: wy') (hlen : (lg_sl av).length ≤ maxL)
    (body : ∀ X : kX, xR X = rm → kC X maxL y.cls cc wy cy → kEndV X maxL cc w1 → kG X maxL 0 0 w0 0 (lv_args 0 av) []) : kV y wy rm cy av w0 w1 := by
  intro l D sz
  refine Met.ofW (cc := cc) (maxL := maxL) (ret := none) hy hw ?_
  intro p e s m args below meth c s₁ B hml hv
  obtain ⟨rfl, hsz, hP, hK, hD0⟩ := hv
  have hx := B.exec
  have hb := B.bytes
  have hr := B.returns
  have hts := atoms_spec (ws := wy) B.pre
  have hown : s.vm.findClass y.cls = some m.cls := findClass_of_methodNamed B.named
  have hlocks := B.notSynchronized
  subst hsz
  have hD := hD0.self (sz := s.heap.size)
  have hA : ∀ q : Nat, s.heap.size ≤ q → va_A w0 s.heap.size q := fun q h => Or.inr h
  have hS : va_S (va_A w0 s.heap.size) s.heap s.heap [] := va_S.rf
  have hl := lv_entry av (n := maxL) hlen
  rw [lg_entry_eq]
  generalize (lg_sl av ++ List.replicate (maxL - (lg_sl av).length) Slot.unset).toArray = ls at hl ⊢
  exact body (p, l, e, (headSpec wy rm).room, s, m, av.toArray, below, meth, c, MQ below (va_Qv (fun (_ : Unit) => True) (fun _ t => kB D cy s.heap.size w0 w1 t) (va_A w0 s.heap.size)) av.toArray s 0 0 (va_A w0 s.heap.size), D, va_A w0 s.heap.size) rfl ⟨hx, hb, hml, hown, hts, hK, hA⟩
    (fun pc fr hd H locs ls hP hD hS _ => W.vret hx hb hr (fun t ht hW => ⟨⟨(), rfl, trivial, by rw [ht]; exact hP, va_K.moved hW.alike hK, hD⟩, hS.F ht⟩) hS.2.2 hd hlocks) s.heap [] ls hP hD hS hl
section KCALLS
variable {X : kX} {nL ce sl pc q : Nat} {own : String} {cc : ByteArray} {ts : List Cond} {cy : Nat → ClassId} {w w2 pre mid mid1 post : va_W} {fr : List (Nat × Value)} {st rest : List Value}
theorem kPre_blind {D : va_G} {av : List Value} {sz : Nat} {w0 : va_W} : FrameBlind (kPre D cy av sz w0) := by
  intro a U g mk q
  obtain ⟨q0, q1, qP, qK, qD⟩ := q
  exact ⟨q0, q1, qP, va_K.moved (u := U) (U := U.calling g mk a) (Vm.Alike.refl U.vm) qK, qD⟩
theorem kPre_intro {D : va_G} {av : List Value} {A0 : Nat → Prop} {s : State} {H : Heap} (hP : va_P D vwCl (pre ++ (mid ++ post)) H) (hD : va_D A0 (pre ++ (mid ++ post))) (hK : va_K D vwCl (kT cy) s) : ∀ U : State, U.heap = H → s.WarmedH U.vm → kPre D cy av H.size mid av.toArray U :=
  fun U hU hW => ⟨rfl, by rw [hU], by rw [hU]; exact kP_mid hP, va_K.moved hW.alike hK, (kD_mid hD).weaken (fun _ _ _ _ => trivial)⟩
/-- where a call of an instance method may be made: the words, the room, its arguments -/
abbrev kCV (X : kX) (ts : List Cond) (own : String) (index : Nat) (C0 : String) (y : MethodName) (wy : List Cond) (rm : Room) (maxL n : Nat) (rest : List Value) : Prop :=
  rm.cells = 0 ∧ rm.slots = 0 ∧ (y.cls = C0 ∧ y.cls ≠ "java/lang/invoke/MethodHandle" ∧ y.cls ≠ "java/lang/invoke/VarHandle" ∧ (parseMethodDescriptor y.desc).map (fun d => d.parameters.length) = some n) ∧ (rm.frames + 1 ≤ (xR X).frames ∧ 8 + (maxL + 11) + rm.locals ≤ (xR X).locals)
theorem k_callVI (C : kC X nL own cc ts cy) {y : MethodName} {wy wy' : List Cond} {rm : Room} {index n maxL b ci : Nat} {bytes : ByteArray} {ret : Option FieldType} {As : List Value} {v : Int32} {c3 : vw_C} {fs : List Value} (hM : kI y wy rm cy (.ref b :: As) mid v mid1)
    (hG : GoodIn ts (wsV own index c3.1 y wy)) (hwy : wy = Cond.code y bytes maxL ret :: wy') (hrc : rm.cells = 0) (hrs : rm.slots = 0) (hdd : y.cls = c3.1 ∧ y.cls ≠ "java/lang/invoke/MethodHandle" ∧ y.cls ≠ "java/lang/invoke/VarHandle" ∧ (parseMethodDescriptor y.desc).map (fun d => d.parameters.length) = some n)
    (hR : rm.frames + 1 ≤ (xR X).frames ∧ 8 + (maxL + 11) + rm.locals ≤ (xR X).locals) (hcs : ce ≤ (xR X).cells ∧ sl ≤ (xR X).slots)
    (hc3 : vwCl[ci]? = some c3) (qr : Nat) (hrecv : mid[qr]? = some (b, .inr (ci, fs))) (hn : As.length = n) (hst : st = As.reverse ++ .ref b :: rest) (hcat : (rest.map fun v => v.category).sum ≤ 8)
    (hw : w = pre ++ (mid ++ post)) (hw2 : pre ++ (mid1 ++ post) = w2) (hd : decode cc pc = .ok (.invokevirtual index, 3)) (hq : pc + 3 = q)
    (g : kG X nL ce sl w2 q fr (.int v :: rest)) : kG X nL ce sl w pc fr st := by
  intro H locs ls hP hD hS hl
  subst hw; subst hw2; subst hq; subst hst
  have hF := k_free (D := xD X) (cl := vwCl) hD hS C.2.2.2.2.2.2
  refine va_calli (va_runV (As := As) (rest := rest) ⟨C.1, C.2.1, C.2.2.1, C.2.2.2.1, C.2.2.2.2.1⟩ (hM (xL X) (xD X) H.size) (cwV n C.2.2.2.2.1 hG hwy hrc hrs hdd hR) ⟨kPre_blind, va_recv C.2.2.2.2.2.1 (kP_mid hP) hc3 hrecv, kPre_intro hP hD C.2.2.2.2.2.1⟩ rfl hn hl.1 rfl (by show 2 * 0 + _ ≤ 8; omega) hd ⟨by simpa using hcs.1, by simpa using hcs.2⟩) hS (fun q _ h => hF q h) hF (fun r u t H1 locs ht hvm hw hB hz1 hk1 hS => ?_)
  obtain ⟨hP1, hK1, hD1⟩ := hB
  rw [ht] at hP1
  obtain ⟨hP, hD⟩ := k_join hP hD hk1 hF hP1 hD1
  rw [hw]
  exact g H1 locs ls hP hD hS hl
theorem k_callSI (C : kC X nL own cc ts cy) {y : MethodName} {wy wy' : List Cond} {rm : Room} {index n maxL : Nat} {bytes : ByteArray} {ret : Option FieldType} {As : List Value} {v : Int32} (hM : kI y wy rm cy As mid v mid1)
    (hG : GoodIn ts (va_wsS own index y wy)) (hwy : wy = Cond.code y bytes maxL ret :: wy') (hrc : rm.cells = 0) (hrs : rm.slots = 0) (hdd : y.cls ≠ "java/lang/invoke/MethodHandle" ∧ y.cls ≠ "java/lang/invoke/VarHandle" ∧ (parseMethodDescriptor y.desc).map (fun d => d.parameters.length) = some n)
    (hR : rm.frames + 1 ≤ (xR X).frames ∧ 8 + (maxL + 11) + rm.locals ≤ (xR X).locals) (hcs : ce ≤ (xR X).cells ∧ sl ≤ (xR X).slots)
    (hn : As.length = n) (hst : st = As.reverse ++ rest) (hcat : (rest.map fun v => v.category).sum ≤ 8)
    (hw : w = pre ++ (mid ++ post)) (hw2 : pre ++ (mid1 ++ post) = w2) (hd : decode cc pc = .ok (.invokestatic index, 3)) (hq : pc + 3 = q)
    (g : kG X nL ce sl w2 q fr (.int v :: rest)) : kG X nL ce sl w pc fr st := by
  intro H locs ls hP hD hS hl
  subst hw; subst hw2; subst hq; subst hst
  have hF := k_free (D := xD X) (cl := vwCl) hD hS C.2.2.2.2.2.2
  refine va_calli (va_runS (As := As) (rest := rest) ⟨C.1, C.2.1, C.2.2.1, C.2.2.2.1, C.2.2.2.2.1⟩ (hM (xL X) (xD X) H.size) (va_cwS n C.2.2.2.2.1 hG hwy hrc hrs hdd hR) ⟨kPre_blind, kPre_intro hP hD C.2.2.2.2.2.1⟩ rfl hn hl.1 rfl (by show 2 * 0 + _ ≤ 8; omega) hd ⟨by simpa using hcs.1, by simpa using hcs.2⟩) hS (fun q _ h => hF q h) hF (fun r u t H1 locs ht hvm hw hB hz1 hk1 hS => ?_)
  obtain ⟨hP1, hK1, hD1⟩ := hB
  rw [ht] at hP1
  obtain ⟨hP, hD⟩ := k_join hP hD hk1 hF hP1 hD1
  rw [hw]
  exact g H1 locs ls hP hD hS hl
theorem k_callVV (C : kC X nL own cc ts cy) {y : MethodName} {wy wy' : List Cond} {rm : Room} {index n maxL b ci : Nat} {bytes : ByteArray} {ret : Option FieldType} {As : List Value} {c3 : vw_C} {fs : List Value} (hM : kV y wy rm cy (.ref b :: As) mid mid1)
    (hG : GoodIn ts (wsV own index c3.1 y wy)) (hwy : wy = Cond.code y bytes maxL ret :: wy') (hrc : rm.cells = 0) (hrs : rm.slots = 0) (hdd : y.cls = c3.1 ∧ y.cls ≠ "java/lang/invoke/MethodHandle" ∧ y.cls ≠ "java/lang/invoke/VarHandle" ∧ (parseMethodDescriptor y.desc).map (fun d => d.parameters.length) = some n)
    (hR : rm.frames + 1 ≤ (xR X).frames ∧ 8 + (maxL + 11) + rm.locals ≤ (xR X).locals) (hcs : ce ≤ (xR X).cells ∧ sl ≤ (xR X).slots)
    (hc3 : vwCl[ci]? = some c3) (qr : Nat) (hrecv : mid[qr]? = some (b, .inr (ci, fs))) (hn : As.length = n) (hst : st = As.reverse ++ .ref b :: rest) (hcat : (rest.map fun v => v.category).sum ≤ 8)
    (hw : w = pre ++ (mid ++ post)) (hw2 : pre ++ (mid1 ++ post) = w2) (hd : decode cc pc = .ok (.invokevirtual index, 3)) (hq : pc + 3 = q)
    (g : kG X nL ce sl w2 q fr rest) : kG X nL ce sl w pc fr st := by
  intro H locs ls hP hD hS hl
  subst hw; subst hw2; subst hq; subst hst
  have hF := k_free (D := xD X) (cl := vwCl) hD hS C.2.2.2.2.2.2
  refine va_callv (va_runV (As := As) (rest := rest) ⟨C.1, C.2.1, C.2.2.1, C.2.2.2.1, C.2.2.2.2.1⟩ (hM (xL X) (xD X) H.size) (cwV n C.2.2.2.2.1 hG hwy hrc hrs hdd hR) ⟨kPre_blind, va_recv C.2.2.2.2.2.1 (kP_mid hP) hc3 hrecv, kPre_intro hP hD C.2.2.2.2.2.1⟩ rfl hn hl.1 rfl (by show 2 * 0 + _ ≤ 8; omega) hd ⟨by simpa using hcs.1, by simpa using hcs.2⟩) hS (fun q _ h => hF q h) hF (fun u t H1 locs ht hvm hw hB hz1 hk1 hS => ?_)
  obtain ⟨hP1, hK1, hD1⟩ := hB
  rw [ht] at hP1
  obtain ⟨hP, hD⟩ := k_join hP hD hk1 hF hP1 hD1
  exact g H1 locs ls hP hD hS hl
theorem k_callSV (C : kC X nL own cc ts cy) {y : MethodName} {wy wy' : List Cond} {rm : Room} {index n maxL : Nat} {bytes : ByteArray} {ret : Option FieldType} {As : List Value} (hM : kV y wy rm cy As mid mid1)
    (hG : GoodIn ts (va_wsS own index y wy)) (hwy : wy = Cond.code y bytes maxL ret :: wy') (hrc : rm.cells = 0) (hrs : rm.slots = 0) (hdd : y.cls ≠ "java/lang/invoke/MethodHandle" ∧ y.cls ≠ "java/lang/invoke/VarHandle" ∧ (parseMethodDescriptor y.desc).map (fun d => d.parameters.length) = some n)
    (hR : rm.frames + 1 ≤ (xR X).frames ∧ 8 + (maxL + 11) + rm.locals ≤ (xR X).locals) (hcs : ce ≤ (xR X).cells ∧ sl ≤ (xR X).slots)
    (hn : As.length = n) (hst : st = As.reverse ++ rest) (hcat : (rest.map fun v => v.category).sum ≤ 8)
    (hw : w = pre ++ (mid ++ post)) (hw2 : pre ++ (mid1 ++ post) = w2) (hd : decode cc pc = .ok (.invokestatic index, 3)) (hq : pc + 3 = q)
    (g : kG X nL ce sl w2 q fr rest) : kG X nL ce sl w pc fr st := by
  intro H locs ls hP hD hS hl
  subst hw; subst hw2; subst hq; subst hst
  have hF := k_free (D := xD X) (cl := vwCl) hD hS C.2.2.2.2.2.2
  refine va_callv (va_runS (As := As) (rest := rest) ⟨C.1, C.2.1, C.2.2.1, C.2.2.2.1, C.2.2.2.2.1⟩ (hM (xL X) (xD X) H.size) (va_cwS n C.2.2.2.2.1 hG hwy hrc hrs hdd hR) ⟨kPre_blind, kPre_intro hP hD C.2.2.2.2.2.1⟩ rfl hn hl.1 rfl (by show 2 * 0 + _ ≤ 8; omega) hd ⟨by simpa using hcs.1, by simpa using hcs.2⟩) hS (fun q _ h => hF q h) hF (fun u t H1 locs ht hvm hw hB hz1 hk1 hS => ?_)
  obtain ⟨hP1, hK1, hD1⟩ := hB
  rw [ht] at hP1
  obtain ⟨hP, hD⟩ := k_join hP hD hk1 hF hP1 hD1
  exact g H1 locs ls hP hD hS hl
theorem k_perm (hp : w.Perm w2) (g : kG X nL ce sl w2 pc fr st) : kG X nL ce sl w pc fr st := fun H locs ls hP hD hS hl => g H locs ls (kP_perm hp hP) (kD_perm hp hD) hS hl
end KCALLS
