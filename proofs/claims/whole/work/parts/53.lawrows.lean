/-! rows of the law's own walk -/
section LAWROWS
variable {X : kX} {nL ce sl pc q : Nat} {own : String} {cc : ByteArray} {ts : List Cond} {cy : Nat → ClassId} {w w2 pre mid mid1 post : va_W} {fr : List (Nat × Value)} {st rest : List Value}
/-- a call of a wrapper: its body has handlers, it lets nothing through -/
theorem k_callSL (C : kC X nL own cc ts cy) (Z : kZ (xA X) (xS X) (xS X).heap) (hst0 : (xL X).stackTraces = false) {y : MethodName} {wy wy' : List Cond} {rm : Room} {index n maxL : Nat} {bytes : ByteArray} {ret : Option FieldType} {hh : List (Nat × Nat × Nat × Nat)} {As : List Value} {v : Int32} (hM : kIl y wy rm cy As mid v mid1)
    (hG : GoodIn ts (va_wsS own index y wy)) (hwy : wy = Cond.codeWith y bytes maxL ret hh :: wy') (hrc : rm.cells = 1) (hrs : rm.slots = 6) (hdd : y.cls ≠ "java/lang/invoke/MethodHandle" ∧ y.cls ≠ "java/lang/invoke/VarHandle" ∧ (parseMethodDescriptor y.desc).map (fun d => d.parameters.length) = some n)
    (hR : rm.frames + 1 ≤ (xR X).frames ∧ 8 + (maxL + 11) + rm.locals ≤ (xR X).locals) (hcs : ce + 1 ≤ (xR X).cells ∧ sl + 6 ≤ (xR X).slots)
    (hn : As.length = n) (hst : st = As.reverse ++ rest) (hcat : (rest.map fun v => v.category).sum ≤ 8)
    (hw : w = pre ++ (mid ++ post)) (hw2 : pre ++ (mid1 ++ post) = w2) (hd : decode cc pc = .ok (.invokestatic index, 3)) (hq : pc + 3 = q)
    (g : kG X nL (ce + 1) (sl + 6) w2 q fr (.int v :: rest)) : kG X nL ce sl w pc fr st := by
  intro H locs ls hP hD hS hl
  subst hw; subst hw2; subst hq; subst hst
  have hF := k_free (D := xD X) (cl := vwCl) hD hS C.2.2.2.2.2.2
  refine va_calli (vx_runSW (As := As) (rest := rest) ⟨C.1, C.2.1, C.2.2.1, C.2.2.2.1, C.2.2.2.2.1⟩ (hM (xL X) hst0 (xD X) H.size) (vx_cwSW n C.2.2.2.2.1 hG hwy hrc hrs hdd hR) ⟨kPreZ_blind, kPreZ_intro hP hD C.2.2.2.2.2.1 hS C.2.2.2.2.2.2 Z⟩ rfl hn hl.1 rfl (by show 2 * 0 + _ ≤ 8; omega) hd hcs) hS (fun q _ h => hF q h) hF (fun r u t H1 locs ht hvm hw hB hz1 hk1 hS => ?_)
  obtain ⟨hP1, hK1, hD1⟩ := hB
  rw [ht] at hP1
  obtain ⟨hP, hD⟩ := k_join hP hD hk1 hF hP1 hD1
  rw [hw]
  exact g H1 locs ls hP hD hS hl
theorem k_slen (C : kC X nL own cc ts cy) {b L : Nat} {xs : Nat → Int32} (hX : va_X b L xs (xS X) (xS X).heap) (hbl : b < (xS X).heap.size) (hbA : ¬ (xA X) b) (hd : decode cc pc = .ok (.arraylength, 1)) (hq : pc + 1 = q) (g : kG X nL ce sl w q fr (.int (nI L) :: st)) : kG X nL ce sl w pc fr (.ref b :: st) :=
  fun H locs ls hP hD hS hl => by subst hq; exact va_slen C.1 C.2.1 hX hbl hbA hS hd (g H locs ls hP hD hS hl)
theorem kZ_d {A : Nat → Prop} {s : State} {H : Heap} {d0 d : Drawn} (h : kZ A (s.setDrawn d0) H) : kZ A (s.setDrawn d) H :=
  kZ.go (s := s.setDrawn d0) (U := s.setDrawn d) (State.WarmedH.refl (s.setDrawn d0)) (Nat.le_refl _) (fun _ _ _ => rfl) (fun _ h => h) h
end LAWROWS
/-- both sides' states, related -/
def gR (nx sn ln : Nat) (ik : FI32) (bf : Nat → Nat) (K : CK) (S : Nat → CK) (sm ln' : Nat) (M : SK) (sv sl ik' : FI32) (bf' : Nat → Nat) : Prop :=
  sRel K M ∧ sn = sm ∧ ringR nx sm S sv ∧ keptR ik ik' S sl ∧ ln = ln' ∧ ln ≤ 60 ∧ bf = bf' ∧ ∀ i, bf i ≤ 126
/-- an execute, both ways -/
theorem exec_ok {bf : Nat → Nat} {ln : Nat} {K : CK} {M : SK} (h : sRel K M) (he : mFE bf ln (ln + 1) 0 = none) :
    (xRead bf ln (ln + 1) 0 (0, 0, 0, 0, false, false)).1 = ln ∧ rWhole (xRead bf ln (ln + 1) 0 (0, 0, 0, 0, false, false)).2.1 (xDg (xRead bf ln (ln + 1) 0 (0, 0, 0, 0, false, false)).2) (xTk (xRead bf ln (ln + 1) 0 (0, 0, 0, 0, false, false)).2) = true ∧
    (xRun bf ln (ln + 1) 0 0 (0, 0, 0, 0, false, false) K).1 = (kExec bf ln (ln + 1) 0 0 M).1 ∧ sRel (xRun bf ln (ln + 1) 0 0 (0, 0, 0, 0, false, false) K).2.2 (kExec bf ln (ln + 1) 0 0 M).2 := by
  obtain ⟨R', h1, h2⟩ := (fe_x (bf := bf) (ln := ln) (ln + 1) 0 (Nat.zero_le _) (by omega)).1 he
  have e := h1 (ln + 1) (by omega)
  have r := run_x (bf := bf) (ln := ln) (Rel := sRel) (fun R sg fi se K M a b c => step_x a b c) (ln + 1) 0 0 K M (Nat.zero_le _) (by omega) he h (ln + 1) (ln + 1) (by omega) (by omega)
  rw [e]
  exact ⟨rfl, h2, r.1, r.2⟩
theorem exec_no {bf : Nat → Nat} {ln : Nat} (he : ¬ mFE bf ln (ln + 1) 0 = none) :
    (xRead bf ln (ln + 1) 0 (0, 0, 0, 0, false, false)).1 < ln ∨ ((xRead bf ln (ln + 1) 0 (0, 0, 0, 0, false, false)).1 = ln ∧ ¬ rWhole (xRead bf ln (ln + 1) 0 (0, 0, 0, 0, false, false)).2.1 (xDg (xRead bf ln (ln + 1) 0 (0, 0, 0, 0, false, false)).2) (xTk (xRead bf ln (ln + 1) 0 (0, 0, 0, 0, false, false)).2) = true) := by
  obtain ⟨e, he2⟩ : ∃ e, mFE bf ln (ln + 1) 0 = some e := by
    cases h : mFE bf ln (ln + 1) 0 with
    | none => exact absurd h he
    | some e => exact ⟨e, rfl⟩
  obtain ⟨R', h1, h2, h3⟩ := (fe_x (bf := bf) (ln := ln) (ln + 1) 0 (Nat.zero_le _) (by omega)).2 e he2
  have r := h1 (ln + 1) (by omega)
  rw [r]
  by_cases c : e = ln
  · exact Or.inr ⟨c, by rw [h2 c]; decide⟩
  · exact Or.inl (by show e < ln; omega)
theorem first_x {bf : Nat → Nat} {ln : Nat} : (xRead bf ln (ln + 1) 0 (0, 0, 0, 0, false, false)).1 = mFI (mFE bf ln (ln + 1) 0) ln := by
  obtain ⟨a, b⟩ := fe_x (bf := bf) (ln := ln) (ln + 1) 0 (Nat.zero_le _) (by omega)
  cases h : mFE bf ln (ln + 1) 0 with
  | none =>
    obtain ⟨R', h1, -⟩ := a h
    rw [h1 (ln + 1) (by omega)]; rfl
  | some e =>
    obtain ⟨R', h1, -⟩ := b e h
    rw [h1 (ln + 1) (by omega)]; rfl
/-- the start -/
theorem sRel_0 : sRel cK0 (0, fun k => if k < 2 then 1 else 0, fun _ => 0, fun _ => 0, fun k => if k = 0 then 5 else if k = 1 then -5 else 0, fun k => if k = 0 then 300 else if k = 1 then 100 else if k = 2 then 20 else if k = 3 then 10 else 0, 0, 0, 0, fun _ => 0) := by
  refine ⟨⟨Nat.zero_le _, ⟨Or.inr rfl, Or.inr rfl⟩, ⟨by decide +kernel, by decide +kernel⟩, ⟨by decide +kernel, by decide +kernel⟩, Nat.zero_le _, fun i hi => absurd hi (Nat.not_lt_zero i), fun i hi => absurd hi (Nat.not_lt_zero i), ⟨by decide +kernel, by decide +kernel⟩, ⟨by decide +kernel, by decide +kernel⟩, ⟨by decide +kernel, by decide +kernel⟩, ⟨by decide +kernel, by decide +kernel⟩⟩, rfl, by decide +kernel, fun i hi => absurd hi (Nat.not_lt_zero i), fun i hi => absurd hi (Nat.not_lt_zero i), fun i hi => ?_, fun i hi => ?_, rfl, rfl, rfl, fun i hi => rfl, fun k hk => absurd hk (Nat.not_lt_zero k)⟩
  · rcases (show i = 0 ∨ i = 1 by omega) with rfl | rfl <;> rfl
  · rcases (show i = 0 ∨ i = 1 ∨ i = 2 ∨ i = 3 by omega) with rfl | rfl | rfl | rfl <;> rfl
/-- mean errors: class and reference -/
theorem mean_x {nm nm' : FI32} {kn : Nat} (hk : kn ≤ 8) (N : ∀ i, i < 32 → nm i = nm' i) (O : nOk kn nm') : ∀ m, m ≤ kn → sEs nm m = mEs nm' m ∧ sEm nm m = mEm nm' m
  | 0, _ => ⟨rfl, rfl⟩
  | m + 1, h => by
    obtain ⟨a, b⟩ := mean_x hk N O m (by omega)
    have o := O m (by omega)
    unfold sEs mEs sEm mEm
    rw [a, b, N (4 * m + 2) (by omega)]
    by_cases c : nm' (4 * m) = -99999
    · rw [if_pos c, if_pos c, if_pos (o.mp c), if_pos (o.mp c)]
      exact ⟨rfl, rfl⟩
    · rw [if_neg c, if_neg c, if_neg (fun z => c (o.mpr z)), if_neg (fun z => c (o.mpr z))]
      exact ⟨rfl, rfl⟩
theorem k_le {X : kX} {ce sl : Nat} (hR : xR X = room_1) (h : ce ≤ 620303 ∧ sl ≤ 7235195) : ce ≤ (xR X).cells ∧ sl ≤ (xR X).slots := by rw [hR]; exact h
theorem lcmp_0 (x : Int64) : lg_cmp x x = 0 := by unfold lg_cmp; simp
