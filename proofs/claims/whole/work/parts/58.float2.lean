/-! doubles of the mean errors -/
section F2
variable {X : kX} {nL ce sl pc q : Nat} {own : String} {cc : ByteArray} {ts : List Cond} {cy : Nat → ClassId} {w : va_W} {fr : List (Nat × Value)} {st : List Value}
theorem k_f2d {s0 : State} {d0 : Drawn} (C : kC X nL own cc ts cy) (hs : xS X = s0.setDrawn d0) (hd0 : s0.drawn.sameBut d0 lw_cs) {x : UInt32} (hd : decode cc pc = .ok (.f2d, 1)) (hq : pc + 1 = q)
    (g : ∀ r d, alike64 r (FP.f2d x) = true → s0.drawn.sameBut d lw_cs → kG (kXs X (s0.setDrawn d)) nL ce sl w q fr (.double r :: st)) : kG X nL ce sl w pc fr (.float x :: st) := by
  obtain ⟨p, l, e, R, s, m, args, below, meth, c, Q, D, A⟩ := X
  have hs : s = s0.setDrawn d0 := hs
  subst hs; subst hq
  intro H locs ls hP hD hS hl
  exact lv_f2d_any hd0 lw_bits C.1 C.2.1 hd (fun r d hal hd1 => g r d hal hd1 H locs ls hP hD hS hl)
theorem k_dcmp (C : kC X nL own cc ts cy) {x y : UInt64} {op : CmpOp} (hd : decode cc pc = .ok (.dcmp op, 1)) (hq : pc + 1 = q) (g : kG X nL ce sl w q fr (.int (Op.cmpValue (FP.dcmp x y) op) :: st)) : kG X nL ce sl w pc fr (.double y :: .double x :: st) := fun H locs ls hP hD hS hl => by subst hq; exact lv_dcmp C.1 C.2.1 hd (g H locs ls hP hD hS hl)
end F2
