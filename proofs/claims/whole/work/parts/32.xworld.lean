/-! the class's own world -/
abbrev CK : Type := Nat × Int32 × FI32 × FI32 × FI32 × FI32 × Nat × Int32 × Int32 × FI32
abbrev qN (K : CK) : Nat := K.1
abbrev qLit (K : CK) : Int32 := K.2.1
abbrev qH (K : CK) : FI32 := K.2.2.1
abbrev qT (K : CK) : FI32 := K.2.2.2.1
abbrev qS (K : CK) : FI32 := K.2.2.2.2.1
abbrev qG (K : CK) : FI32 := K.2.2.2.2.2.1
abbrev qK (K : CK) : Nat := K.2.2.2.2.2.2.1
abbrev qLo (K : CK) : Int32 := K.2.2.2.2.2.2.2.1
abbrev qLf (K : CK) : Int32 := K.2.2.2.2.2.2.2.2.1
abbrev qNm (K : CK) : FI32 := K.2.2.2.2.2.2.2.2.2
def wSkK (a : Nat → Nat) (cy : Nat → ClassId) (K : CK) : va_W := wSky a cy (qN K) (qLit K) (qH K) (qT K) (qS K) (qG K) (qK K) (qLo K) (qLf K) (qNm K)
/-- what a sky holds once it became like another -/
def cLike (x y : CK) : CK := (qN x, qLit x, va_cpy (qH x) (qH y) 0 0 6, va_cpy (qT x) (qT y) 0 0 6, va_cpy (qS x) (qS y) 0 0 2, va_cpy (qG x) (qG y) 0 0 4, qK x, qLo x, qLf x, va_cpy (qNm x) (qNm y) 0 0 32)
def wXo (b : Nat → Nat) (cy : Nat → ClassId) (a0 r : Nat) (nx sn ln : Nat) (sv kp : Nat → Option Nat) (ik : Nat → Int32) (bf : Nat → Nat) : va_W :=
  [(b 0, .inr (3, [.ref a0, .ref (b 1), .int (nI nx), .int (nI sn), .ref (b 2), .ref (b 3), .ref (b 4), .int (nI ln), .ref r])), (b 1, .inl (cy 3, 6, .inr (.inr (.inr (.inr sv))))), (b 2, .inl (cy 3, 2, .inr (.inr (.inr (.inr kp))))), (b 3, .inl (cy 2, 2, .inl ik)), (b 4, .inl (cy 1, 60, .inl (fun j => nI (bf j))))]
def svOf (sk : Nat → Nat → Nat) : Nat → Option Nat := fun j => some (sk j 0)
def kpOf (sk : Nat → Nat → Nat) : Nat → Option Nat := fun j => some (sk (6 + j) 0)
def wOth (sk : Nat → Nat → Nat) (cy : Nat → ClassId) (S : Nat → CK) : va_W := (List.range 8).flatMap (fun i => wSkK (sk i) cy (S i))
def wOthE (sk : Nat → Nat → Nat) (cy : Nat → ClassId) (S : Nat → CK) (k : Nat) : va_W := ((List.range 8).erase k).flatMap (fun i => wSkK (sk i) cy (S i))
def updS (S : Nat → CK) (k : Nat) (x : CK) : Nat → CK := fun j => if j = k then x else S j
def wSk2 (a b : Nat → Nat) (cy : Nat → ClassId) (x y : CK) : va_W := (wSky5 a cy (qN x) (qLit x) (qH x) (qT x) (qS x) (qG x) ++ wSky5 b cy (qN y) (qLit y) (qH y) (qT y) (qS y) (qG y)) ++ (wLog a cy (qK x) (qLo x) (qLf x) (qNm x) ++ wLog b cy (qK y) (qLo y) (qLf y) (qNm y))
theorem p_flat {α β : Type} [DecidableEq α] {f : α → List β} : ∀ {l : List α} {i : α}, i ∈ l → (l.flatMap f).Perm (f i ++ (l.erase i).flatMap f)
  | l, i, h => by
    have := (List.perm_cons_erase h).flatMap_right f
    rw [List.flatMap_cons] at this
    exact this
theorem oth_e {sk : Nat → Nat → Nat} {cy : Nat → ClassId} {S : Nat → CK} {k : Nat} (x : CK) : wOthE sk cy (updS S k x) k = wOthE sk cy S k := by
  unfold wOthE
  have h : ∀ i, i ∈ (List.range 8).erase k → wSkK (sk i) cy (updS S k x i) = wSkK (sk i) cy (S i) := by
    intro i hi
    have : i ≠ k := fun e => by
      subst e
      exact List.Nodup.not_mem_erase List.nodup_range hi
    unfold updS; rw [if_neg this]
  have hh : ∀ (l : List Nat), (∀ i, i ∈ l → wSkK (sk i) cy (updS S k x i) = wSkK (sk i) cy (S i)) → l.flatMap (fun i => wSkK (sk i) cy (updS S k x i)) = l.flatMap (fun i => wSkK (sk i) cy (S i)) := by
    intro l
    induction l with
    | nil => intro _; rfl
    | cons i l ih => intro h; rw [List.flatMap_cons, List.flatMap_cons, h i (List.mem_cons_self), ih (fun j hj => h j (List.mem_cons_of_mem _ hj))]
  exact hh _ h
theorem sk2_perm {a b : Nat → Nat} {cy : Nat → ClassId} {x y : CK} : (wSkK a cy x ++ wSkK b cy y).Perm (wSk2 a b cy x y) := by
  unfold wSkK wSk2 wSky
  rw [List.append_assoc, List.append_assoc]
  refine List.Perm.append_left _ ?_
  rw [← List.append_assoc, ← List.append_assoc]
  exact List.Perm.append_right _ List.perm_append_comm
theorem sk2_comm {a b : Nat → Nat} {cy : Nat → ClassId} {x y : CK} : (wSk2 a b cy x y).Perm (wSk2 b a cy y x) := sk2_perm.symm.trans (List.perm_append_comm.trans sk2_perm)
/-- the main sky and the k-th other, side by side, and the rest -/
theorem oth_out {P : va_W} {a : Nat → Nat} {sk : Nat → Nat → Nat} {cy : Nat → ClassId} {S : Nat → CK} {k : Nat} {x : CK} (hk : k < 8) : (P ++ (wSkK a cy x ++ wOth sk cy S)).Perm (P ++ (wSk2 a (sk k) cy x (S k) ++ wOthE sk cy S k)) := by
  refine List.Perm.append_left P ?_
  have h : (wOth sk cy S).Perm (wSkK (sk k) cy (S k) ++ wOthE sk cy S k) := p_flat (f := fun i => wSkK (sk i) cy (S i)) (List.mem_range.mpr hk)
  refine (List.Perm.append_left _ h).trans ?_
  rw [← List.append_assoc]
  exact List.Perm.append_right _ sk2_perm
theorem updS_eq {S : Nat → CK} {k : Nat} {x : CK} : updS S k x k = x := if_pos rfl
theorem updS_self {S : Nat → CK} {k : Nat} : updS S k (S k) = S := by
  funext j; unfold updS; split
  · rename_i e; rw [e]
  · rfl
theorem oth_in {P : va_W} {a : Nat → Nat} {sk : Nat → Nat → Nat} {cy : Nat → ClassId} {S : Nat → CK} {k : Nat} {x y : CK} (hk : k < 8) : (P ++ (wSk2 a (sk k) cy x y ++ wOthE sk cy S k)).Perm (P ++ (wSkK a cy x ++ wOth sk cy (updS S k y))) := by
  have := (oth_out (P := P) (a := a) (sk := sk) (cy := cy) (S := updS S k y) (k := k) (x := x) hk).symm
  rw [oth_e, updS_eq] at this
  exact this
theorem nI_rem6 {a : Nat} (h : a < 13) : nI a - nI a / 6 * 6 = nI (a % 6) := by
  have : ∀ i : Fin 13, nI i.val - nI i.val / 6 * 6 = nI (i.val % 6) := by decide +kernel
  exact this ⟨a, h⟩
theorem k_permS {X : kX} {nL ce sl pc : Nat} {w w2 : va_W} {fr : List (Nat × Value)} {st : List Value} (hp : w.Perm w2) (g : kG X nL ce sl w2 pc fr st) : kG X nL ce sl w pc fr st := k_perm hp g
theorem i_lt2 {x : Int32} (h : ¬ 2 ≤ x) : x ≤ 1 := by
  rw [Int32.le_iff_toInt_le] at h ⊢
  rw [show (2 : Int32).toInt = 2 by decide +kernel] at h
  rw [show (1 : Int32).toInt = 1 by decide +kernel]; omega
theorem i_2le {x : Int32} (h : 2 ≤ x) : ¬ x ≤ 1 := by
  rw [Int32.le_iff_toInt_le] at h ⊢
  rw [show (2 : Int32).toInt = 2 by decide +kernel] at h
  rw [show (1 : Int32).toInt = 1 by decide +kernel]; omega
