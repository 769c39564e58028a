/-! the class's own world -/
abbrev CK : Type := Nat × Int32 × FI32 × FI32 × FI32 × FI32 × Nat × Int32 × Int32 × FI32
abbrev qN (K : CK) : Nat := K.1
abbrev qLit (K : CK) : Int32 := K.2.1
abbrev qH (K : CK) : FI32 := K.2.2.1
abbrev qT (K : CK) : FI32 := K.2.2.2.1
abbrev qS (K : CK) : FI32 := K.2.2.2.2.1
abbrev qG (K : CK) : FI32 := K.2.2.2.2.2.1
abbrev qK (K : CK) : Nat := K.2.2.2.2.2.2.1
abbrev qLo (K : CK) : Int32 := K.2.2.2.2.2.2.2.1
abbrev qLf (K : CK) : Int32 := K.2.2.2.2.2.2.2.2.1
abbrev qNm (K : CK) : FI32 := K.2.2.2.2.2.2.2.2.2
def wSkK (a : Nat → Nat) (cy : Nat → ClassId) (K : CK) : va_W := wSky a cy (qN K) (qLit K) (qH K) (qT K) (qS K) (qG K) (qK K) (qLo K) (qLf K) (qNm K)
/-- what a sky holds once it became like another -/
def cLike (x y : CK) : CK := (qN x, qLit x, va_cpy (qH x) (qH y) 0 0 6, va_cpy (qT x) (qT y) 0 0 6, va_cpy (qS x) (qS y) 0 0 2, va_cpy (qG x) (qG y) 0 0 4, qK x, qLo x, qLf x, va_cpy (qNm x) (qNm y) 0 0 32)
def wXo (b : Nat → Nat) (cy : Nat → ClassId) (a0 r : Nat) (nx sn ln : Nat) (sv kp : Nat → Option Nat) (ik : Nat → Int32) (bf : Nat → Nat) : va_W :=
  [(b 0, .inr (3, [.ref a0, .ref (b 1), .int (nI nx), .int (nI sn), .ref (b 2), .ref (b 3), .ref (b 4), .int (nI ln), .ref r])), (b 1, .inl (cy 3, 6, .inr (.inr (.inr (.inr sv))))), (b 2, .inl (cy 3, 2, .inr (.inr (.inr (.inr kp))))), (b 3, .inl (cy 2, 2, .inl ik)), (b 4, .inl (cy 1, 60, .inl (fun j => nI (bf j))))]
def svOf (sk : Nat → Nat → Nat) : Nat → Option Nat := fun j => if j < 6 then some (sk j 0) else none
def kpOf (sk : Nat → Nat → Nat) : Nat → Option Nat := fun j => if j < 2 then some (sk (6 + j) 0) else none
theorem sv_rf {sk : Nat → Nat → Nat} {j : Nat} (h : j < 6) : va_rf (svOf sk j) = .ref (sk j 0) := by unfold svOf; rw [if_pos h]; rfl
theorem kp_rf {sk : Nat → Nat → Nat} {j : Nat} (h : j < 2) : va_rf (kpOf sk j) = .ref (sk (6 + j) 0) := by unfold kpOf; rw [if_pos h]; rfl
def wOth (sk : Nat → Nat → Nat) (cy : Nat → ClassId) (S : Nat → CK) : va_W := (List.range 8).flatMap (fun i => wSkK (sk i) cy (S i))
def wOthE (sk : Nat → Nat → Nat) (cy : Nat → ClassId) (S : Nat → CK) (k : Nat) : va_W := ((List.range 8).erase k).flatMap (fun i => wSkK (sk i) cy (S i))
def updS (S : Nat → CK) (k : Nat) (x : CK) : Nat → CK := fun j => if j = k then x else S j
def wSk2 (a b : Nat → Nat) (cy : Nat → ClassId) (x y : CK) : va_W := (wSky5 a cy (qN x) (qLit x) (qH x) (qT x) (qS x) (qG x) ++ wSky5 b cy (qN y) (qLit y) (qH y) (qT y) (qS y) (qG y)) ++ (wLog a cy (qK x) (qLo x) (qLf x) (qNm x) ++ wLog b cy (qK y) (qLo y) (qLf y) (qNm y))
theorem p_flat {α β : Type} [DecidableEq α] {f : α → List β} : ∀ {l : List α} {i : α}, i ∈ l → (l.flatMap f).Perm (f i ++ (l.erase i).flatMap f)
  | l, i, h => by
    have := (List.perm_cons_erase h).flatMap_right f
    rw [List.flatMap_cons] at this
    exact this
theorem oth_e {sk : Nat → Nat → Nat} {cy : Nat → ClassId} {S : Nat → CK} {k : Nat} (x : CK) : wOthE sk cy (updS S k x) k = wOthE sk cy S k := by
  unfold wOthE
  have h : ∀ i, i ∈ (List.range 8).erase k → wSkK (sk i) cy (updS S k x i) = wSkK (sk i) cy (S i) := by
    intro i hi
    have : i ≠ k := fun e => by
      subst e
      exact List.Nodup.not_mem_erase List.nodup_range hi
    unfold updS; rw [if_neg this]
  have hh : ∀ (l : List Nat), (∀ i, i ∈ l → wSkK (sk i) cy (updS S k x i) = wSkK (sk i) cy (S i)) → l.flatMap (fun i => wSkK (sk i) cy (updS S k x i)) = l.flatMap (fun i => wSkK (sk i) cy (S i)) := by
    intro l
    induction l with
    | nil => intro _; rfl
    | cons i l ih => intro h; rw [List.flatMap_cons, List.flatMap_cons, h i (List.mem_cons_self), ih (fun j hj => h j (List.mem_cons_of_mem _ hj))]
  exact hh _ h
theorem sk2_perm {a b : Nat → Nat} {cy : Nat → ClassId} {x y : CK} : (wSkK a cy x ++ wSkK b cy y).Perm (wSk2 a b cy x y) := by
  unfold wSkK wSk2 wSky
  rw [List.append_assoc, List.append_assoc]
  refine List.Perm.append_left _ ?_
  rw [← List.append_assoc, ← List.append_assoc]
  exact List.Perm.append_right _ List.perm_append_comm
theorem sk2_comm {a b : Nat → Nat} {cy : Nat → ClassId} {x y : CK} : (wSk2 a b cy x y).Perm (wSk2 b a cy y x) := sk2_perm.symm.trans (List.perm_append_comm.trans sk2_perm)
/-- the main sky and the k-th other, side by side, and the rest -/
theorem oth_out {P : va_W} {a : Nat → Nat} {sk : Nat → Nat → Nat} {cy : Nat → ClassId} {S : Nat → CK} {k : Nat} {x : CK} (hk : k < 8) : (P ++ (wSkK a cy x ++ wOth sk cy S)).Perm (P ++ (wSk2 a (sk k) cy x (S k) ++ wOthE sk cy S k)) := by
  refine List.Perm.append_left P ?_
  have h : (wOth sk cy S).Perm (wSkK (sk k) cy (S k) ++ wOthE sk cy S k) := p_flat (f := fun i => wSkK (sk i) cy (S i)) (List.mem_range.mpr hk)
  refine (List.Perm.append_left _ h).trans ?_
  rw [← List.append_assoc]
  exact List.Perm.append_right _ sk2_perm
theorem updS_eq {S : Nat → CK} {k : Nat} {x : CK} : updS S k x k = x := if_pos rfl
theorem updS_self {S : Nat → CK} {k : Nat} : updS S k (S k) = S := by
  funext j; unfold updS; split
  · rename_i e; rw [e]
  · rfl
theorem oth_in {P : va_W} {a : Nat → Nat} {sk : Nat → Nat → Nat} {cy : Nat → ClassId} {S : Nat → CK} {k : Nat} {x y : CK} (hk : k < 8) : (P ++ (wSk2 a (sk k) cy x y ++ wOthE sk cy S k)).Perm (P ++ (wSkK a cy x ++ wOth sk cy (updS S k y))) := by
  have := (oth_out (P := P) (a := a) (sk := sk) (cy := cy) (S := updS S k y) (k := k) (x := x) hk).symm
  rw [oth_e, updS_eq] at this
  exact this
theorem nI_rem6 {a : Nat} (h : a < 13) : nI a - nI a / 6 * 6 = nI (a % 6) := by
  have : ∀ i : Fin 13, nI i.val - nI i.val / 6 * 6 = nI (i.val % 6) := by decide +kernel
  exact this ⟨a, h⟩
theorem k_permS {X : kX} {nL ce sl pc : Nat} {w w2 : va_W} {fr : List (Nat × Value)} {st : List Value} (hp : w.Perm w2) (g : kG X nL ce sl w2 pc fr st) : kG X nL ce sl w pc fr st := k_perm hp g
theorem i_lt2 {x : Int32} (h : ¬ 2 ≤ x) : x ≤ 1 := by
  rw [Int32.le_iff_toInt_le] at h ⊢
  rw [show (2 : Int32).toInt = 2 by decide +kernel] at h
  rw [show (1 : Int32).toInt = 1 by decide +kernel]; omega
theorem i_2le {x : Int32} (h : 2 ≤ x) : ¬ x ≤ 1 := by
  rw [Int32.le_iff_toInt_le] at h ⊢
  rw [show (2 : Int32).toInt = 2 by decide +kernel] at h
  rw [show (1 : Int32).toInt = 1 by decide +kernel]; omega
theorem nI_of_lt {a b : Nat} (h : nI a < nI b) (ha : a < 2 ^ 31) (hb : b < 2 ^ 31) : a < b := by
  rw [Int32.lt_iff_toInt_lt, nI_toInt ha, nI_toInt hb] at h; omega
theorem oth_out2 {P : va_W} {a : Nat → Nat} {sk : Nat → Nat → Nat} {cy : Nat → ClassId} {S : Nat → CK} {k : Nat} {x : CK} (hk : k < 8) : (P ++ (wSkK a cy x ++ wOth sk cy S)).Perm (P ++ (wSk2 (sk k) a cy (S k) x ++ wOthE sk cy S k)) :=
  (oth_out hk).trans (List.Perm.append_left P (List.Perm.append_right _ sk2_comm))
theorem oth_in2 {P : va_W} {a : Nat → Nat} {sk : Nat → Nat → Nat} {cy : Nat → ClassId} {S : Nat → CK} {k : Nat} {x : CK} (hk : k < 8) : (P ++ (wSk2 (sk k) a cy (S k) x ++ wOthE sk cy S k)).Perm (P ++ (wSkK a cy x ++ wOth sk cy S)) := (oth_out2 hk).symm
/-! the class's reader over a whole buffer; an order's effect -/
abbrev xHg (R : RT) : Nat := R.2.1
abbrev xNu (R : RT) : Nat := R.2.2.1
abbrev xDg (R : RT) : Nat := R.2.2.2.1
abbrev xNg (R : RT) : Bool := R.2.2.2.2.1
abbrev xTk (R : RT) : Bool := R.2.2.2.2.2
def xLg (K : CK) : Int32 × Int32 × Int32 × Bool := sLg (qLit K) (qH K) (qT K) (qS K) (qG K) (qN K)
def xAdd (K : CK) (x y : Int32) : CK := (qN K + 1, qLit K, sIns (qH K) (qN K) (sPos (qH K) x (qN K)) x, sIns (qT K) (qN K) (sPos (qH K) x (qN K)) y, qS K, qG K, qK K, qLo K, qLf K, qNm K)
def xDrop (K : CK) (p : Nat) : CK := (qN K - 1, qLit K, sDn (qH K) p (qN K), sDn (qT K) p (qN K), qS K, qG K, qK K, qLo K, qLf K, qNm K)
def xLog (K : CK) : CK := (qN K, qLit K, qH K, qT K, qS K, qG K, min (qK K + 1) 8, qLo K + 1, qLf K + bI ((xLg K).2.2.2 = true), sWrL (qNm K) (xLg K))
def xAim (K : CK) (j : Nat) (x : Int32) : CK := (qN K, qLit K, qH K, qT K, upd (qS K) j x, qG K, qK K, qLo K, qLf K, qNm K)
def xStep (R : RT) (K : CK) : Bool × CK :=
  if R.1 = 99 then (if sAny (qH K) (nI (xHg R)) (qN K) = false ∧ qN K < 6 then (true, xAdd K (nI (xHg R)) (nI (xNu R))) else (false, K))
  else if R.1 = 120 then (if xNu R < qN K then (true, xDrop K (xNu R)) else (false, K))
  else if R.1 = 110 then (true, xLog K)
  else (true, xAim K (if R.1 = 97 then 0 else 1) (if xNg R = true then -nI (xNu R) else nI (xNu R)))
def xRun (bf : Nat → Nat) (ln : Nat) : Nat → Nat → Nat → RT → CK → Nat × RT × CK
  | 0, _, d, R, K => (d, R, K)
  | f + 1, i, d, R, K => if i < ln then (if bf i = 59 then (if (xStep R K).1 = true then xRun bf ln f (i + 1) (d + 1) (rTakes (bf i) R).2 (xStep R K).2 else (d, R, (xStep R K).2)) else xRun bf ln f (i + 1) d (rTakes (bf i) R).2 K) else (if (xStep R K).1 = true then (d + 1, R, (xStep R K).2) else (d, R, (xStep R K).2))
def xRead (bf : Nat → Nat) (ln : Nat) : Nat → Nat → RT → Nat × RT
  | 0, i, R => (i, R)
  | f + 1, i, R => if i < ln then (if (rTakes (bf i) R).1 = true then xRead bf ln f (i + 1) (rTakes (bf i) R).2 else (i, (rTakes (bf i) R).2)) else (ln, R)
def rOk (R : RT) (i : Nat) : Prop := R.1 < 65536 ∧ R.2.2.1 ≤ 3000 ∧ R.2.2.2.1 ≤ i ∧ R.2.1 ≤ 3000
theorem rTakes_ok {R : RT} {i c : Nat} (h : rOk R i) (hc : c < 65536) : rOk (rTakes c R).2 (i + 1) := by
  obtain ⟨kd, hg, nu, dg, ng, tk⟩ := R
  obtain ⟨h1, h2, h3, h4⟩ := h
  have h1 : kd < 65536 := h1
  have h2 : nu ≤ 3000 := h2
  have h3 : dg ≤ i := h3
  have h4 : hg ≤ 3000 := h4
  have hm := rMost_le kd tk
  have same : rOk (kd, hg, nu, dg, ng, tk) (i + 1) := ⟨h1, h2, by show dg ≤ i + 1; omega, h4⟩
  unfold rTakes
  split
  · split
    · exact ⟨hc, h2, by show dg ≤ i + 1; omega, h4⟩
    · exact same
  · split
    · unfold rStar; split
      · exact ⟨h1, Nat.zero_le _, Nat.zero_le _, h2⟩
      · exact same
    · split
      · unfold rMinus; split
        · exact ⟨h1, h2, by show dg ≤ i + 1; omega, h4⟩
        · exact same
      · split
        · unfold rSemi; split
          · exact ⟨by decide, Nat.zero_le _, Nat.zero_le _, Nat.zero_le _⟩
          · exact same
        · split
          · unfold rDigit; split
            · exact same
            · rename_i q
              have q : ¬ (kd = 110 ∨ (0 < dg ∧ nu = 0) ∨ (kd = 99 ∧ dg = 0 ∧ c - 48 = 0) ∨ rMost kd tk < nu * 10 + (c - 48)) := q
              refine ⟨h1, ?_, by show dg + 1 ≤ i + 1; omega, h4⟩
              show nu * 10 + (c - 48) ≤ 3000
              omega
          · exact same
theorem xRead_ok {bf : Nat → Nat} {ln : Nat} (hb : ∀ i, bf i ≤ 126) : ∀ (f i : Nat) (R : RT), i ≤ ln → rOk R i → rOk (xRead bf ln f i R).2 (ln + 1) ∧ (xRead bf ln f i R).1 ≤ ln
  | 0, i, R, hi, h => ⟨⟨h.1, h.2.1, Nat.le_trans h.2.2.1 (by omega), h.2.2.2⟩, hi⟩
  | f + 1, i, R, hi, h => by
    unfold xRead
    split
    · rename_i c
      have h2 := rTakes_ok (c := bf i) h (by have := hb i; omega)
      split
      · exact xRead_ok hb f (i + 1) _ c h2
      · exact ⟨⟨h2.1, h2.2.1, Nat.le_trans h2.2.2.1 (by omega), h2.2.2.2⟩, hi⟩
    · exact ⟨⟨h.1, h.2.1, Nat.le_trans h.2.2.1 (by omega), h.2.2.2⟩, Nat.le_refl _⟩
/-- the class's state stays in its bounds -/
def qInv (K : CK) : Prop := qN K ≤ 6 ∧ qK K ≤ 8
theorem xStep_inv {R : RT} {K : CK} (h : qInv K) : qInv (xStep R K).2 := by
  obtain ⟨h1, h2⟩ := h
  unfold xStep
  split
  · split
    · rename_i q; exact ⟨by show qN K + 1 ≤ 6; omega, h2⟩
    · exact ⟨h1, h2⟩
  · split
    · split
      · exact ⟨by show qN K - 1 ≤ 6; omega, h2⟩
      · exact ⟨h1, h2⟩
    · split
      · exact ⟨h1, by show min (qK K + 1) 8 ≤ 8; omega⟩
      · exact ⟨h1, h2⟩
theorem nar_c {c : Nat} (h : c < 65536) : vp_nar .char (nI c) = nI c := by
  have := (pk_charN (q := c) h).1
  simpa [vp_nar, narrow] using this
theorem wX_bf {b : Nat → Nat} {cy : Nat → ClassId} {a0 r nx sn ln : Nat} {sv kp : Nat → Option Nat} {ik : Nat → Int32} {bf : Nat → Nat} {k x : Nat} {rest rest2 : va_W} (hx : x < 65536) : ((wXo b cy a0 r nx sn ln sv kp ik bf ++ rest) ++ rest2).set 4 (b 4, .inl (cy 1, 60, .inl (upd (fun j => nI (bf j)) k (vp_nar .char (nI x))))) = (wXo b cy a0 r nx sn ln sv kp ik (updN bf k x) ++ rest) ++ rest2 := by
  rw [nar_c hx, show upd (fun j => nI (bf j)) k (nI x) = fun j => nI (updN bf k x j) from funext fun j => by unfold upd updN; split <;> rfl]
  rfl
theorem xRead_fuel {bf : Nat → Nat} {ln : Nat} : ∀ (f f' i : Nat) (R : RT), ln - i < f → ln - i < f' → xRead bf ln f i R = xRead bf ln f' i R
  | 0, _, _, _, h, _ => by omega
  | _, 0, _, _, _, h => by omega
  | f + 1, f' + 1, i, R, h1, h2 => by
    unfold xRead
    split
    · split
      · exact xRead_fuel f f' _ _ (by omega) (by omega)
      · rfl
    · rfl
theorem xRun_fuel {bf : Nat → Nat} {ln : Nat} : ∀ (f f' i d : Nat) (R : RT) (K : CK), ln - i < f → ln - i < f' → xRun bf ln f i d R K = xRun bf ln f' i d R K
  | 0, _, _, _, _, _, h, _ => by omega
  | _, 0, _, _, _, _, _, h => by omega
  | f + 1, f' + 1, i, d, R, K, h1, h2 => by
    unfold xRun
    split
    · split
      · split
        · exact xRun_fuel f f' _ _ _ _ (by omega) (by omega)
        · rfl
      · exact xRun_fuel f f' _ _ _ _ (by omega) (by omega)
    · rfl
theorem i2c_nI {c : Nat} (h : c ≤ 126) : ((nI c).toUInt32 % 65536).toInt32 = nI c := by
  have : ∀ i : Fin 127, ((nI i.val).toUInt32 % 65536).toInt32 = nI i.val := by decide +kernel
  exact this ⟨c, by omega⟩
def xTc (sn ln n : Nat) (lit : Int32) (h t s g : Nat → Int32) (kn : Nat) (lo lf : Int32) (w : Nat) : Int32 :=
  if w = 0 then nI n else if w = 1 then s 0 else if w = 2 then s 1 else if w = 3 then lit else if w = 4 then sMeet g (s 0) (s 1) else if w = 5 then sBits (nI (sMask h t g (g 1) n)) * sBits lit
  else if w = 6 then sBits (nI (sPm lit h t g n)) else if w = 7 then nI (sCnt (sClose lit h t s g) n) else if w = 8 then nI kn else if w = 9 then lo else if w = 10 then lf else if w = 11 then nI sn else if w = 12 then nI ln else g (w - 13)
