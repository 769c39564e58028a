/-! means are numbers, and equal to themselves -/
def dGood (d : FP.Core.Datum) : Prop := match d with
  | .nan => False
  | .inf _ => True
  | .fin _ c q => c < 16777216 ∧ (c < 8388608 ∨ q ≤ 104)
theorem dGood_settle (s : Bool) (c : Nat) (q : Int) : dGood (FP.Core.settle FP.Core.b32 s c q) := by
  have e1 : FP.Core.b32.p = 24 := rfl
  have e2 : FP.Core.b32.qmax = 104 := by decide +kernel
  have e3 : FP.Core.b32.tails = 8388608 := by decide +kernel
  unfold FP.Core.settle FP.Core.bound
  rw [e1, e2, e3]
  split
  · split
    · exact ⟨by omega, Or.inr (by omega)⟩
    · exact trivial
  · split
    · exact ⟨by omega, Or.inr (by omega)⟩
    · exact trivial
theorem dGood_ratio (s : Bool) (a b : Nat) (e : Int) : dGood (FP.Core.roundRatio FP.Core.b32 s a b e) := by
  unfold FP.Core.roundRatio
  split
  · exact ⟨by omega, Or.inl (by omega)⟩
  · exact dGood_settle _ _ _
theorem dec_enc {d : FP.Core.Datum} (h : dGood d) : ¬ FP.Core.decode FP.Core.b32 (UInt32.ofNat (FP.Core.encode FP.Core.b32 d)).toNat = .nan := by
  have e1 : FP.Core.b32.tails = 8388608 := by decide +kernel
  have e2 : FP.Core.b32.exps = 256 := by decide +kernel
  have e3 : FP.Core.b32.qmin = -149 := by decide +kernel
  have key : ∀ s e t, e < 256 → t < 8388608 → (e = 255 → t = 0) → ¬ FP.Core.decode FP.Core.b32 (UInt32.ofNat (FP.Core.assemble FP.Core.b32 s e t)).toNat = .nan := by
    intro s e t he ht het
    have hs : s.toNat ≤ 1 := by cases s <;> decide
    have ea : FP.Core.assemble FP.Core.b32 s e t = (s.toNat * 256 + e) * 8388608 + t := by unfold FP.Core.assemble; rw [e1, e2]
    have en : (UInt32.ofNat (FP.Core.assemble FP.Core.b32 s e t)).toNat = (s.toNat * 256 + e) * 8388608 + t := by
      rw [ea, UInt32.toNat_ofNat']
      exact Nat.mod_eq_of_lt (by omega)
    rw [en]
    unfold FP.Core.decode
    have f1 : FP.Core.fieldE FP.Core.b32 ((s.toNat * 256 + e) * 8388608 + t) = e := by unfold FP.Core.fieldE; rw [e1, e2]; omega
    have f2 : FP.Core.fieldT FP.Core.b32 ((s.toNat * 256 + e) * 8388608 + t) = t := by unfold FP.Core.fieldT; rw [e1]; omega
    rw [f1, f2, e2]
    by_cases c : e = 256 - 1
    · rw [if_pos c, if_pos (het (by omega))]
      exact fun q => by cases q
    · rw [if_neg c]
      split
      · exact fun q => by cases q
      · exact fun q => by cases q
  match d, h with
  | .inf s, _ =>
    show ¬ FP.Core.decode FP.Core.b32 (UInt32.ofNat (FP.Core.assemble FP.Core.b32 s (FP.Core.b32.exps - 1) 0)).toNat = .nan
    rw [e2]
    exact key s 255 0 (by omega) (by omega) (fun _ => rfl)
  | .fin s c q, h =>
    obtain ⟨h1, h2⟩ := h
    unfold FP.Core.encode
    rw [e1, e3]
    show ¬ FP.Core.decode FP.Core.b32 (UInt32.ofNat (if c < 8388608 then _ else _)).toNat = .nan
    split
    · exact key s 0 c (by omega) (by omega) (by omega)
    · exact key s ((q - -149).toNat + 1) (c - 8388608) (by omega) (by omega) (by omega)
theorem i2f_num (x : Int32) : ¬ FP.Core.decode FP.Core.b32 (FP.i2f x).toNat = .nan := dec_enc (dGood_ratio _ _ _ _)
theorem i2f_one : ∀ m : Nat, m < 9 → 0 < m → ∃ t d r, FP.Core.decode FP.Core.b32 (FP.i2f (nI m)).toNat = .fin t d r ∧ ¬ d = 0 := by
  intro m hm h0
  have : ∀ i : Fin 9, 0 < i.val → (match FP.Core.decode FP.Core.b32 (FP.i2f (nI i.val)).toNat with | .fin _ d _ => decide (¬ d = 0) | _ => false) = true := by decide +kernel
  have h := this ⟨m, hm⟩ h0
  revert h
  show (match FP.Core.decode FP.Core.b32 (FP.i2f (nI m)).toNat with | .fin _ d _ => decide (¬ d = 0) | _ => false) = true → _
  generalize FP.Core.decode FP.Core.b32 (FP.i2f (nI m)).toNat = D
  intro h
  match D, h with
  | .fin t d r, h => exact ⟨t, d, r, rfl, of_decide_eq_true h⟩
theorem mean_num {s : Int32} {m : Nat} (hm : m < 9) (h0 : 0 < m) : ¬ FP.Core.decode FP.Core.b32 (FP.fdiv (FP.i2f s) (FP.i2f (nI m))).toNat = .nan := by
  obtain ⟨t, d, r, e, hd⟩ := i2f_one m hm h0
  have hx := i2f_num s
  show ¬ FP.Core.decode FP.Core.b32 (UInt32.ofNat (FP.Core.encode FP.Core.b32 (FP.Core.quotient FP.Core.b32 (FP.Core.decode FP.Core.b32 (FP.i2f s).toNat) (FP.Core.decode FP.Core.b32 (FP.i2f (nI m)).toNat)))).toNat = .nan
  rw [e]
  refine dec_enc ?_
  generalize FP.Core.decode FP.Core.b32 (FP.i2f s).toNat = D at hx
  match D, hx with
  | .nan, hx => exact absurd rfl hx
  | .inf u, _ => exact trivial
  | .fin u c q, _ =>
    show dGood (if d = 0 then _ else _)
    rw [if_neg hd]
    exact dGood_ratio _ _ _ _
theorem order_self {d : FP.Core.Datum} (h : ¬ d = .nan) : FP.Core.order d d = some .eq := by
  match d, h with
  | .nan, h => exact absurd rfl h
  | .inf s, _ => show some (compare _ _) = _; rw [Std.ReflOrd.compare_self]
  | .fin s c q, _ => show some (compare _ _) = _; rw [Std.ReflOrd.compare_self]
theorem fcmp_self {x : UInt32} (h : ¬ FP.Core.decode FP.Core.b32 x.toNat = .nan) : Op.cmpValue (FP.fcmp x x) .l = 0 := by
  have : FP.fcmp x x = some .eq := order_self h
  rw [this]; rfl
theorem nan32 {x : UInt32} (h : isNaN32 x = true) : FP.Core.decode FP.Core.b32 x.toNat = .nan := by
  rw [isNaN32_iff, show (0x7fffffff : Nat) = 2 ^ 31 - 1 from by decide +kernel, Nat.and_two_pow_sub_one_eq_mod] at h
  have e : FP.Core.fieldE FP.Core.b32 x.toNat = x.toNat / 8388608 % 256 := rfl
  have f : FP.Core.fieldT FP.Core.b32 x.toNat = x.toNat % 8388608 := rfl
  have g : FP.Core.b32.exps - 1 = 255 := rfl
  unfold FP.Core.decode
  rw [e, f, g, if_pos (by omega), if_neg (by omega)]
theorem mean_eq {m : Nat} {s : Int32} {x y : UInt32} (hm : m < 9) (h1 : fMean m s x) (h2 : fMean m s y) : Op.cmpValue (FP.fcmp x y) .l = 0 := by
  have al : ∀ {r : UInt32}, 0 < m → alike32 r (FP.fdiv (FP.i2f s) (FP.i2f (nI m))) = true → r = FP.fdiv (FP.i2f s) (FP.i2f (nI m)) := by
    intro r h0 h
    unfold alike32 at h
    simp only [Bool.or_eq_true, Bool.and_eq_true, decide_eq_true_eq] at h
    rcases h with h | ⟨-, h⟩
    · exact h
    · exact absurd (nan32 h) (mean_num hm h0)
  rcases h1 with ⟨a, rfl⟩ | ⟨a, b⟩
  · rcases h2 with ⟨c, rfl⟩ | ⟨c, d⟩
    · decide +kernel
    · omega
  · rcases h2 with ⟨c, e⟩ | ⟨c, d⟩
    · omega
    · rw [al a b, al c d]
      exact fcmp_self (mean_num hm a)
