/-! what the start gives -/
theorem st_t {w : Cond} (h : w ∈ tables_1) : w ∈ lw_tbl := List.mem_append_right _ h
def stG : List Cond := flatC (Jvm.Cond.and given_1 narrow_1)
theorem st_a0 : Cond.stringRef RX3 44 "height or thickness out of range" ∈ tables_1 := List.mem_of_getElem? (i := 259) (by decide +kernel)
theorem st_b0 : Cond.exactly (.string RX3 44) "java/lang/String" ∈ stG := List.mem_of_getElem? (i := 59) (by decide +kernel)
theorem st_a1 : Cond.stringRef RX3 54 "too many layers, or one has this height" ∈ tables_1 := List.mem_of_getElem? (i := 270) (by decide +kernel)
theorem st_b1 : Cond.exactly (.string RX3 54) "java/lang/String" ∈ stG := List.mem_of_getElem? (i := 96) (by decide +kernel)
theorem st_a2 : Cond.stringRef RX3 69 "no such layer" ∈ tables_1 := List.mem_of_getElem? (i := 424) (by decide +kernel)
theorem st_b2 : Cond.exactly (.string RX3 69) "java/lang/String" ∈ stG := List.mem_of_getElem? (i := 272) (by decide +kernel)
theorem st_a3 : Cond.stringRef RX3 76 "thickness out of range" ∈ tables_1 := List.mem_of_getElem? (i := 436) (by decide +kernel)
theorem st_b3 : Cond.exactly (.string RX3 76) "java/lang/String" ∈ stG := List.mem_of_getElem? (i := 297) (by decide +kernel)
theorem st_a4 : Cond.stringRef RX3 84 "no such light" ∈ tables_1 := List.mem_of_getElem? (i := 303) (by decide +kernel)
theorem st_b4 : Cond.exactly (.string RX3 84) "java/lang/String" ∈ stG := List.mem_of_getElem? (i := 141) (by decide +kernel)
theorem st_a5 : Cond.stringRef RX3 86 "slope out of range" ∈ tables_1 := List.mem_of_getElem? (i := 310) (by decide +kernel)
theorem st_b5 : Cond.exactly (.string RX3 86) "java/lang/String" ∈ stG := List.mem_of_getElem? (i := 161) (by decide +kernel)
theorem st_a6 : Cond.stringRef RX3 94 "no such setting" ∈ tables_1 := List.mem_of_getElem? (i := 411) (by decide +kernel)
theorem st_b6 : Cond.exactly (.string RX3 94) "java/lang/String" ∈ stG := List.mem_of_getElem? (i := 218) (by decide +kernel)
theorem st_a7 : Cond.stringRef RX3 103 "value out of range" ∈ tables_1 := List.mem_of_getElem? (i := 416) (by decide +kernel)
theorem st_b7 : Cond.exactly (.string RX3 103) "java/lang/String" ∈ stG := List.mem_of_getElem? (i := 243) (by decide +kernel)
theorem st_a8 : Cond.stringRef RX3 108 "no such light or layer" ∈ tables_1 := List.mem_of_getElem? (i := 327) (by decide +kernel)
theorem st_b8 : Cond.exactly (.string RX3 108) "java/lang/String" ∈ stG := List.mem_of_getElem? (i := 187) (by decide +kernel)
theorem st_a9 : Cond.stringRef RX3 148 "no state is saved" ∈ tables_1 := List.mem_of_getElem? (i := 189) (by decide +kernel)
theorem st_b9 : Cond.exactly (.string RX3 148) "java/lang/String" ∈ stG := List.mem_of_getElem? (i := 38) (by decide +kernel)
theorem st_a10 : Cond.stringRef RX3 180 "what is not 0 to 3" ∈ tables_1 := List.mem_of_getElem? (i := 528) (by decide +kernel)
theorem st_b10 : Cond.exactly (.string RX3 180) "java/lang/String" ∈ stG := List.mem_of_getElem? (i := 365) (by decide +kernel)
theorem st_a11 : Cond.stringRef RX3 182 "what is not 0 to 4" ∈ tables_1 := List.mem_of_getElem? (i := 602) (by decide +kernel)
theorem st_b11 : Cond.exactly (.string RX3 182) "java/lang/String" ∈ stG := List.mem_of_getElem? (i := 452) (by decide +kernel)
theorem st_a12 : Cond.stringRef RX3 194 "ago is negative, or what is not 0 to 3" ∈ tables_1 := List.mem_of_getElem? (i := 540) (by decide +kernel)
theorem st_b12 : Cond.exactly (.string RX3 194) "java/lang/String" ∈ stG := List.mem_of_getElem? (i := 398) (by decide +kernel)
theorem st_a13 : Cond.stringRef RX3 237 "what is not 0 to 16" ∈ tables_1 := List.mem_of_getElem? (i := 520) (by decide +kernel)
theorem st_b13 : Cond.exactly (.string RX3 237) "java/lang/String" ∈ stG := List.mem_of_getElem? (i := 332) (by decide +kernel)
theorem st_a14 : Cond.stringRef RX3 239 "way is neither 0 nor 1" ∈ tables_1 := List.mem_of_getElem? (i := 619) (by decide +kernel)
theorem st_b14 : Cond.exactly (.string RX3 239) "java/lang/String" ∈ stG := List.mem_of_getElem? (i := 487) (by decide +kernel)
theorem st_tx : ∀ q ∈ zTx, Cond.stringRef RX3 q.1 q.2 ∈ tables_1 ∧ Cond.exactly (.string RX3 q.1) "java/lang/String" ∈ stG := List.forall_mem_cons.mpr ⟨⟨st_a0, st_b0⟩, List.forall_mem_cons.mpr ⟨⟨st_a1, st_b1⟩, List.forall_mem_cons.mpr ⟨⟨st_a2, st_b2⟩, List.forall_mem_cons.mpr ⟨⟨st_a3, st_b3⟩, List.forall_mem_cons.mpr ⟨⟨st_a4, st_b4⟩, List.forall_mem_cons.mpr ⟨⟨st_a5, st_b5⟩, List.forall_mem_cons.mpr ⟨⟨st_a6, st_b6⟩, List.forall_mem_cons.mpr ⟨⟨st_a7, st_b7⟩, List.forall_mem_cons.mpr ⟨⟨st_a8, st_b8⟩, List.forall_mem_cons.mpr ⟨⟨st_a9, st_b9⟩, List.forall_mem_cons.mpr ⟨⟨st_a10, st_b10⟩, List.forall_mem_cons.mpr ⟨⟨st_a11, st_b11⟩, List.forall_mem_cons.mpr ⟨⟨st_a12, st_b12⟩, List.forall_mem_cons.mpr ⟨⟨st_a13, st_b13⟩, List.forall_mem_cons.mpr ⟨⟨st_a14, st_b14⟩, fun _ h => absurd h List.not_mem_nil⟩⟩⟩⟩⟩⟩⟩⟩⟩⟩⟩⟩⟩⟩⟩
theorem st_c0 : Cond.castable "java/lang/IllegalArgumentException" "java/lang/IllegalArgumentException" ∈ tables_1 := List.mem_of_getElem? (i := 252) (by decide +kernel)
theorem st_c1 : Cond.castable "java/lang/IllegalStateException" "java/lang/IllegalStateException" ∈ tables_1 := List.mem_of_getElem? (i := 150) (by decide +kernel)
theorem st_c2 : Cond.castable "java/lang/IndexOutOfBoundsException" "java/lang/IndexOutOfBoundsException" ∈ tables_1 := List.mem_of_getElem? (i := 296) (by decide +kernel)
theorem st_d0 : Cond.declares (Bundle.initS "java/lang/RuntimeException") ∈ tables_1 := List.mem_of_getElem? (i := 152) (by decide +kernel)
theorem st_d1 : Cond.declares (Bundle.initS "java/lang/Exception") ∈ tables_1 := List.mem_of_getElem? (i := 154) (by decide +kernel)
theorem st_d2 : Cond.declares (Bundle.initS Bundle.tN) ∈ tables_1 := List.mem_of_getElem? (i := 156) (by decide +kernel)
theorem st_nw : ∀ w ∈ zNw, w ∈ tables_1 := List.forall_mem_cons.mpr ⟨st_c0, List.forall_mem_cons.mpr ⟨st_c1, List.forall_mem_cons.mpr ⟨st_c2, List.forall_mem_cons.mpr ⟨st_d0, List.forall_mem_cons.mpr ⟨st_d1, List.forall_mem_cons.mpr ⟨st_d2, fun _ h => absurd h List.not_mem_nil⟩⟩⟩⟩⟩⟩
theorem st_e0 : Cond.laysStatic Bundle.tN "UNASSIGNED_STACK" Bundle.steD ∈ tables_1 := List.mem_of_getElem? (i := 175) (by decide +kernel)
theorem st_e1 : Cond.laysStatic Bundle.tN "SUPPRESSED_SENTINEL" Bundle.listD ∈ tables_1 := List.mem_of_getElem? (i := 177) (by decide +kernel)
theorem st_e2 : Cond.initialized Bundle.tN ∈ tables_1 := List.mem_of_getElem? (i := 7) (by decide +kernel)
theorem st_e3 : Cond.initialized "CloudBeams" ∈ tables_1 := List.mem_of_getElem? (i := 1) (by decide +kernel)
theorem st_e4 : Cond.isRef (.static Bundle.tN "UNASSIGNED_STACK" Bundle.steD) ∈ stG := List.mem_of_getElem? (i := 4) (by decide +kernel)
theorem st_e5 : Cond.isRef (.static Bundle.tN "SUPPRESSED_SENTINEL" Bundle.listD) ∈ stG := List.mem_of_getElem? (i := 5) (by decide +kernel)
theorem st_n0 : Cond.not (.castable "java/lang/IllegalStateException" "java/lang/IllegalArgumentException") ∈ stG := List.mem_of_getElem? (i := 31) (by decide +kernel)
theorem st_n1 : Cond.not (.castable "java/lang/IllegalArgumentException" "java/lang/IndexOutOfBoundsException") ∈ stG := List.mem_of_getElem? (i := 36) (by decide +kernel)
theorem st_l0 : Cond.laysStatic "CloudBeams" "LEAST_VALUES" "[I" ∈ tables_1 := List.mem_of_getElem? (i := 413) (by decide +kernel)
theorem st_l1 : Cond.arrayOf (.static "CloudBeams" "LEAST_VALUES" "[I") .int ∈ stG := List.mem_of_getElem? (i := 7) (by decide +kernel)
theorem st_l2 : Cond.eq (.length (.static "CloudBeams" "LEAST_VALUES" "[I")) (.int 4) ∈ stG := List.mem_of_getElem? (i := 8) (by decide +kernel)
theorem st_le0 : Cond.eq (.elem (.static "CloudBeams" "LEAST_VALUES" "[I") (.int 0)) (.int 50) ∈ stG := List.mem_of_getElem? (i := 9) (by decide +kernel)
theorem st_le1 : Cond.eq (.elem (.static "CloudBeams" "LEAST_VALUES" "[I") (.int 1)) (.int 0) ∈ stG := List.mem_of_getElem? (i := 10) (by decide +kernel)
theorem st_le2 : Cond.eq (.elem (.static "CloudBeams" "LEAST_VALUES" "[I") (.int 2)) (.int 1) ∈ stG := List.mem_of_getElem? (i := 11) (by decide +kernel)
theorem st_le3 : Cond.eq (.elem (.static "CloudBeams" "LEAST_VALUES" "[I") (.int 3)) (.int 0) ∈ stG := List.mem_of_getElem? (i := 12) (by decide +kernel)
theorem st_m0 : Cond.laysStatic "CloudBeams" "MOST_VALUES" "[I" ∈ tables_1 := List.mem_of_getElem? (i := 415) (by decide +kernel)
theorem st_m1 : Cond.arrayOf (.static "CloudBeams" "MOST_VALUES" "[I") .int ∈ stG := List.mem_of_getElem? (i := 14) (by decide +kernel)
theorem st_m2 : Cond.eq (.length (.static "CloudBeams" "MOST_VALUES" "[I")) (.int 4) ∈ stG := List.mem_of_getElem? (i := 15) (by decide +kernel)
theorem st_me0 : Cond.eq (.elem (.static "CloudBeams" "MOST_VALUES" "[I") (.int 0)) (.int 1000) ∈ stG := List.mem_of_getElem? (i := 16) (by decide +kernel)
theorem st_me1 : Cond.eq (.elem (.static "CloudBeams" "MOST_VALUES" "[I") (.int 1)) (.int 1000) ∈ stG := List.mem_of_getElem? (i := 17) (by decide +kernel)
theorem st_me2 : Cond.eq (.elem (.static "CloudBeams" "MOST_VALUES" "[I") (.int 2)) (.int 500) ∈ stG := List.mem_of_getElem? (i := 18) (by decide +kernel)
theorem st_me3 : Cond.eq (.elem (.static "CloudBeams" "MOST_VALUES" "[I") (.int 3)) (.int 100) ∈ stG := List.mem_of_getElem? (i := 19) (by decide +kernel)
theorem st_k0 : Cond.arrayClass .int ∈ tables_1 := List.mem_of_getElem? (i := 50) (by decide +kernel)
theorem st_k1 : Cond.arrayClass .char ∈ tables_1 := List.mem_of_getElem? (i := 102) (by decide +kernel)
theorem st_k2 : Cond.arrayClass .boolean ∈ tables_1 := List.mem_of_getElem? (i := 101) (by decide +kernel)
theorem st_k4 : Cond.arrayOver (.object "CloudBeams$Sky") ∈ tables_1 := List.mem_of_getElem? (i := 80) (by decide +kernel)
theorem st_i0 : Cond.instantiable RX0 4 ∈ tables_1 := List.mem_of_getElem? (i := 29) (by decide +kernel)
theorem st_i1 : Cond.instantiable RX1 6 ∈ tables_1 := List.mem_of_getElem? (i := 82) (by decide +kernel)
theorem st_i2 : Cond.instantiable RX2 7 ∈ tables_1 := List.mem_of_getElem? (i := 23) (by decide +kernel)
theorem st_i3 : Cond.instantiable RX3 9 ∈ tables_1 := List.mem_of_getElem? (i := 15) (by decide +kernel)
theorem vaX_of {args : Array Value} {s : State} {tm : Term} {N : Nat} {f : Nat → Int32} (hN : N < 2 ^ 31) (harr : (Cond.arrayOf tm .int).before args s = true) (hlen : (Term.length tm).eval args s none [] s = some (.int (Int32.ofNat N))) (hel : ∀ j : Nat, j < N → (Term.elem tm (.int (Int32.ofNat j))).eval args s none [] s = some (.int (f j))) : ∃ t : Nat, tm.eval args s none [] s = some (.ref t) ∧ va_X t N f s s.heap ∧ t < s.heap.size := by
  obtain ⟨t, cell, ht, hat, hv⟩ := Term.length_spec hlen
  obtain ⟨t2, hT, cell2, c1, c2, c3, c4, c5, c6, -⟩ := va_Tof (f := fun j => .int (f j)) (A := fun _ => False) hN harr hlen hel (fun _ _ h => h)
  cases ht.symm.trans hT
  obtain ⟨hcell, -⟩ := State.arrayAt?_spec hat
  cases hcell.symm.trans c1
  have hsz : cell.slots.size < 2 ^ 31 := by
    simp only [Term.eval, ht, hat, Option.bind_eq_bind, Option.bind_some] at hlen
    by_cases hlt : cell.slots.size < 2147483648
    · exact hlt
    · simp [hlt] at hlen
  have hs : cell.slots.size = N := (nI_eq hsz hN).mp c5
  exact ⟨t, ht, ⟨cell, c1, c2, c3, hs, c6⟩, (Array.getElem?_eq_some_iff.mp c1).1⟩
theorem st_stat {args : Array Value} {s : State} {nm : String} {f : Nat → Int32} (hl : (Cond.laysStatic "CloudBeams" nm "[I").before args s = true) (hini : (Cond.initialized "CloudBeams").before args s = true) (harr : (Cond.arrayOf (.static "CloudBeams" nm "[I") .int).before args s = true) (hlen : (Cond.eq (.length (.static "CloudBeams" nm "[I")) (.int 4)).before args s = true)
    (h0 : (Cond.eq (.elem (.static "CloudBeams" nm "[I") (.int 0)) (.int (f 0))).before args s = true) (h1 : (Cond.eq (.elem (.static "CloudBeams" nm "[I") (.int 1)) (.int (f 1))).before args s = true) (h2 : (Cond.eq (.elem (.static "CloudBeams" nm "[I") (.int 2)) (.int (f 2))).before args s = true) (h3 : (Cond.eq (.elem (.static "CloudBeams" nm "[I") (.int 3)) (.int (f 3))).before args s = true) :
    ∃ a : Nat, va_Z "CloudBeams" nm "[I" (.ref a) (fun q => s.heap.size ≤ q) s s.heap ∧ va_X a 4 f s s.heap ∧ a < s.heap.size ∧ ¬ s.heap.size ≤ a := by
  obtain ⟨t, h4, h5, h6⟩ := vaX_of (N := 4) (f := f) (by decide) harr (va_eqt hlen) (fun j hj => by
    rcases (show j = 0 ∨ j = 1 ∨ j = 2 ∨ j = 3 by omega) with rfl | rfl | rfl | rfl
    · exact va_eqt h0
    · exact va_eqt h1
    · exact va_eqt h2
    · exact va_eqt h3)
  exact ⟨t, va_Zof hl hini h4 (fun a h => Nat.not_le.mpr h), h5, h6, Nat.not_le.mpr h6⟩
theorem kz_start {s : State} {b : Nat} (hts : ∀ w ∈ lw_tbl, w.before #[Value.ref b] s = true) (hgv : (Jvm.Cond.and given_1 narrow_1).before #[Value.ref b] s = true) : kZ (fun q => s.heap.size ≤ q) s s.heap := by
  have hg : ∀ w ∈ stG, w.before #[Value.ref b] s = true := flat_of_before _ hgv
  have ht : ∀ w ∈ tables_1, w.before #[Value.ref b] s = true := fun w h => hts w (st_t h)
  have hA : ∀ a : Nat, a < s.heap.size → ¬ s.heap.size ≤ a := fun a h => Nat.not_le.mpr h
  refine ⟨fun q hq => ?_, fun w hw => va_Nw.of (List.all_eq_true.mp (show zNw.all Cond.onTables = true by decide +kernel) w hw) (ht w (st_nw w hw)), vx_Zqof (ht _ st_e0) (ht _ st_e2) (hg _ st_e4) hA, vx_Zqof (ht _ st_e1) (ht _ st_e2) (hg _ st_e5) hA, ?_, ?_, va_Nc.of (hg _ st_n0), va_Nc.of (hg _ st_n1)⟩
  · obtain ⟨w1, w2⟩ := st_tx q hq
    obtain ⟨a, c, cA, kA, q1, -⟩ := Cond.exactly_spec (args := #[Value.ref b]) (first := s) (o := none) (s := s) (idx := []) (t := .string RX3 q.1) (cls := "java/lang/String") (hg _ w2)
    exact ⟨a, vk_R.of (ht _ w1) q1⟩
  · exact st_stat (f := mLeast) (ht _ st_l0) (ht _ st_e3) (hg _ st_l1) (hg _ st_l2) (hg _ st_le0) (hg _ st_le1) (hg _ st_le2) (hg _ st_le3)
  · exact st_stat (f := mMost) (ht _ st_m0) (ht _ st_e3) (hg _ st_m1) (hg _ st_m2) (hg _ st_me0) (hg _ st_me1) (hg _ st_me2) (hg _ st_me3)
theorem kk_start {s : State} {b : Nat} (hts : ∀ w ∈ lw_tbl, w.before #[Value.ref b] s = true) : ∃ (D : va_G) (cy : Nat → ClassId), va_K D vwCl (kT cy) s := by
  have ht : ∀ w ∈ tables_1, w.before #[Value.ref b] s = true := fun w h => hts w (st_t h)
  have hL : ∀ w ∈ wsL_law, w.before #[Value.ref b] s = true := fun w h => hts w (wsL_law_in w h)
  obtain ⟨c0, i0, k0⟩ := u_known (C := RX0) (T := TX0) (N := 4) (n := 4) hL inlX0 (ht _ st_i0)
  obtain ⟨c1, i1, k1⟩ := u_known (C := RX1) (T := TX1) (N := 6) (n := 6) hL inlX1 (ht _ st_i1)
  obtain ⟨c2, i2, k2⟩ := u_known (C := RX2) (T := TX2) (N := 7) (n := 7) hL inlX2 (ht _ st_i2)
  obtain ⟨c3, i3, k3⟩ := u_known (C := RX3) (T := TX3) (N := 9) (n := 9) hL inlX3 (ht _ st_i3)
  obtain ⟨a0, ka0, p0, f0, g0, h0⟩ := Cond.arrayClass_spec (ht _ st_k0)
  obtain ⟨a1, ka1, p1, f1, g1, h1⟩ := Cond.arrayClass_spec (ht _ st_k1)
  obtain ⟨a2, ka2, p2, f2, g2, h2⟩ := Cond.arrayClass_spec (ht _ st_k2)
  obtain ⟨comp, a3, ka3, q1, q2, q3, q4, q5⟩ := Cond.arrayOver_spec (ht _ st_k4)
  refine ⟨(fun k => if k = 0 then c0 else if k = 1 then c1 else if k = 2 then c2 else c3, fun k => if k = 0 then i0 else if k = 1 then i1 else if k = 2 then i2 else i3), fun k => if k = 0 then a0 else if k = 1 then a1 else if k = 2 then a2 else a3, ?_, ?_⟩
  · intro k q hq
    match k, hq with
    | 0, hq => cases hq; exact k0
    | 1, hq => cases hq; exact k1
    | 2, hq => cases hq; exact k2
    | 3, hq => cases hq; exact k3
    | k + 4, hq => simp [vwCl] at hq
  · intro k q hq
    match k, hq with
    | 0, hq => cases hq; exact ⟨fun n z => ⟨fun k h => (by cases h), ka0, g0, p0, h0⟩, f0⟩
    | 1, hq => cases hq; exact ⟨fun n z => ⟨fun k h => (by cases h), ka1, g1, p1, h1⟩, f1⟩
    | 2, hq => cases hq; exact ⟨fun n z => ⟨fun k h => (by cases h), ka2, g2, p2, h2⟩, f2⟩
    | 3, hq => cases hq; exact ⟨fun n z => ⟨fun k h => (by cases h), ka3, q3, comp, q4⟩, ka3, comp, q3, q4, q1, q5⟩
    | k + 4, hq => simp [kT] at hq
