abbrev rm_L_layer : Room := { frames := 7, cells := 1, slots := 6, locals := 137 }
theorem in0_L_layer : ∀ w ∈ wsX00, w ∈ wsL_layer := fun _ h => (List.mem_cons_of_mem _ (List.mem_append_left _ (List.mem_append_left _ (List.mem_append_right _ h))))
theorem in2_L_layer : ∀ w ∈ wsX20, w ∈ wsL_layer := fun _ h => (List.mem_cons_of_mem _ (List.mem_append_left _ (List.mem_append_left _ (List.mem_append_left _ (List.mem_append_right _ h)))))
theorem in3_L_layer : ∀ w ∈ wsX30, w ∈ wsL_layer := fun _ h => (List.mem_cons_of_mem _ (List.mem_append_left _ (List.mem_append_left _ (List.mem_append_left _ (List.mem_append_left _ (List.mem_append_right _ h))))))
set_option maxHeartbeats 4000000 in
set_option maxRecDepth 100000 in
theorem c_L_layer (cy : Nat → ClassId) (a : Nat → Nat) (b : Nat → Nat) (r : Nat) (nx : Nat) (sn : Nat) (ln : Nat) (sk : Nat → Nat → Nat) (S : Nat → CK) (ik : Nat → Int32) (bf : Nat → Nat) (kd : Nat) (hg : Nat) (nu : Nat) (dg : Nat) (ng : Bool) (tk : Bool) (n : Nat) (lit : Int32) (h : Nat → Int32) (t : Nat → Int32) (s : Nat → Int32) (g : Nat → Int32) (kn : Nat) (lo : Int32) (lf : Int32) (nm : Nat → Int32) (ob : Nat) (ou : Nat → Int64) (x : Int32) (y : Int32)  (hnx : nx < 6) (hsn : sn ≤ 6) (hx : 50 ≤ x ∧ x ≤ 3000) (hy : 1 ≤ y ∧ y ≤ 100) (ha : sAny h x n = false) (hn : n < 6) : kIl yL_layer wsL_layer rm_L_layer cy [.ref (b 0), .int x, .int y, .ref ob] ([(ob, .inl (cy 4, 1, .inr (.inl ou)))] ++ ((wXo b cy (a 0) r nx sn ln (svOf sk) (kpOf sk) ik bf ++ wRd r kd hg nu dg ng tk) ++ (wSky a cy n lit h t s g kn lo lf nm ++ wOth sk cy S))) 0 ([(ob, .inl (cy 4, 1, .inr (.inl (vp_updL ou 0 (nI (sPos h x n)).toInt64))))] ++ ((wXo b cy (a 0) r ((nx + 1) % 6) (min (sn + 1) 6) ln (svOf sk) (kpOf sk) ik bf ++ wRd r kd hg nu dg ng tk) ++ (wSky a cy (n + 1) lit (sIns h n (sPos h x n) x) (sIns t n (sPos h x n) y) s g kn lo lf nm ++ wOth sk cy (updS S nx (cLike (n, lit, h, t, s, g, kn, lo, lf, nm) (S nx)))))) := by
  refine kIl_of (cc := cL_layer) (maxL := 5) (by decide) rfl (Nat.le_of_ble_eq_true rfl) ?_
  intro X hR C Z hst htb E
  have C : kC X 5 RL cL_layer wsL_layer cy := C
  refine k_fr (fr2 := [(0, .ref (b 0)), (1, .int x), (2, .int y), (3, .ref ob)]) ⟨[0, 1, 2, 3], rfl⟩ ?_
  refine k_aload_n (q := 1) C 3 dL_layer_0 rfl rfl ?_
  refine k_iconst (q := 2) (v := 0) C dL_layer_1 (by decide) rfl ?_
  refine k_aload_n (q := 3) C 0 dL_layer_2 rfl rfl ?_
  refine k_iload_n (q := 4) C 1 dL_layer_3 rfl rfl ?_
  refine k_iload_n (q := 5) C 2 dL_layer_4 rfl rfl ?_
  refine k_callVI (n := 2) (q := 8) (pre := ([(ob, .inl (cy 4, 1, .inr (.inl ou)))] : va_W)) (post := ([] : va_W)) (w2 := ([(ob, .inl (cy 4, 1, .inr (.inl ou)))] ++ ((wXo b cy (a 0) r ((nx + 1) % 6) (min (sn + 1) 6) ln (svOf sk) (kpOf sk) ik bf ++ wRd r kd hg nu dg ng tk) ++ (wSky a cy (n + 1) lit (sIns h n (sPos h x n) x) (sIns t n (sPos h x n) y) s g kn lo lf nm ++ wOth sk cy (updS S nx (cLike (n, lit, h, t, s, g, kn, lo, lf, nm) (S nx))))))) (As := [.int x, .int y]) (rest := [.int 0, .ref ob]) C (c_X3_layer cy a b r nx sn ln sk S ik bf kd hg nu dg ng tk n lit h t s g kn lo lf nm x y hnx hsn hx hy ha hn) gL_layer_X3_layer rfl rfl rfl (by decide +kernel) (k_room hR (by decide)) ⟨Nat.zero_le _, Nat.zero_le _⟩ (ci := 3) rfl 0 rfl rfl rfl (Nat.le_of_ble_eq_true rfl) (k_pre) (k_pre.symm) dL_layer_5 rfl ?_
  refine k_i2l (q := 9) C dL_layer_8 rfl ?_
  refine k_last (q := 10) (w2 := ([(ob, .inl (cy 4, 1, .inr (.inl (vp_updL ou 0 ((nI (sPos h x n)).toInt64)))))] ++ ((wXo b cy (a 0) r ((nx + 1) % 6) (min (sn + 1) 6) ln (svOf sk) (kpOf sk) ik bf ++ wRd r kd hg nu dg ng tk) ++ (wSky a cy (n + 1) lit (sIns h n (sPos h x n) x) (sIns t n (sPos h x n) y) s g kn lo lf nm ++ wOth sk cy (updS S nx (cLike (n, lit, h, t, s, g, kn, lo, lf, nm) (S nx))))))) C 0 rfl (vp_in_nI (n := 0) (by decide) (by decide)) rfl dL_layer_9 rfl ?_
  refine k_goto (q := 21) C dL_layer_10 (by decide) ?_
  refine k_iconst (q := 22) (v := 0) C dL_layer_21 (by decide) rfl ?_
  exact k_finL E (by decide) (by decide) dL_layer_22 (rfl) (rfl)
set_option maxHeartbeats 4000000 in
set_option maxRecDepth 100000 in
theorem c_L_layer_e (cy : Nat → ClassId) (a : Nat → Nat) (b : Nat → Nat) (r : Nat) (nx : Nat) (sn : Nat) (ln : Nat) (sk : Nat → Nat → Nat) (S : Nat → CK) (ik : Nat → Int32) (bf : Nat → Nat) (kd : Nat) (hg : Nat) (nu : Nat) (dg : Nat) (ng : Bool) (tk : Bool) (n : Nat) (lit : Int32) (h : Nat → Int32) (t : Nat → Int32) (s : Nat → Int32) (g : Nat → Int32) (kn : Nat) (lo : Int32) (lf : Int32) (nm : Nat → Int32) (ob : Nat) (ou : Nat → Int64) (x : Int32) (y : Int32)  (hn : n ≤ 6) (hx : ¬ ((50 ≤ x ∧ x ≤ 3000) ∧ (1 ≤ y ∧ y ≤ 100))) : kIl yL_layer wsL_layer rm_L_layer cy [.ref (b 0), .int x, .int y, .ref ob] ([(ob, .inl (cy 4, 1, .inr (.inl ou)))] ++ ((wXo b cy (a 0) r nx sn ln (svOf sk) (kpOf sk) ik bf ++ wRd r kd hg nu dg ng tk) ++ (wSky a cy n lit h t s g kn lo lf nm ++ wOth sk cy S))) 1 ([(ob, .inl (cy 4, 1, .inr (.inl ou)))] ++ ((wXo b cy (a 0) r nx sn ln (svOf sk) (kpOf sk) ik bf ++ wRd r kd hg nu dg ng tk) ++ (wSky a cy n lit h t s g kn lo lf nm ++ wOth sk cy S))) := by
  refine kIl_of (cc := cL_layer) (maxL := 5) (by decide) rfl (Nat.le_of_ble_eq_true rfl) ?_
  intro X hR C Z hst htb E
  have C : kC X 5 RL cL_layer wsL_layer cy := C
  refine k_fr (fr2 := [(0, .ref (b 0)), (1, .int x), (2, .int y), (3, .ref ob)]) ⟨[0, 1, 2, 3], rfl⟩ ?_
  refine k_aload_n (q := 1) C 3 dL_layer_0 rfl rfl ?_
  refine k_iconst (q := 2) (v := 0) C dL_layer_1 (by decide) rfl ?_
  refine k_aload_n (q := 3) C 0 dL_layer_2 rfl rfl ?_
  refine k_iload_n (q := 4) C 1 dL_layer_3 rfl rfl ?_
  refine k_iload_n (q := 5) C 2 dL_layer_4 rfl rfl ?_
  refine k_callVE (n := 2) (q := 13) (pre := ([(ob, .inl (cy 4, 1, .inr (.inl ou)))] : va_W)) (post := ([] : va_W)) (w2 := ([(ob, .inl (cy 4, 1, .inr (.inl ou)))] ++ ((wXo b cy (a 0) r nx sn ln (svOf sk) (kpOf sk) ik bf ++ wRd r kd hg nu dg ng tk) ++ (wSky a cy n lit h t s g kn lo lf nm ++ wOth sk cy S)))) (As := [.int x, .int y]) (rest := [.int 0, .ref ob]) C Z hst (c_X3_layer_e cy a b r nx sn ln (svOf sk) (kpOf sk) ik bf kd hg nu dg ng tk n lit h t s g kn lo lf nm (wOth sk cy S) x y hn hx) gL_layer_X3_layer rfl rfl rfl (by decide +kernel) (k_room hR (by decide)) (k_cells hR (by decide)) (ci := 3) rfl 0 rfl rfl rfl (Nat.le_of_ble_eq_true rfl) (k_pre) (k_pre.symm) dL_layer_5 htb [] ⟨0, 10, 13, 13⟩ [⟨0, 10, 17, 15⟩] rfl (fun _ h => absurd h List.not_mem_nil) rfl (by decide) (List.mem_of_getElem? (i := 1) rfl) (List.mem_of_getElem? (i := 0) rfl) rfl (fun q9 => ?_)
  refine k_astore (q := 15) (fr2 := [(4, .ref q9), (0, .ref (b 0)), (1, .int x), (2, .int y), (3, .ref ob)]) C dL_layer_13 (by decide) rfl rfl ?_
  refine k_iconst (q := 16) (v := 1) C dL_layer_15 (by decide) rfl ?_
  exact k_finL E (by decide) (by decide) dL_layer_16 (rfl) (rfl)
set_option maxHeartbeats 4000000 in
set_option maxRecDepth 100000 in
theorem c_L_layer_e2 (cy : Nat → ClassId) (a : Nat → Nat) (b : Nat → Nat) (r : Nat) (nx : Nat) (sn : Nat) (ln : Nat) (sk : Nat → Nat → Nat) (S : Nat → CK) (ik : Nat → Int32) (bf : Nat → Nat) (kd : Nat) (hg : Nat) (nu : Nat) (dg : Nat) (ng : Bool) (tk : Bool) (n : Nat) (lit : Int32) (h : Nat → Int32) (t : Nat → Int32) (s : Nat → Int32) (g : Nat → Int32) (kn : Nat) (lo : Int32) (lf : Int32) (nm : Nat → Int32) (ob : Nat) (ou : Nat → Int64) (x : Int32) (y : Int32)  (hn : n ≤ 6) (hx : (50 ≤ x ∧ x ≤ 3000) ∧ (1 ≤ y ∧ y ≤ 100)) (hz : ¬ (sAny h x n = false ∧ n < 6)) : kIl yL_layer wsL_layer rm_L_layer cy [.ref (b 0), .int x, .int y, .ref ob] ([(ob, .inl (cy 4, 1, .inr (.inl ou)))] ++ ((wXo b cy (a 0) r nx sn ln (svOf sk) (kpOf sk) ik bf ++ wRd r kd hg nu dg ng tk) ++ (wSky a cy n lit h t s g kn lo lf nm ++ wOth sk cy S))) 2 ([(ob, .inl (cy 4, 1, .inr (.inl ou)))] ++ ((wXo b cy (a 0) r nx sn ln (svOf sk) (kpOf sk) ik bf ++ wRd r kd hg nu dg ng tk) ++ (wSky a cy n lit h t s g kn lo lf nm ++ wOth sk cy S))) := by
  refine kIl_of (cc := cL_layer) (maxL := 5) (by decide) rfl (Nat.le_of_ble_eq_true rfl) ?_
  intro X hR C Z hst htb E
  have C : kC X 5 RL cL_layer wsL_layer cy := C
  refine k_fr (fr2 := [(0, .ref (b 0)), (1, .int x), (2, .int y), (3, .ref ob)]) ⟨[0, 1, 2, 3], rfl⟩ ?_
  refine k_aload_n (q := 1) C 3 dL_layer_0 rfl rfl ?_
  refine k_iconst (q := 2) (v := 0) C dL_layer_1 (by decide) rfl ?_
  refine k_aload_n (q := 3) C 0 dL_layer_2 rfl rfl ?_
  refine k_iload_n (q := 4) C 1 dL_layer_3 rfl rfl ?_
  refine k_iload_n (q := 5) C 2 dL_layer_4 rfl rfl ?_
  refine k_callVE (n := 2) (q := 17) (pre := ([(ob, .inl (cy 4, 1, .inr (.inl ou)))] : va_W)) (post := ([] : va_W)) (w2 := ([(ob, .inl (cy 4, 1, .inr (.inl ou)))] ++ ((wXo b cy (a 0) r nx sn ln (svOf sk) (kpOf sk) ik bf ++ wRd r kd hg nu dg ng tk) ++ (wSky a cy n lit h t s g kn lo lf nm ++ wOth sk cy S)))) (As := [.int x, .int y]) (rest := [.int 0, .ref ob]) C Z hst (c_X3_layer_e2 cy a b r nx sn ln (svOf sk) (kpOf sk) ik bf kd hg nu dg ng tk n lit h t s g kn lo lf nm (wOth sk cy S) x y hn hx hz) gL_layer_X3_layer rfl rfl rfl (by decide +kernel) (k_room hR (by decide)) (k_cells hR (by decide)) (ci := 3) rfl 0 rfl rfl rfl (Nat.le_of_ble_eq_true rfl) (k_pre) (k_pre.symm) dL_layer_5 htb [⟨0, 10, 13, 13⟩] ⟨0, 10, 17, 15⟩ [] rfl (fun z hz => by rw [List.mem_singleton.mp hz]; exact Or.inr ⟨by decide, "java/lang/IllegalArgumentException", (List.mem_of_getElem? (i := 1) rfl), Z.2.2.2.2.2.2.1⟩) rfl (by decide) (List.mem_of_getElem? (i := 2) rfl) (List.mem_of_getElem? (i := 1) rfl) rfl (fun q9 => ?_)
  refine k_astore (q := 19) (fr2 := [(4, .ref q9), (0, .ref (b 0)), (1, .int x), (2, .int y), (3, .ref ob)]) C dL_layer_17 (by decide) rfl rfl ?_
  refine k_iconst (q := 20) (v := 2) C dL_layer_19 (by decide) rfl ?_
  exact k_finL E (by decide) (by decide) dL_layer_20 (rfl) (rfl)
abbrev rm_L_clear : Room := { frames := 7, cells := 1, slots := 6, locals := 136 }
theorem in0_L_clear : ∀ w ∈ wsX00, w ∈ wsL_clear := fun _ h => (List.mem_cons_of_mem _ (List.mem_append_left _ (List.mem_append_right _ h)))
theorem in2_L_clear : ∀ w ∈ wsX20, w ∈ wsL_clear := fun _ h => (List.mem_cons_of_mem _ (List.mem_append_left _ (List.mem_append_left _ (List.mem_append_right _ h))))
theorem in3_L_clear : ∀ w ∈ wsX30, w ∈ wsL_clear := fun _ h => (List.mem_cons_of_mem _ (List.mem_append_left _ (List.mem_append_left _ (List.mem_append_left _ (List.mem_append_right _ h)))))
set_option maxHeartbeats 4000000 in
set_option maxRecDepth 100000 in
theorem c_L_clear (cy : Nat → ClassId) (a : Nat → Nat) (b : Nat → Nat) (r : Nat) (nx : Nat) (sn : Nat) (ln : Nat) (sk : Nat → Nat → Nat) (S : Nat → CK) (ik : Nat → Int32) (bf : Nat → Nat) (kd : Nat) (hg : Nat) (nu : Nat) (dg : Nat) (ng : Bool) (tk : Bool) (n : Nat) (lit : Int32) (h : Nat → Int32) (t : Nat → Int32) (s : Nat → Int32) (g : Nat → Int32) (kn : Nat) (lo : Int32) (lf : Int32) (nm : Nat → Int32) (ob : Nat) (ou : Nat → Int64) (p : Nat)  (hnx : nx < 6) (hsn : sn ≤ 6) (hn : n ≤ 6) (hp : p < n) : kIl yL_clear wsL_clear rm_L_clear cy [.ref (b 0), .int (nI p), .ref ob] ([(ob, .inl (cy 4, 1, .inr (.inl ou)))] ++ ((wXo b cy (a 0) r nx sn ln (svOf sk) (kpOf sk) ik bf ++ wRd r kd hg nu dg ng tk) ++ (wSky a cy n lit h t s g kn lo lf nm ++ wOth sk cy S))) 0 ([(ob, .inl (cy 4, 1, .inr (.inl (vp_updL ou 0 (h p).toInt64))))] ++ ((wXo b cy (a 0) r ((nx + 1) % 6) (min (sn + 1) 6) ln (svOf sk) (kpOf sk) ik bf ++ wRd r kd hg nu dg ng tk) ++ (wSky a cy (n - 1) lit (sDn h p n) (sDn t p n) s g kn lo lf nm ++ wOth sk cy (updS S nx (cLike (n, lit, h, t, s, g, kn, lo, lf, nm) (S nx)))))) := by
  refine kIl_of (cc := cL_clear) (maxL := 4) (by decide) rfl (Nat.le_of_ble_eq_true rfl) ?_
  intro X hR C Z hst htb E
  have C : kC X 4 RL cL_clear wsL_clear cy := C
  refine k_fr (fr2 := [(0, .ref (b 0)), (1, .int (nI p)), (2, .ref ob)]) ⟨[0, 1, 2], rfl⟩ ?_
  refine k_aload_n (q := 1) C 2 dL_clear_0 rfl rfl ?_
  refine k_iconst (q := 2) (v := 0) C dL_clear_1 (by decide) rfl ?_
  refine k_aload_n (q := 3) C 0 dL_clear_2 rfl rfl ?_
  refine k_iload_n (q := 4) C 1 dL_clear_3 rfl rfl ?_
  refine k_callVI (n := 1) (q := 7) (pre := ([(ob, .inl (cy 4, 1, .inr (.inl ou)))] : va_W)) (post := ([] : va_W)) (w2 := ([(ob, .inl (cy 4, 1, .inr (.inl ou)))] ++ ((wXo b cy (a 0) r ((nx + 1) % 6) (min (sn + 1) 6) ln (svOf sk) (kpOf sk) ik bf ++ wRd r kd hg nu dg ng tk) ++ (wSky a cy (n - 1) lit (sDn h p n) (sDn t p n) s g kn lo lf nm ++ wOth sk cy (updS S nx (cLike (n, lit, h, t, s, g, kn, lo, lf, nm) (S nx))))))) (As := [.int (nI p)]) (rest := [.int 0, .ref ob]) C (c_X3_clear cy a b r nx sn ln sk S ik bf kd hg nu dg ng tk n lit h t s g kn lo lf nm p hnx hsn hn hp) gL_clear_X3_clear rfl rfl rfl (by decide +kernel) (k_room hR (by decide)) ⟨Nat.zero_le _, Nat.zero_le _⟩ (ci := 3) rfl 0 rfl rfl rfl (Nat.le_of_ble_eq_true rfl) (k_pre) (k_pre.symm) dL_clear_4 rfl ?_
  refine k_i2l (q := 8) C dL_clear_7 rfl ?_
  refine k_last (q := 9) (w2 := ([(ob, .inl (cy 4, 1, .inr (.inl (vp_updL ou 0 ((h p).toInt64)))))] ++ ((wXo b cy (a 0) r ((nx + 1) % 6) (min (sn + 1) 6) ln (svOf sk) (kpOf sk) ik bf ++ wRd r kd hg nu dg ng tk) ++ (wSky a cy (n - 1) lit (sDn h p n) (sDn t p n) s g kn lo lf nm ++ wOth sk cy (updS S nx (cLike (n, lit, h, t, s, g, kn, lo, lf, nm) (S nx))))))) C 0 rfl (vp_in_nI (n := 0) (by decide) (by decide)) rfl dL_clear_8 rfl ?_
  refine k_goto (q := 15) C dL_clear_9 (by decide) ?_
  refine k_iconst (q := 16) (v := 0) C dL_clear_15 (by decide) rfl ?_
  exact k_finL E (by decide) (by decide) dL_clear_16 (rfl) (rfl)
set_option maxHeartbeats 4000000 in
set_option maxRecDepth 100000 in
theorem c_L_clear_e (cy : Nat → ClassId) (a : Nat → Nat) (b : Nat → Nat) (r : Nat) (nx : Nat) (sn : Nat) (ln : Nat) (sk : Nat → Nat → Nat) (S : Nat → CK) (ik : Nat → Int32) (bf : Nat → Nat) (kd : Nat) (hg : Nat) (nu : Nat) (dg : Nat) (ng : Bool) (tk : Bool) (n : Nat) (lit : Int32) (h : Nat → Int32) (t : Nat → Int32) (s : Nat → Int32) (g : Nat → Int32) (kn : Nat) (lo : Int32) (lf : Int32) (nm : Nat → Int32) (ob : Nat) (ou : Nat → Int64) (x : Int32)  (hx : ¬ (0 ≤ x ∧ x < nI n)) : kIl yL_clear wsL_clear rm_L_clear cy [.ref (b 0), .int x, .ref ob] ([(ob, .inl (cy 4, 1, .inr (.inl ou)))] ++ ((wXo b cy (a 0) r nx sn ln (svOf sk) (kpOf sk) ik bf ++ wRd r kd hg nu dg ng tk) ++ (wSky a cy n lit h t s g kn lo lf nm ++ wOth sk cy S))) 1 ([(ob, .inl (cy 4, 1, .inr (.inl ou)))] ++ ((wXo b cy (a 0) r nx sn ln (svOf sk) (kpOf sk) ik bf ++ wRd r kd hg nu dg ng tk) ++ (wSky a cy n lit h t s g kn lo lf nm ++ wOth sk cy S))) := by
  refine kIl_of (cc := cL_clear) (maxL := 4) (by decide) rfl (Nat.le_of_ble_eq_true rfl) ?_
  intro X hR C Z hst htb E
  have C : kC X 4 RL cL_clear wsL_clear cy := C
  refine k_fr (fr2 := [(0, .ref (b 0)), (1, .int x), (2, .ref ob)]) ⟨[0, 1, 2], rfl⟩ ?_
  refine k_aload_n (q := 1) C 2 dL_clear_0 rfl rfl ?_
  refine k_iconst (q := 2) (v := 0) C dL_clear_1 (by decide) rfl ?_
  refine k_aload_n (q := 3) C 0 dL_clear_2 rfl rfl ?_
  refine k_iload_n (q := 4) C 1 dL_clear_3 rfl rfl ?_
  refine k_callVE (n := 1) (q := 12) (pre := ([(ob, .inl (cy 4, 1, .inr (.inl ou)))] : va_W)) (post := ([] : va_W)) (w2 := ([(ob, .inl (cy 4, 1, .inr (.inl ou)))] ++ ((wXo b cy (a 0) r nx sn ln (svOf sk) (kpOf sk) ik bf ++ wRd r kd hg nu dg ng tk) ++ (wSky a cy n lit h t s g kn lo lf nm ++ wOth sk cy S)))) (As := [.int x]) (rest := [.int 0, .ref ob]) C Z hst (c_X3_clear_e cy a b r nx sn ln (svOf sk) (kpOf sk) ik bf kd hg nu dg ng tk n lit h t s g kn lo lf nm (wOth sk cy S) x hx) gL_clear_X3_clear rfl rfl rfl (by decide +kernel) (k_room hR (by decide)) (k_cells hR (by decide)) (ci := 3) rfl 0 rfl rfl rfl (Nat.le_of_ble_eq_true rfl) (k_pre) (k_pre.symm) dL_clear_4 htb [] ⟨0, 9, 12, 21⟩ [] rfl (fun _ h => absurd h List.not_mem_nil) rfl (by decide) (List.mem_of_getElem? (i := 1) rfl) (List.mem_of_getElem? (i := 2) rfl) rfl (fun q9 => ?_)
  refine k_astore_n (q := 13) (fr2 := [(3, .ref q9), (0, .ref (b 0)), (1, .int x), (2, .ref ob)]) C dL_clear_12 (by decide) rfl rfl ?_
  refine k_iconst (q := 14) (v := 1) C dL_clear_13 (by decide) rfl ?_
  exact k_finL E (by decide) (by decide) dL_clear_14 (rfl) (rfl)
abbrev rm_L_clearThin : Room := { frames := 7, cells := 1, slots := 6, locals := 136 }
theorem in0_L_clearThin : ∀ w ∈ wsX00, w ∈ wsL_clearThin := fun _ h => (List.mem_cons_of_mem _ (List.mem_append_left _ (List.mem_append_right _ h)))
theorem in2_L_clearThin : ∀ w ∈ wsX20, w ∈ wsL_clearThin := fun _ h => (List.mem_cons_of_mem _ (List.mem_append_left _ (List.mem_append_left _ (List.mem_append_right _ h))))
theorem in3_L_clearThin : ∀ w ∈ wsX30, w ∈ wsL_clearThin := fun _ h => (List.mem_cons_of_mem _ (List.mem_append_left _ (List.mem_append_left _ (List.mem_append_left _ (List.mem_append_right _ h)))))
set_option maxHeartbeats 4000000 in
set_option maxRecDepth 100000 in
theorem c_L_clearThin (cy : Nat → ClassId) (a : Nat → Nat) (b : Nat → Nat) (r : Nat) (nx : Nat) (sn : Nat) (ln : Nat) (sk : Nat → Nat → Nat) (S : Nat → CK) (ik : Nat → Int32) (bf : Nat → Nat) (kd : Nat) (hg : Nat) (nu : Nat) (dg : Nat) (ng : Bool) (tk : Bool) (n : Nat) (lit : Int32) (h : Nat → Int32) (t : Nat → Int32) (s : Nat → Int32) (g : Nat → Int32) (kn : Nat) (lo : Int32) (lf : Int32) (nm : Nat → Int32) (ob : Nat) (ou : Nat → Int64) (x : Int32)  (hnx : nx < 6) (hsn : sn ≤ 6) (hn : n ≤ 6) (hx : 1 ≤ x ∧ x ≤ 100) : kIl yL_clearThin wsL_clearThin rm_L_clearThin cy [.ref (b 0), .int x, .ref ob] ([(ob, .inl (cy 4, 1, .inr (.inl ou)))] ++ ((wXo b cy (a 0) r nx sn ln (svOf sk) (kpOf sk) ik bf ++ wRd r kd hg nu dg ng tk) ++ (wSky a cy n lit h t s g kn lo lf nm ++ wOth sk cy S))) 0 ([(ob, .inl (cy 4, 1, .inr (.inl (vp_updL ou 0 (nI (n - sKeep t x n)).toInt64))))] ++ ((wXo b cy (a 0) r ((nx + 1) % 6) (min (sn + 1) 6) ln (svOf sk) (kpOf sk) ik bf ++ wRd r kd hg nu dg ng tk) ++ (wSky a cy (sKeep t x n) lit (sPack t x h n) (sPack t x t n) s g kn lo lf nm ++ wOth sk cy (updS S nx (cLike (n, lit, h, t, s, g, kn, lo, lf, nm) (S nx)))))) := by
  refine kIl_of (cc := cL_clearThin) (maxL := 4) (by decide) rfl (Nat.le_of_ble_eq_true rfl) ?_
  intro X hR C Z hst htb E
  have C : kC X 4 RL cL_clearThin wsL_clearThin cy := C
  refine k_fr (fr2 := [(0, .ref (b 0)), (1, .int x), (2, .ref ob)]) ⟨[0, 1, 2], rfl⟩ ?_
  refine k_aload_n (q := 1) C 2 dL_clearThin_0 rfl rfl ?_
  refine k_iconst (q := 2) (v := 0) C dL_clearThin_1 (by decide) rfl ?_
  refine k_aload_n (q := 3) C 0 dL_clearThin_2 rfl rfl ?_
  refine k_iload_n (q := 4) C 1 dL_clearThin_3 rfl rfl ?_
  refine k_callVI (n := 1) (q := 7) (pre := ([(ob, .inl (cy 4, 1, .inr (.inl ou)))] : va_W)) (post := ([] : va_W)) (w2 := ([(ob, .inl (cy 4, 1, .inr (.inl ou)))] ++ ((wXo b cy (a 0) r ((nx + 1) % 6) (min (sn + 1) 6) ln (svOf sk) (kpOf sk) ik bf ++ wRd r kd hg nu dg ng tk) ++ (wSky a cy (sKeep t x n) lit (sPack t x h n) (sPack t x t n) s g kn lo lf nm ++ wOth sk cy (updS S nx (cLike (n, lit, h, t, s, g, kn, lo, lf, nm) (S nx))))))) (As := [.int x]) (rest := [.int 0, .ref ob]) C (c_X3_clearThin cy a b r nx sn ln sk S ik bf kd hg nu dg ng tk n lit h t s g kn lo lf nm x hnx hsn hn hx) gL_clearThin_X3_clearThin rfl rfl rfl (by decide +kernel) (k_room hR (by decide)) ⟨Nat.zero_le _, Nat.zero_le _⟩ (ci := 3) rfl 0 rfl rfl rfl (Nat.le_of_ble_eq_true rfl) (k_pre) (k_pre.symm) dL_clearThin_4 rfl ?_
  refine k_i2l (q := 8) C dL_clearThin_7 rfl ?_
  refine k_last (q := 9) (w2 := ([(ob, .inl (cy 4, 1, .inr (.inl (vp_updL ou 0 ((nI (n - sKeep t x n)).toInt64)))))] ++ ((wXo b cy (a 0) r ((nx + 1) % 6) (min (sn + 1) 6) ln (svOf sk) (kpOf sk) ik bf ++ wRd r kd hg nu dg ng tk) ++ (wSky a cy (sKeep t x n) lit (sPack t x h n) (sPack t x t n) s g kn lo lf nm ++ wOth sk cy (updS S nx (cLike (n, lit, h, t, s, g, kn, lo, lf, nm) (S nx))))))) C 0 rfl (vp_in_nI (n := 0) (by decide) (by decide)) rfl dL_clearThin_8 rfl ?_
  refine k_goto (q := 15) C dL_clearThin_9 (by decide) ?_
  refine k_iconst (q := 16) (v := 0) C dL_clearThin_15 (by decide) rfl ?_
  exact k_finL E (by decide) (by decide) dL_clearThin_16 (rfl) (rfl)
set_option maxHeartbeats 4000000 in
set_option maxRecDepth 100000 in
theorem c_L_clearThin_e (cy : Nat → ClassId) (a : Nat → Nat) (b : Nat → Nat) (r : Nat) (nx : Nat) (sn : Nat) (ln : Nat) (sk : Nat → Nat → Nat) (S : Nat → CK) (ik : Nat → Int32) (bf : Nat → Nat) (kd : Nat) (hg : Nat) (nu : Nat) (dg : Nat) (ng : Bool) (tk : Bool) (n : Nat) (lit : Int32) (h : Nat → Int32) (t : Nat → Int32) (s : Nat → Int32) (g : Nat → Int32) (kn : Nat) (lo : Int32) (lf : Int32) (nm : Nat → Int32) (ob : Nat) (ou : Nat → Int64) (x : Int32)  (hx : ¬ (1 ≤ x ∧ x ≤ 100)) : kIl yL_clearThin wsL_clearThin rm_L_clearThin cy [.ref (b 0), .int x, .ref ob] ([(ob, .inl (cy 4, 1, .inr (.inl ou)))] ++ ((wXo b cy (a 0) r nx sn ln (svOf sk) (kpOf sk) ik bf ++ wRd r kd hg nu dg ng tk) ++ (wSky a cy n lit h t s g kn lo lf nm ++ wOth sk cy S))) 1 ([(ob, .inl (cy 4, 1, .inr (.inl ou)))] ++ ((wXo b cy (a 0) r nx sn ln (svOf sk) (kpOf sk) ik bf ++ wRd r kd hg nu dg ng tk) ++ (wSky a cy n lit h t s g kn lo lf nm ++ wOth sk cy S))) := by
  refine kIl_of (cc := cL_clearThin) (maxL := 4) (by decide) rfl (Nat.le_of_ble_eq_true rfl) ?_
  intro X hR C Z hst htb E
  have C : kC X 4 RL cL_clearThin wsL_clearThin cy := C
  refine k_fr (fr2 := [(0, .ref (b 0)), (1, .int x), (2, .ref ob)]) ⟨[0, 1, 2], rfl⟩ ?_
  refine k_aload_n (q := 1) C 2 dL_clearThin_0 rfl rfl ?_
  refine k_iconst (q := 2) (v := 0) C dL_clearThin_1 (by decide) rfl ?_
  refine k_aload_n (q := 3) C 0 dL_clearThin_2 rfl rfl ?_
  refine k_iload_n (q := 4) C 1 dL_clearThin_3 rfl rfl ?_
  refine k_callVE (n := 1) (q := 12) (pre := ([(ob, .inl (cy 4, 1, .inr (.inl ou)))] : va_W)) (post := ([] : va_W)) (w2 := ([(ob, .inl (cy 4, 1, .inr (.inl ou)))] ++ ((wXo b cy (a 0) r nx sn ln (svOf sk) (kpOf sk) ik bf ++ wRd r kd hg nu dg ng tk) ++ (wSky a cy n lit h t s g kn lo lf nm ++ wOth sk cy S)))) (As := [.int x]) (rest := [.int 0, .ref ob]) C Z hst (c_X3_clearThin_e cy a b r nx sn ln (svOf sk) (kpOf sk) ik bf kd hg nu dg ng tk n lit h t s g kn lo lf nm (wOth sk cy S) x hx) gL_clearThin_X3_clearThin rfl rfl rfl (by decide +kernel) (k_room hR (by decide)) (k_cells hR (by decide)) (ci := 3) rfl 0 rfl rfl rfl (Nat.le_of_ble_eq_true rfl) (k_pre) (k_pre.symm) dL_clearThin_4 htb [] ⟨0, 9, 12, 13⟩ [] rfl (fun _ h => absurd h List.not_mem_nil) rfl (by decide) (List.mem_of_getElem? (i := 1) rfl) (List.mem_of_getElem? (i := 0) rfl) rfl (fun q9 => ?_)
  refine k_astore_n (q := 13) (fr2 := [(3, .ref q9), (0, .ref (b 0)), (1, .int x), (2, .ref ob)]) C dL_clearThin_12 (by decide) rfl rfl ?_
  refine k_iconst (q := 14) (v := 1) C dL_clearThin_13 (by decide) rfl ?_
  exact k_finL E (by decide) (by decide) dL_clearThin_14 (rfl) (rfl)
abbrev rm_L_aim : Room := { frames := 7, cells := 1, slots := 6, locals := 137 }
theorem in0_L_aim : ∀ w ∈ wsX00, w ∈ wsL_aim := fun _ h => (List.mem_cons_of_mem _ (List.mem_append_left _ (List.mem_append_left _ (List.mem_append_right _ h))))
theorem in2_L_aim : ∀ w ∈ wsX20, w ∈ wsL_aim := fun _ h => (List.mem_cons_of_mem _ (List.mem_append_left _ (List.mem_append_left _ (List.mem_append_left _ (List.mem_append_right _ h)))))
theorem in3_L_aim : ∀ w ∈ wsX30, w ∈ wsL_aim := fun _ h => (List.mem_cons_of_mem _ (List.mem_append_left _ (List.mem_append_left _ (List.mem_append_left _ (List.mem_append_left _ (List.mem_append_right _ h))))))
set_option maxHeartbeats 4000000 in
set_option maxRecDepth 100000 in
theorem c_L_aim (cy : Nat → ClassId) (a : Nat → Nat) (b : Nat → Nat) (r : Nat) (nx : Nat) (sn : Nat) (ln : Nat) (sk : Nat → Nat → Nat) (S : Nat → CK) (ik : Nat → Int32) (bf : Nat → Nat) (kd : Nat) (hg : Nat) (nu : Nat) (dg : Nat) (ng : Bool) (tk : Bool) (n : Nat) (lit : Int32) (h : Nat → Int32) (t : Nat → Int32) (s : Nat → Int32) (g : Nat → Int32) (kn : Nat) (lo : Int32) (lf : Int32) (nm : Nat → Int32) (ob : Nat) (ou : Nat → Int64) (j : Nat) (y : Int32)  (hnx : nx < 6) (hsn : sn ≤ 6) (hj : j < 2) (hy : -30 ≤ y ∧ y ≤ 30) : kIl yL_aim wsL_aim rm_L_aim cy [.ref (b 0), .int (nI j), .int y, .ref ob] ([(ob, .inl (cy 4, 1, .inr (.inl ou)))] ++ ((wXo b cy (a 0) r nx sn ln (svOf sk) (kpOf sk) ik bf ++ wRd r kd hg nu dg ng tk) ++ (wSky a cy n lit h t s g kn lo lf nm ++ wOth sk cy S))) 0 ([(ob, .inl (cy 4, 1, .inr (.inl (vp_updL ou 0 (s j).toInt64))))] ++ ((wXo b cy (a 0) r ((nx + 1) % 6) (min (sn + 1) 6) ln (svOf sk) (kpOf sk) ik bf ++ wRd r kd hg nu dg ng tk) ++ (wSky a cy n lit h t (upd s j y) g kn lo lf nm ++ wOth sk cy (updS S nx (cLike (n, lit, h, t, s, g, kn, lo, lf, nm) (S nx)))))) := by
  refine kIl_of (cc := cL_aim) (maxL := 5) (by decide) rfl (Nat.le_of_ble_eq_true rfl) ?_
  intro X hR C Z hst htb E
  have C : kC X 5 RL cL_aim wsL_aim cy := C
  refine k_fr (fr2 := [(0, .ref (b 0)), (1, .int (nI j)), (2, .int y), (3, .ref ob)]) ⟨[0, 1, 2, 3], rfl⟩ ?_
  refine k_aload_n (q := 1) C 3 dL_aim_0 rfl rfl ?_
  refine k_iconst (q := 2) (v := 0) C dL_aim_1 (by decide) rfl ?_
  refine k_aload_n (q := 3) C 0 dL_aim_2 rfl rfl ?_
  refine k_iload_n (q := 4) C 1 dL_aim_3 rfl rfl ?_
  refine k_iload_n (q := 5) C 2 dL_aim_4 rfl rfl ?_
  refine k_callVI (n := 2) (q := 8) (pre := ([(ob, .inl (cy 4, 1, .inr (.inl ou)))] : va_W)) (post := ([] : va_W)) (w2 := ([(ob, .inl (cy 4, 1, .inr (.inl ou)))] ++ ((wXo b cy (a 0) r ((nx + 1) % 6) (min (sn + 1) 6) ln (svOf sk) (kpOf sk) ik bf ++ wRd r kd hg nu dg ng tk) ++ (wSky a cy n lit h t (upd s j y) g kn lo lf nm ++ wOth sk cy (updS S nx (cLike (n, lit, h, t, s, g, kn, lo, lf, nm) (S nx))))))) (As := [.int (nI j), .int y]) (rest := [.int 0, .ref ob]) C (c_X3_aim cy a b r nx sn ln sk S ik bf kd hg nu dg ng tk n lit h t s g kn lo lf nm j y hnx hsn hj hy) gL_aim_X3_aim rfl rfl rfl (by decide +kernel) (k_room hR (by decide)) ⟨Nat.zero_le _, Nat.zero_le _⟩ (ci := 3) rfl 0 rfl rfl rfl (Nat.le_of_ble_eq_true rfl) (k_pre) (k_pre.symm) dL_aim_5 rfl ?_
  refine k_i2l (q := 9) C dL_aim_8 rfl ?_
  refine k_last (q := 10) (w2 := ([(ob, .inl (cy 4, 1, .inr (.inl (vp_updL ou 0 ((s j).toInt64)))))] ++ ((wXo b cy (a 0) r ((nx + 1) % 6) (min (sn + 1) 6) ln (svOf sk) (kpOf sk) ik bf ++ wRd r kd hg nu dg ng tk) ++ (wSky a cy n lit h t (upd s j y) g kn lo lf nm ++ wOth sk cy (updS S nx (cLike (n, lit, h, t, s, g, kn, lo, lf, nm) (S nx))))))) C 0 rfl (vp_in_nI (n := 0) (by decide) (by decide)) rfl dL_aim_9 rfl ?_
  refine k_goto (q := 21) C dL_aim_10 (by decide) ?_
  refine k_iconst (q := 22) (v := 0) C dL_aim_21 (by decide) rfl ?_
  exact k_finL E (by decide) (by decide) dL_aim_22 (rfl) (rfl)
set_option maxHeartbeats 4000000 in
set_option maxRecDepth 100000 in
theorem c_L_aim_e (cy : Nat → ClassId) (a : Nat → Nat) (b : Nat → Nat) (r : Nat) (nx : Nat) (sn : Nat) (ln : Nat) (sk : Nat → Nat → Nat) (S : Nat → CK) (ik : Nat → Int32) (bf : Nat → Nat) (kd : Nat) (hg : Nat) (nu : Nat) (dg : Nat) (ng : Bool) (tk : Bool) (n : Nat) (lit : Int32) (h : Nat → Int32) (t : Nat → Int32) (s : Nat → Int32) (g : Nat → Int32) (kn : Nat) (lo : Int32) (lf : Int32) (nm : Nat → Int32) (ob : Nat) (ou : Nat → Int64) (x : Int32) (y : Int32)  (hx : ¬ (0 ≤ x ∧ x ≤ 1)) : kIl yL_aim wsL_aim rm_L_aim cy [.ref (b 0), .int x, .int y, .ref ob] ([(ob, .inl (cy 4, 1, .inr (.inl ou)))] ++ ((wXo b cy (a 0) r nx sn ln (svOf sk) (kpOf sk) ik bf ++ wRd r kd hg nu dg ng tk) ++ (wSky a cy n lit h t s g kn lo lf nm ++ wOth sk cy S))) 1 ([(ob, .inl (cy 4, 1, .inr (.inl ou)))] ++ ((wXo b cy (a 0) r nx sn ln (svOf sk) (kpOf sk) ik bf ++ wRd r kd hg nu dg ng tk) ++ (wSky a cy n lit h t s g kn lo lf nm ++ wOth sk cy S))) := by
  refine kIl_of (cc := cL_aim) (maxL := 5) (by decide) rfl (Nat.le_of_ble_eq_true rfl) ?_
  intro X hR C Z hst htb E
  have C : kC X 5 RL cL_aim wsL_aim cy := C
  refine k_fr (fr2 := [(0, .ref (b 0)), (1, .int x), (2, .int y), (3, .ref ob)]) ⟨[0, 1, 2, 3], rfl⟩ ?_
  refine k_aload_n (q := 1) C 3 dL_aim_0 rfl rfl ?_
  refine k_iconst (q := 2) (v := 0) C dL_aim_1 (by decide) rfl ?_
  refine k_aload_n (q := 3) C 0 dL_aim_2 rfl rfl ?_
  refine k_iload_n (q := 4) C 1 dL_aim_3 rfl rfl ?_
  refine k_iload_n (q := 5) C 2 dL_aim_4 rfl rfl ?_
  refine k_callVE (n := 2) (q := 13) (pre := ([(ob, .inl (cy 4, 1, .inr (.inl ou)))] : va_W)) (post := ([] : va_W)) (w2 := ([(ob, .inl (cy 4, 1, .inr (.inl ou)))] ++ ((wXo b cy (a 0) r nx sn ln (svOf sk) (kpOf sk) ik bf ++ wRd r kd hg nu dg ng tk) ++ (wSky a cy n lit h t s g kn lo lf nm ++ wOth sk cy S)))) (As := [.int x, .int y]) (rest := [.int 0, .ref ob]) C Z hst (c_X3_aim_e cy a b r nx sn ln (svOf sk) (kpOf sk) ik bf kd hg nu dg ng tk n lit h t s g kn lo lf nm (wOth sk cy S) x y hx) gL_aim_X3_aim rfl rfl rfl (by decide +kernel) (k_room hR (by decide)) (k_cells hR (by decide)) (ci := 3) rfl 0 rfl rfl rfl (Nat.le_of_ble_eq_true rfl) (k_pre) (k_pre.symm) dL_aim_5 htb [] ⟨0, 10, 13, 21⟩ [⟨0, 10, 17, 13⟩] rfl (fun _ h => absurd h List.not_mem_nil) rfl (by decide) (List.mem_of_getElem? (i := 1) rfl) (List.mem_of_getElem? (i := 2) rfl) rfl (fun q9 => ?_)
  refine k_astore (q := 15) (fr2 := [(4, .ref q9), (0, .ref (b 0)), (1, .int x), (2, .int y), (3, .ref ob)]) C dL_aim_13 (by decide) rfl rfl ?_
  refine k_iconst (q := 16) (v := 1) C dL_aim_15 (by decide) rfl ?_
  exact k_finL E (by decide) (by decide) dL_aim_16 (rfl) (rfl)
set_option maxHeartbeats 4000000 in
set_option maxRecDepth 100000 in
theorem c_L_aim_e2 (cy : Nat → ClassId) (a : Nat → Nat) (b : Nat → Nat) (r : Nat) (nx : Nat) (sn : Nat) (ln : Nat) (sk : Nat → Nat → Nat) (S : Nat → CK) (ik : Nat → Int32) (bf : Nat → Nat) (kd : Nat) (hg : Nat) (nu : Nat) (dg : Nat) (ng : Bool) (tk : Bool) (n : Nat) (lit : Int32) (h : Nat → Int32) (t : Nat → Int32) (s : Nat → Int32) (g : Nat → Int32) (kn : Nat) (lo : Int32) (lf : Int32) (nm : Nat → Int32) (ob : Nat) (ou : Nat → Int64) (j : Nat) (y : Int32)  (hj : j < 2) (hy : ¬ (-30 ≤ y ∧ y ≤ 30)) : kIl yL_aim wsL_aim rm_L_aim cy [.ref (b 0), .int (nI j), .int y, .ref ob] ([(ob, .inl (cy 4, 1, .inr (.inl ou)))] ++ ((wXo b cy (a 0) r nx sn ln (svOf sk) (kpOf sk) ik bf ++ wRd r kd hg nu dg ng tk) ++ (wSky a cy n lit h t s g kn lo lf nm ++ wOth sk cy S))) 2 ([(ob, .inl (cy 4, 1, .inr (.inl ou)))] ++ ((wXo b cy (a 0) r nx sn ln (svOf sk) (kpOf sk) ik bf ++ wRd r kd hg nu dg ng tk) ++ (wSky a cy n lit h t s g kn lo lf nm ++ wOth sk cy S))) := by
  refine kIl_of (cc := cL_aim) (maxL := 5) (by decide) rfl (Nat.le_of_ble_eq_true rfl) ?_
  intro X hR C Z hst htb E
  have C : kC X 5 RL cL_aim wsL_aim cy := C
  refine k_fr (fr2 := [(0, .ref (b 0)), (1, .int (nI j)), (2, .int y), (3, .ref ob)]) ⟨[0, 1, 2, 3], rfl⟩ ?_
  refine k_aload_n (q := 1) C 3 dL_aim_0 rfl rfl ?_
  refine k_iconst (q := 2) (v := 0) C dL_aim_1 (by decide) rfl ?_
  refine k_aload_n (q := 3) C 0 dL_aim_2 rfl rfl ?_
  refine k_iload_n (q := 4) C 1 dL_aim_3 rfl rfl ?_
  refine k_iload_n (q := 5) C 2 dL_aim_4 rfl rfl ?_
  refine k_callVE (n := 2) (q := 17) (pre := ([(ob, .inl (cy 4, 1, .inr (.inl ou)))] : va_W)) (post := ([] : va_W)) (w2 := ([(ob, .inl (cy 4, 1, .inr (.inl ou)))] ++ ((wXo b cy (a 0) r nx sn ln (svOf sk) (kpOf sk) ik bf ++ wRd r kd hg nu dg ng tk) ++ (wSky a cy n lit h t s g kn lo lf nm ++ wOth sk cy S)))) (As := [.int (nI j), .int y]) (rest := [.int 0, .ref ob]) C Z hst (c_X3_aim_e2 cy a b r nx sn ln (svOf sk) (kpOf sk) ik bf kd hg nu dg ng tk n lit h t s g kn lo lf nm (wOth sk cy S) j y hj hy) gL_aim_X3_aim rfl rfl rfl (by decide +kernel) (k_room hR (by decide)) (k_cells hR (by decide)) (ci := 3) rfl 0 rfl rfl rfl (Nat.le_of_ble_eq_true rfl) (k_pre) (k_pre.symm) dL_aim_5 htb [⟨0, 10, 13, 21⟩] ⟨0, 10, 17, 13⟩ [] rfl (fun z hz => by rw [List.mem_singleton.mp hz]; exact Or.inr ⟨by decide, "java/lang/IndexOutOfBoundsException", (List.mem_of_getElem? (i := 1) rfl), Z.2.2.2.2.2.2.2⟩) rfl (by decide) (List.mem_of_getElem? (i := 2) rfl) (List.mem_of_getElem? (i := 0) rfl) rfl (fun q9 => ?_)
  refine k_astore (q := 19) (fr2 := [(4, .ref q9), (0, .ref (b 0)), (1, .int (nI j)), (2, .int y), (3, .ref ob)]) C dL_aim_17 (by decide) rfl rfl ?_
  refine k_iconst (q := 20) (v := 2) C dL_aim_19 (by decide) rfl ?_
  exact k_finL E (by decide) (by decide) dL_aim_20 (rfl) (rfl)
abbrev rm_L_turn : Room := { frames := 7, cells := 1, slots := 6, locals := 136 }
theorem in0_L_turn : ∀ w ∈ wsX00, w ∈ wsL_turn := fun _ h => (List.mem_cons_of_mem _ (List.mem_append_left _ (List.mem_append_right _ h)))
theorem in2_L_turn : ∀ w ∈ wsX20, w ∈ wsL_turn := fun _ h => (List.mem_cons_of_mem _ (List.mem_append_left _ (List.mem_append_left _ (List.mem_append_right _ h))))
theorem in3_L_turn : ∀ w ∈ wsX30, w ∈ wsL_turn := fun _ h => (List.mem_cons_of_mem _ (List.mem_append_left _ (List.mem_append_left _ (List.mem_append_left _ (List.mem_append_right _ h)))))
set_option maxHeartbeats 4000000 in
set_option maxRecDepth 100000 in
theorem c_L_turn (cy : Nat → ClassId) (a : Nat → Nat) (b : Nat → Nat) (r : Nat) (nx : Nat) (sn : Nat) (ln : Nat) (sk : Nat → Nat → Nat) (S : Nat → CK) (ik : Nat → Int32) (bf : Nat → Nat) (kd : Nat) (hg : Nat) (nu : Nat) (dg : Nat) (ng : Bool) (tk : Bool) (n : Nat) (lit : Int32) (h : Nat → Int32) (t : Nat → Int32) (s : Nat → Int32) (g : Nat → Int32) (kn : Nat) (lo : Int32) (lf : Int32) (nm : Nat → Int32) (ob : Nat) (ou : Nat → Int64) (j : Nat)  (hnx : nx < 6) (hsn : sn ≤ 6) (hj : j < 2) : kIl yL_turn wsL_turn rm_L_turn cy [.ref (b 0), .int (nI j), .ref ob] ([(ob, .inl (cy 4, 1, .inr (.inl ou)))] ++ ((wXo b cy (a 0) r nx sn ln (svOf sk) (kpOf sk) ik bf ++ wRd r kd hg nu dg ng tk) ++ (wSky a cy n lit h t s g kn lo lf nm ++ wOth sk cy S))) 0 ([(ob, .inl (cy 4, 1, .inr (.inl (vp_updL ou 0 (bI (((lit ^^^ (1 <<< (nI j &&& 31))) >>> (nI j &&& 31)) &&& 1 = 1)).toInt64))))] ++ ((wXo b cy (a 0) r ((nx + 1) % 6) (min (sn + 1) 6) ln (svOf sk) (kpOf sk) ik bf ++ wRd r kd hg nu dg ng tk) ++ (wSky a cy n (lit ^^^ (1 <<< (nI j &&& 31))) h t s g kn lo lf nm ++ wOth sk cy (updS S nx (cLike (n, lit, h, t, s, g, kn, lo, lf, nm) (S nx)))))) := by
  refine kIl_of (cc := cL_turn) (maxL := 4) (by decide) rfl (Nat.le_of_ble_eq_true rfl) ?_
  intro X hR C Z hst htb E
  have C : kC X 4 RL cL_turn wsL_turn cy := C
  refine k_fr (fr2 := [(0, .ref (b 0)), (1, .int (nI j)), (2, .ref ob)]) ⟨[0, 1, 2], rfl⟩ ?_
  refine k_aload_n (q := 1) C 2 dL_turn_0 rfl rfl ?_
  refine k_iconst (q := 2) (v := 0) C dL_turn_1 (by decide) rfl ?_
  refine k_aload_n (q := 3) C 0 dL_turn_2 rfl rfl ?_
  refine k_iload_n (q := 4) C 1 dL_turn_3 rfl rfl ?_
  refine k_callVI (n := 1) (q := 7) (pre := ([(ob, .inl (cy 4, 1, .inr (.inl ou)))] : va_W)) (post := ([] : va_W)) (w2 := ([(ob, .inl (cy 4, 1, .inr (.inl ou)))] ++ ((wXo b cy (a 0) r ((nx + 1) % 6) (min (sn + 1) 6) ln (svOf sk) (kpOf sk) ik bf ++ wRd r kd hg nu dg ng tk) ++ (wSky a cy n (lit ^^^ (1 <<< (nI j &&& 31))) h t s g kn lo lf nm ++ wOth sk cy (updS S nx (cLike (n, lit, h, t, s, g, kn, lo, lf, nm) (S nx))))))) (As := [.int (nI j)]) (rest := [.int 0, .ref ob]) C (c_X3_turn cy a b r nx sn ln sk S ik bf kd hg nu dg ng tk n lit h t s g kn lo lf nm j hnx hsn hj) gL_turn_X3_turn rfl rfl rfl (by decide +kernel) (k_room hR (by decide)) ⟨Nat.zero_le _, Nat.zero_le _⟩ (ci := 3) rfl 0 rfl rfl rfl (Nat.le_of_ble_eq_true rfl) (k_pre) (k_pre.symm) dL_turn_4 rfl ?_
  refine k_i2l (q := 8) C dL_turn_7 rfl ?_
  refine k_last (q := 9) (w2 := ([(ob, .inl (cy 4, 1, .inr (.inl (vp_updL ou 0 ((bI (((lit ^^^ (1 <<< (nI j &&& 31))) >>> (nI j &&& 31)) &&& 1 = 1)).toInt64)))))] ++ ((wXo b cy (a 0) r ((nx + 1) % 6) (min (sn + 1) 6) ln (svOf sk) (kpOf sk) ik bf ++ wRd r kd hg nu dg ng tk) ++ (wSky a cy n (lit ^^^ (1 <<< (nI j &&& 31))) h t s g kn lo lf nm ++ wOth sk cy (updS S nx (cLike (n, lit, h, t, s, g, kn, lo, lf, nm) (S nx))))))) C 0 rfl (vp_in_nI (n := 0) (by decide) (by decide)) rfl dL_turn_8 rfl ?_
  refine k_goto (q := 15) C dL_turn_9 (by decide) ?_
  refine k_iconst (q := 16) (v := 0) C dL_turn_15 (by decide) rfl ?_
  exact k_finL E (by decide) (by decide) dL_turn_16 (rfl) (rfl)
set_option maxHeartbeats 4000000 in
set_option maxRecDepth 100000 in
theorem c_L_turn_e (cy : Nat → ClassId) (a : Nat → Nat) (b : Nat → Nat) (r : Nat) (nx : Nat) (sn : Nat) (ln : Nat) (sk : Nat → Nat → Nat) (S : Nat → CK) (ik : Nat → Int32) (bf : Nat → Nat) (kd : Nat) (hg : Nat) (nu : Nat) (dg : Nat) (ng : Bool) (tk : Bool) (n : Nat) (lit : Int32) (h : Nat → Int32) (t : Nat → Int32) (s : Nat → Int32) (g : Nat → Int32) (kn : Nat) (lo : Int32) (lf : Int32) (nm : Nat → Int32) (ob : Nat) (ou : Nat → Int64) (x : Int32)  (hx : ¬ (0 ≤ x ∧ x ≤ 1)) : kIl yL_turn wsL_turn rm_L_turn cy [.ref (b 0), .int x, .ref ob] ([(ob, .inl (cy 4, 1, .inr (.inl ou)))] ++ ((wXo b cy (a 0) r nx sn ln (svOf sk) (kpOf sk) ik bf ++ wRd r kd hg nu dg ng tk) ++ (wSky a cy n lit h t s g kn lo lf nm ++ wOth sk cy S))) 1 ([(ob, .inl (cy 4, 1, .inr (.inl ou)))] ++ ((wXo b cy (a 0) r nx sn ln (svOf sk) (kpOf sk) ik bf ++ wRd r kd hg nu dg ng tk) ++ (wSky a cy n lit h t s g kn lo lf nm ++ wOth sk cy S))) := by
  refine kIl_of (cc := cL_turn) (maxL := 4) (by decide) rfl (Nat.le_of_ble_eq_true rfl) ?_
  intro X hR C Z hst htb E
  have C : kC X 4 RL cL_turn wsL_turn cy := C
  refine k_fr (fr2 := [(0, .ref (b 0)), (1, .int x), (2, .ref ob)]) ⟨[0, 1, 2], rfl⟩ ?_
  refine k_aload_n (q := 1) C 2 dL_turn_0 rfl rfl ?_
  refine k_iconst (q := 2) (v := 0) C dL_turn_1 (by decide) rfl ?_
  refine k_aload_n (q := 3) C 0 dL_turn_2 rfl rfl ?_
  refine k_iload_n (q := 4) C 1 dL_turn_3 rfl rfl ?_
  refine k_callVE (n := 1) (q := 12) (pre := ([(ob, .inl (cy 4, 1, .inr (.inl ou)))] : va_W)) (post := ([] : va_W)) (w2 := ([(ob, .inl (cy 4, 1, .inr (.inl ou)))] ++ ((wXo b cy (a 0) r nx sn ln (svOf sk) (kpOf sk) ik bf ++ wRd r kd hg nu dg ng tk) ++ (wSky a cy n lit h t s g kn lo lf nm ++ wOth sk cy S)))) (As := [.int x]) (rest := [.int 0, .ref ob]) C Z hst (c_X3_turn_e cy a b r nx sn ln (svOf sk) (kpOf sk) ik bf kd hg nu dg ng tk n lit h t s g kn lo lf nm (wOth sk cy S) x hx) gL_turn_X3_turn rfl rfl rfl (by decide +kernel) (k_room hR (by decide)) (k_cells hR (by decide)) (ci := 3) rfl 0 rfl rfl rfl (Nat.le_of_ble_eq_true rfl) (k_pre) (k_pre.symm) dL_turn_4 htb [] ⟨0, 9, 12, 21⟩ [] rfl (fun _ h => absurd h List.not_mem_nil) rfl (by decide) (List.mem_of_getElem? (i := 1) rfl) (List.mem_of_getElem? (i := 2) rfl) rfl (fun q9 => ?_)
  refine k_astore_n (q := 13) (fr2 := [(3, .ref q9), (0, .ref (b 0)), (1, .int x), (2, .ref ob)]) C dL_turn_12 (by decide) rfl rfl ?_
  refine k_iconst (q := 14) (v := 1) C dL_turn_13 (by decide) rfl ?_
  exact k_finL E (by decide) (by decide) dL_turn_14 (rfl) (rfl)
abbrev rm_L_set : Room := { frames := 7, cells := 1, slots := 6, locals := 138 }
theorem in0_L_set : ∀ w ∈ wsX00, w ∈ wsL_set := fun _ h => (List.mem_cons_of_mem _ (List.mem_append_left _ (List.mem_append_left _ (List.mem_append_right _ h))))
theorem in2_L_set : ∀ w ∈ wsX20, w ∈ wsL_set := fun _ h => (List.mem_cons_of_mem _ (List.mem_append_left _ (List.mem_append_left _ (List.mem_append_left _ (List.mem_append_right _ h)))))
theorem in3_L_set : ∀ w ∈ wsX30, w ∈ wsL_set := fun _ h => (List.mem_cons_of_mem _ (List.mem_append_left _ (List.mem_append_left _ (List.mem_append_left _ (List.mem_append_left _ (List.mem_append_right _ h))))))
set_option maxHeartbeats 4000000 in
set_option maxRecDepth 100000 in
theorem c_L_set (cy : Nat → ClassId) (a : Nat → Nat) (b : Nat → Nat) (r : Nat) (nx : Nat) (sn : Nat) (ln : Nat) (sk : Nat → Nat → Nat) (S : Nat → CK) (ik : Nat → Int32) (bf : Nat → Nat) (kd : Nat) (hg : Nat) (nu : Nat) (dg : Nat) (ng : Bool) (tk : Bool) (n : Nat) (lit : Int32) (h : Nat → Int32) (t : Nat → Int32) (s : Nat → Int32) (g : Nat → Int32) (kn : Nat) (lo : Int32) (lf : Int32) (nm : Nat → Int32) (ob : Nat) (ou : Nat → Int64) (j : Nat) (y : Int32)  (hnx : nx < 6) (hsn : sn ≤ 6) (hj : j < 4) (hy : (mLeast j ≤ y ∧ y ≤ mMost j)) : kIl yL_set wsL_set rm_L_set cy [.ref (b 0), .int (nI j), .int y, .ref ob] ([(ob, .inl (cy 4, 1, .inr (.inl ou)))] ++ ((wXo b cy (a 0) r nx sn ln (svOf sk) (kpOf sk) ik bf ++ wRd r kd hg nu dg ng tk) ++ (wSky a cy n lit h t s g kn lo lf nm ++ wOth sk cy S))) 0 ([(ob, .inl (cy 4, 1, .inr (.inl (vp_updL ou 0 (g j).toInt64))))] ++ ((wXo b cy (a 0) r ((nx + 1) % 6) (min (sn + 1) 6) ln (svOf sk) (kpOf sk) ik bf ++ wRd r kd hg nu dg ng tk) ++ (wSky a cy n lit h t s (upd g j y) kn lo lf nm ++ wOth sk cy (updS S nx (cLike (n, lit, h, t, s, g, kn, lo, lf, nm) (S nx)))))) := by
  refine kIl_of (cc := cL_set) (maxL := 5) (by decide) rfl (Nat.le_of_ble_eq_true rfl) ?_
  intro X hR C Z hst htb E
  have C : kC X 5 RL cL_set wsL_set cy := C
  refine k_fr (fr2 := [(0, .ref (b 0)), (1, .int (nI j)), (2, .int y), (3, .ref ob)]) ⟨[0, 1, 2, 3], rfl⟩ ?_
  refine k_aload_n (q := 1) C 3 dL_set_0 rfl rfl ?_
  refine k_iconst (q := 2) (v := 0) C dL_set_1 (by decide) rfl ?_
  refine k_aload_n (q := 3) C 0 dL_set_2 rfl rfl ?_
  refine k_iload_n (q := 4) C 1 dL_set_3 rfl rfl ?_
  refine k_iload_n (q := 5) C 2 dL_set_4 rfl rfl ?_
  refine k_callVIz (n := 2) (q := 8) (pre := ([(ob, .inl (cy 4, 1, .inr (.inl ou)))] : va_W)) (post := ([] : va_W)) (w2 := ([(ob, .inl (cy 4, 1, .inr (.inl ou)))] ++ ((wXo b cy (a 0) r ((nx + 1) % 6) (min (sn + 1) 6) ln (svOf sk) (kpOf sk) ik bf ++ wRd r kd hg nu dg ng tk) ++ (wSky a cy n lit h t s (upd g j y) kn lo lf nm ++ wOth sk cy (updS S nx (cLike (n, lit, h, t, s, g, kn, lo, lf, nm) (S nx))))))) (As := [.int (nI j), .int y]) (rest := [.int 0, .ref ob]) C Z (c_X3_set cy a b r nx sn ln sk S ik bf kd hg nu dg ng tk n lit h t s g kn lo lf nm j y hnx hsn hj hy) gL_set_X3_set rfl rfl rfl (by decide +kernel) (k_room hR (by decide)) ⟨Nat.zero_le _, Nat.zero_le _⟩ (ci := 3) rfl 0 rfl rfl rfl (Nat.le_of_ble_eq_true rfl) (k_pre) (k_pre.symm) dL_set_5 rfl ?_
  refine k_i2l (q := 9) C dL_set_8 rfl ?_
  refine k_last (q := 10) (w2 := ([(ob, .inl (cy 4, 1, .inr (.inl (vp_updL ou 0 ((g j).toInt64)))))] ++ ((wXo b cy (a 0) r ((nx + 1) % 6) (min (sn + 1) 6) ln (svOf sk) (kpOf sk) ik bf ++ wRd r kd hg nu dg ng tk) ++ (wSky a cy n lit h t s (upd g j y) kn lo lf nm ++ wOth sk cy (updS S nx (cLike (n, lit, h, t, s, g, kn, lo, lf, nm) (S nx))))))) C 0 rfl (vp_in_nI (n := 0) (by decide) (by decide)) rfl dL_set_9 rfl ?_
  refine k_goto (q := 21) C dL_set_10 (by decide) ?_
  refine k_iconst (q := 22) (v := 0) C dL_set_21 (by decide) rfl ?_
  exact k_finL E (by decide) (by decide) dL_set_22 (rfl) (rfl)
set_option maxHeartbeats 4000000 in
set_option maxRecDepth 100000 in
theorem c_L_set_e (cy : Nat → ClassId) (a : Nat → Nat) (b : Nat → Nat) (r : Nat) (nx : Nat) (sn : Nat) (ln : Nat) (sk : Nat → Nat → Nat) (S : Nat → CK) (ik : Nat → Int32) (bf : Nat → Nat) (kd : Nat) (hg : Nat) (nu : Nat) (dg : Nat) (ng : Bool) (tk : Bool) (n : Nat) (lit : Int32) (h : Nat → Int32) (t : Nat → Int32) (s : Nat → Int32) (g : Nat → Int32) (kn : Nat) (lo : Int32) (lf : Int32) (nm : Nat → Int32) (ob : Nat) (ou : Nat → Int64) (x : Int32) (y : Int32)  (hx : ¬ (0 ≤ x ∧ x ≤ 3)) : kIl yL_set wsL_set rm_L_set cy [.ref (b 0), .int x, .int y, .ref ob] ([(ob, .inl (cy 4, 1, .inr (.inl ou)))] ++ ((wXo b cy (a 0) r nx sn ln (svOf sk) (kpOf sk) ik bf ++ wRd r kd hg nu dg ng tk) ++ (wSky a cy n lit h t s g kn lo lf nm ++ wOth sk cy S))) 1 ([(ob, .inl (cy 4, 1, .inr (.inl ou)))] ++ ((wXo b cy (a 0) r nx sn ln (svOf sk) (kpOf sk) ik bf ++ wRd r kd hg nu dg ng tk) ++ (wSky a cy n lit h t s g kn lo lf nm ++ wOth sk cy S))) := by
  refine kIl_of (cc := cL_set) (maxL := 5) (by decide) rfl (Nat.le_of_ble_eq_true rfl) ?_
  intro X hR C Z hst htb E
  have C : kC X 5 RL cL_set wsL_set cy := C
  refine k_fr (fr2 := [(0, .ref (b 0)), (1, .int x), (2, .int y), (3, .ref ob)]) ⟨[0, 1, 2, 3], rfl⟩ ?_
  refine k_aload_n (q := 1) C 3 dL_set_0 rfl rfl ?_
  refine k_iconst (q := 2) (v := 0) C dL_set_1 (by decide) rfl ?_
  refine k_aload_n (q := 3) C 0 dL_set_2 rfl rfl ?_
  refine k_iload_n (q := 4) C 1 dL_set_3 rfl rfl ?_
  refine k_iload_n (q := 5) C 2 dL_set_4 rfl rfl ?_
  refine k_callVE (n := 2) (q := 13) (pre := ([(ob, .inl (cy 4, 1, .inr (.inl ou)))] : va_W)) (post := ([] : va_W)) (w2 := ([(ob, .inl (cy 4, 1, .inr (.inl ou)))] ++ ((wXo b cy (a 0) r nx sn ln (svOf sk) (kpOf sk) ik bf ++ wRd r kd hg nu dg ng tk) ++ (wSky a cy n lit h t s g kn lo lf nm ++ wOth sk cy S)))) (As := [.int x, .int y]) (rest := [.int 0, .ref ob]) C Z hst (c_X3_set_e cy a b r nx sn ln (svOf sk) (kpOf sk) ik bf kd hg nu dg ng tk n lit h t s g kn lo lf nm (wOth sk cy S) x y hx) gL_set_X3_set rfl rfl rfl (by decide +kernel) (k_room hR (by decide)) (k_cells hR (by decide)) (ci := 3) rfl 0 rfl rfl rfl (Nat.le_of_ble_eq_true rfl) (k_pre) (k_pre.symm) dL_set_5 htb [] ⟨0, 10, 13, 21⟩ [⟨0, 10, 17, 13⟩] rfl (fun _ h => absurd h List.not_mem_nil) rfl (by decide) (List.mem_of_getElem? (i := 1) rfl) (List.mem_of_getElem? (i := 2) rfl) rfl (fun q9 => ?_)
  refine k_astore (q := 15) (fr2 := [(4, .ref q9), (0, .ref (b 0)), (1, .int x), (2, .int y), (3, .ref ob)]) C dL_set_13 (by decide) rfl rfl ?_
  refine k_iconst (q := 16) (v := 1) C dL_set_15 (by decide) rfl ?_
  exact k_finL E (by decide) (by decide) dL_set_16 (rfl) (rfl)
set_option maxHeartbeats 4000000 in
set_option maxRecDepth 100000 in
theorem c_L_set_e2 (cy : Nat → ClassId) (a : Nat → Nat) (b : Nat → Nat) (r : Nat) (nx : Nat) (sn : Nat) (ln : Nat) (sk : Nat → Nat → Nat) (S : Nat → CK) (ik : Nat → Int32) (bf : Nat → Nat) (kd : Nat) (hg : Nat) (nu : Nat) (dg : Nat) (ng : Bool) (tk : Bool) (n : Nat) (lit : Int32) (h : Nat → Int32) (t : Nat → Int32) (s : Nat → Int32) (g : Nat → Int32) (kn : Nat) (lo : Int32) (lf : Int32) (nm : Nat → Int32) (ob : Nat) (ou : Nat → Int64) (j : Nat) (y : Int32)  (hj : j < 4) (hy : ¬ (mLeast j ≤ y ∧ y ≤ mMost j)) : kIl yL_set wsL_set rm_L_set cy [.ref (b 0), .int (nI j), .int y, .ref ob] ([(ob, .inl (cy 4, 1, .inr (.inl ou)))] ++ ((wXo b cy (a 0) r nx sn ln (svOf sk) (kpOf sk) ik bf ++ wRd r kd hg nu dg ng tk) ++ (wSky a cy n lit h t s g kn lo lf nm ++ wOth sk cy S))) 2 ([(ob, .inl (cy 4, 1, .inr (.inl ou)))] ++ ((wXo b cy (a 0) r nx sn ln (svOf sk) (kpOf sk) ik bf ++ wRd r kd hg nu dg ng tk) ++ (wSky a cy n lit h t s g kn lo lf nm ++ wOth sk cy S))) := by
  refine kIl_of (cc := cL_set) (maxL := 5) (by decide) rfl (Nat.le_of_ble_eq_true rfl) ?_
  intro X hR C Z hst htb E
  have C : kC X 5 RL cL_set wsL_set cy := C
  refine k_fr (fr2 := [(0, .ref (b 0)), (1, .int (nI j)), (2, .int y), (3, .ref ob)]) ⟨[0, 1, 2, 3], rfl⟩ ?_
  refine k_aload_n (q := 1) C 3 dL_set_0 rfl rfl ?_
  refine k_iconst (q := 2) (v := 0) C dL_set_1 (by decide) rfl ?_
  refine k_aload_n (q := 3) C 0 dL_set_2 rfl rfl ?_
  refine k_iload_n (q := 4) C 1 dL_set_3 rfl rfl ?_
  refine k_iload_n (q := 5) C 2 dL_set_4 rfl rfl ?_
  refine k_callVE (n := 2) (q := 17) (pre := ([(ob, .inl (cy 4, 1, .inr (.inl ou)))] : va_W)) (post := ([] : va_W)) (w2 := ([(ob, .inl (cy 4, 1, .inr (.inl ou)))] ++ ((wXo b cy (a 0) r nx sn ln (svOf sk) (kpOf sk) ik bf ++ wRd r kd hg nu dg ng tk) ++ (wSky a cy n lit h t s g kn lo lf nm ++ wOth sk cy S)))) (As := [.int (nI j), .int y]) (rest := [.int 0, .ref ob]) C Z hst (c_X3_set_e2 cy a b r nx sn ln (svOf sk) (kpOf sk) ik bf kd hg nu dg ng tk n lit h t s g kn lo lf nm (wOth sk cy S) j y hj hy) gL_set_X3_set rfl rfl rfl (by decide +kernel) (k_room hR (by decide)) (k_cells hR (by decide)) (ci := 3) rfl 0 rfl rfl rfl (Nat.le_of_ble_eq_true rfl) (k_pre) (k_pre.symm) dL_set_5 htb [⟨0, 10, 13, 21⟩] ⟨0, 10, 17, 13⟩ [] rfl (fun z hz => by rw [List.mem_singleton.mp hz]; exact Or.inr ⟨by decide, "java/lang/IndexOutOfBoundsException", (List.mem_of_getElem? (i := 1) rfl), Z.2.2.2.2.2.2.2⟩) rfl (by decide) (List.mem_of_getElem? (i := 2) rfl) (List.mem_of_getElem? (i := 0) rfl) rfl (fun q9 => ?_)
  refine k_astore (q := 19) (fr2 := [(4, .ref q9), (0, .ref (b 0)), (1, .int (nI j)), (2, .int y), (3, .ref ob)]) C dL_set_17 (by decide) rfl rfl ?_
  refine k_iconst (q := 20) (v := 2) C dL_set_19 (by decide) rfl ?_
  exact k_finL E (by decide) (by decide) dL_set_20 (rfl) (rfl)
abbrev rm_L_scan : Room := { frames := 7, cells := 1, slots := 6, locals := 137 }
theorem in0_L_scan : ∀ w ∈ wsX00, w ∈ wsL_scan := fun _ h => (List.mem_cons_of_mem _ (List.mem_append_left _ (List.mem_append_right _ h)))
theorem in2_L_scan : ∀ w ∈ wsX20, w ∈ wsL_scan := fun _ h => (List.mem_cons_of_mem _ (List.mem_append_left _ (List.mem_append_left _ (List.mem_append_right _ h))))
theorem in3_L_scan : ∀ w ∈ wsX30, w ∈ wsL_scan := fun _ h => (List.mem_cons_of_mem _ (List.mem_append_left _ (List.mem_append_left _ (List.mem_append_left _ (List.mem_append_right _ h)))))
set_option maxHeartbeats 4000000 in
set_option maxRecDepth 100000 in
theorem c_L_scan (cy : Nat → ClassId) (a : Nat → Nat) (b : Nat → Nat) (r : Nat) (nx : Nat) (sn : Nat) (ln : Nat) (sk : Nat → Nat → Nat) (S : Nat → CK) (ik : Nat → Int32) (bf : Nat → Nat) (kd : Nat) (hg : Nat) (nu : Nat) (dg : Nat) (ng : Bool) (tk : Bool) (n : Nat) (lit : Int32) (h : Nat → Int32) (t : Nat → Int32) (s : Nat → Int32) (g : Nat → Int32) (kn : Nat) (lo : Int32) (lf : Int32) (nm : Nat → Int32) (ob : Nat) (ou : Nat → Int64) (j : Nat) (p : Nat)  (hnx : nx < 6) (hsn : sn ≤ 6) (hn : n ≤ 6) (hj : j < 2) (hp : p < n) : kIl yL_scan wsL_scan rm_L_scan cy [.ref (b 0), .int (nI j), .int (nI p), .ref ob] ([(ob, .inl (cy 4, 1, .inr (.inl ou)))] ++ ((wXo b cy (a 0) r nx sn ln (svOf sk) (kpOf sk) ik bf ++ wRd r kd hg nu dg ng tk) ++ (wSky a cy n lit h t s g kn lo lf nm ++ wOth sk cy S))) 0 ([(ob, .inl (cy 4, 1, .inr (.inl (vp_updL ou 0 (mAbs (sDist h g p ((upd s j (iI (sTry g h s j p))) 0) ((upd s j (iI (sTry g h s j p))) 1))).toInt64))))] ++ ((wXo b cy (a 0) r ((nx + 1) % 6) (min (sn + 1) 6) ln (svOf sk) (kpOf sk) ik bf ++ wRd r kd hg nu dg ng tk) ++ (wSky a cy n lit h t (upd s j (iI (sTry g h s j p))) g kn lo lf nm ++ wOth sk cy (updS S nx (cLike (n, lit, h, t, s, g, kn, lo, lf, nm) (S nx)))))) := by
  refine kIl_of (cc := cL_scan) (maxL := 5) (by decide) rfl (Nat.le_of_ble_eq_true rfl) ?_
  intro X hR C Z hst htb E
  have C : kC X 5 RL cL_scan wsL_scan cy := C
  refine k_fr (fr2 := [(0, .ref (b 0)), (1, .int (nI j)), (2, .int (nI p)), (3, .ref ob)]) ⟨[0, 1, 2, 3], rfl⟩ ?_
  refine k_aload_n (q := 1) C 3 dL_scan_0 rfl rfl ?_
  refine k_iconst (q := 2) (v := 0) C dL_scan_1 (by decide) rfl ?_
  refine k_aload_n (q := 3) C 0 dL_scan_2 rfl rfl ?_
  refine k_iload_n (q := 4) C 1 dL_scan_3 rfl rfl ?_
  refine k_iload_n (q := 5) C 2 dL_scan_4 rfl rfl ?_
  refine k_callVI (n := 2) (q := 8) (pre := ([(ob, .inl (cy 4, 1, .inr (.inl ou)))] : va_W)) (post := ([] : va_W)) (w2 := ([(ob, .inl (cy 4, 1, .inr (.inl ou)))] ++ ((wXo b cy (a 0) r ((nx + 1) % 6) (min (sn + 1) 6) ln (svOf sk) (kpOf sk) ik bf ++ wRd r kd hg nu dg ng tk) ++ (wSky a cy n lit h t (upd s j (iI (sTry g h s j p))) g kn lo lf nm ++ wOth sk cy (updS S nx (cLike (n, lit, h, t, s, g, kn, lo, lf, nm) (S nx))))))) (As := [.int (nI j), .int (nI p)]) (rest := [.int 0, .ref ob]) C (c_X3_scan cy a b r nx sn ln sk S ik bf kd hg nu dg ng tk n lit h t s g kn lo lf nm j p hnx hsn hn hj hp) gL_scan_X3_scan rfl rfl rfl (by decide +kernel) (k_room hR (by decide)) ⟨Nat.zero_le _, Nat.zero_le _⟩ (ci := 3) rfl 0 rfl rfl rfl (Nat.le_of_ble_eq_true rfl) (k_pre) (k_pre.symm) dL_scan_5 rfl ?_
  refine k_i2l (q := 9) C dL_scan_8 rfl ?_
  refine k_last (q := 10) (w2 := ([(ob, .inl (cy 4, 1, .inr (.inl (vp_updL ou 0 ((mAbs (sDist h g p ((upd s j (iI (sTry g h s j p))) 0) ((upd s j (iI (sTry g h s j p))) 1))).toInt64)))))] ++ ((wXo b cy (a 0) r ((nx + 1) % 6) (min (sn + 1) 6) ln (svOf sk) (kpOf sk) ik bf ++ wRd r kd hg nu dg ng tk) ++ (wSky a cy n lit h t (upd s j (iI (sTry g h s j p))) g kn lo lf nm ++ wOth sk cy (updS S nx (cLike (n, lit, h, t, s, g, kn, lo, lf, nm) (S nx))))))) C 0 rfl (vp_in_nI (n := 0) (by decide) (by decide)) rfl dL_scan_9 rfl ?_
  refine k_goto (q := 17) C dL_scan_10 (by decide) ?_
  refine k_iconst (q := 18) (v := 0) C dL_scan_17 (by decide) rfl ?_
  exact k_finL E (by decide) (by decide) dL_scan_18 (rfl) (rfl)
set_option maxHeartbeats 4000000 in
set_option maxRecDepth 100000 in
theorem c_L_scan_e (cy : Nat → ClassId) (a : Nat → Nat) (b : Nat → Nat) (r : Nat) (nx : Nat) (sn : Nat) (ln : Nat) (sk : Nat → Nat → Nat) (S : Nat → CK) (ik : Nat → Int32) (bf : Nat → Nat) (kd : Nat) (hg : Nat) (nu : Nat) (dg : Nat) (ng : Bool) (tk : Bool) (n : Nat) (lit : Int32) (h : Nat → Int32) (t : Nat → Int32) (s : Nat → Int32) (g : Nat → Int32) (kn : Nat) (lo : Int32) (lf : Int32) (nm : Nat → Int32) (ob : Nat) (ou : Nat → Int64) (x : Int32) (y : Int32)  (hx : ¬ ((0 ≤ x ∧ x ≤ 1) ∧ (0 ≤ y ∧ y < nI n))) : kIl yL_scan wsL_scan rm_L_scan cy [.ref (b 0), .int x, .int y, .ref ob] ([(ob, .inl (cy 4, 1, .inr (.inl ou)))] ++ ((wXo b cy (a 0) r nx sn ln (svOf sk) (kpOf sk) ik bf ++ wRd r kd hg nu dg ng tk) ++ (wSky a cy n lit h t s g kn lo lf nm ++ wOth sk cy S))) 1 ([(ob, .inl (cy 4, 1, .inr (.inl ou)))] ++ ((wXo b cy (a 0) r nx sn ln (svOf sk) (kpOf sk) ik bf ++ wRd r kd hg nu dg ng tk) ++ (wSky a cy n lit h t s g kn lo lf nm ++ wOth sk cy S))) := by
  refine kIl_of (cc := cL_scan) (maxL := 5) (by decide) rfl (Nat.le_of_ble_eq_true rfl) ?_
  intro X hR C Z hst htb E
  have C : kC X 5 RL cL_scan wsL_scan cy := C
  refine k_fr (fr2 := [(0, .ref (b 0)), (1, .int x), (2, .int y), (3, .ref ob)]) ⟨[0, 1, 2, 3], rfl⟩ ?_
  refine k_aload_n (q := 1) C 3 dL_scan_0 rfl rfl ?_
  refine k_iconst (q := 2) (v := 0) C dL_scan_1 (by decide) rfl ?_
  refine k_aload_n (q := 3) C 0 dL_scan_2 rfl rfl ?_
  refine k_iload_n (q := 4) C 1 dL_scan_3 rfl rfl ?_
  refine k_iload_n (q := 5) C 2 dL_scan_4 rfl rfl ?_
  refine k_callVE (n := 2) (q := 13) (pre := ([(ob, .inl (cy 4, 1, .inr (.inl ou)))] : va_W)) (post := ([] : va_W)) (w2 := ([(ob, .inl (cy 4, 1, .inr (.inl ou)))] ++ ((wXo b cy (a 0) r nx sn ln (svOf sk) (kpOf sk) ik bf ++ wRd r kd hg nu dg ng tk) ++ (wSky a cy n lit h t s g kn lo lf nm ++ wOth sk cy S)))) (As := [.int x, .int y]) (rest := [.int 0, .ref ob]) C Z hst (c_X3_scan_e cy a b r nx sn ln (svOf sk) (kpOf sk) ik bf kd hg nu dg ng tk n lit h t s g kn lo lf nm (wOth sk cy S) x y hx) gL_scan_X3_scan rfl rfl rfl (by decide +kernel) (k_room hR (by decide)) (k_cells hR (by decide)) (ci := 3) rfl 0 rfl rfl rfl (Nat.le_of_ble_eq_true rfl) (k_pre) (k_pre.symm) dL_scan_5 htb [] ⟨0, 10, 13, 21⟩ [] rfl (fun _ h => absurd h List.not_mem_nil) rfl (by decide) (List.mem_of_getElem? (i := 1) rfl) (List.mem_of_getElem? (i := 2) rfl) rfl (fun q9 => ?_)
  refine k_astore (q := 15) (fr2 := [(4, .ref q9), (0, .ref (b 0)), (1, .int x), (2, .int y), (3, .ref ob)]) C dL_scan_13 (by decide) rfl rfl ?_
  refine k_iconst (q := 16) (v := 1) C dL_scan_15 (by decide) rfl ?_
  exact k_finL E (by decide) (by decide) dL_scan_16 (rfl) (rfl)
abbrev rm_L_append : Room := { frames := 7, cells := 1, slots := 6, locals := 103 }
theorem in3_L_append : ∀ w ∈ wsX30, w ∈ wsL_append := fun _ h => (List.mem_cons_of_mem _ (List.mem_append_left _ (List.mem_append_left _ (List.mem_append_right _ h))))
set_option maxHeartbeats 4000000 in
set_option maxRecDepth 100000 in
theorem c_L_append (cy : Nat → ClassId) (a : Nat → Nat) (b : Nat → Nat) (r : Nat) (nx : Nat) (sn : Nat) (ln : Nat) (sk : Nat → Nat → Nat) (S : Nat → CK) (ik : Nat → Int32) (bf : Nat → Nat) (kd : Nat) (hg : Nat) (nu : Nat) (dg : Nat) (ng : Bool) (tk : Bool) (n : Nat) (lit : Int32) (h : Nat → Int32) (t : Nat → Int32) (s : Nat → Int32) (g : Nat → Int32) (kn : Nat) (lo : Int32) (lf : Int32) (nm : Nat → Int32) (ob : Nat) (ou : Nat → Int64) (c : Nat)  (hc : 33 ≤ c ∧ c ≤ 126) (hl : ln < 60) : kIl yL_append wsL_append rm_L_append cy [.ref (b 0), .int (nI c), .ref ob] ([(ob, .inl (cy 4, 1, .inr (.inl ou)))] ++ ((wXo b cy (a 0) r nx sn ln (svOf sk) (kpOf sk) ik bf ++ wRd r kd hg nu dg ng tk) ++ (wSky a cy n lit h t s g kn lo lf nm ++ wOth sk cy S))) 0 ([(ob, .inl (cy 4, 1, .inr (.inl (vp_updL ou 0 (nI (ln + 1)).toInt64))))] ++ ((wXo b cy (a 0) r nx sn (ln + 1) (svOf sk) (kpOf sk) ik (updN bf ln c) ++ wRd r kd hg nu dg ng tk) ++ (wSky a cy n lit h t s g kn lo lf nm ++ wOth sk cy S))) := by
  refine kIl_of (cc := cL_append) (maxL := 4) (by decide) rfl (Nat.le_of_ble_eq_true rfl) ?_
  intro X hR C Z hst htb E
  have C : kC X 4 RL cL_append wsL_append cy := C
  refine k_fr (fr2 := [(0, .ref (b 0)), (1, .int (nI c)), (2, .ref ob)]) ⟨[0, 1, 2], rfl⟩ ?_
  refine k_aload_n (q := 1) C 2 dL_append_0 rfl rfl ?_
  refine k_iconst (q := 2) (v := 0) C dL_append_1 (by decide) rfl ?_
  refine k_aload_n (q := 3) C 0 dL_append_2 rfl rfl ?_
  refine k_iload_n (q := 4) C 1 dL_append_3 rfl rfl ?_
  refine k_callVI (n := 1) (q := 7) (pre := ([(ob, .inl (cy 4, 1, .inr (.inl ou)))] : va_W)) (post := ([] : va_W)) (w2 := ([(ob, .inl (cy 4, 1, .inr (.inl ou)))] ++ ((wXo b cy (a 0) r nx sn (ln + 1) (svOf sk) (kpOf sk) ik (updN bf ln c) ++ wRd r kd hg nu dg ng tk) ++ (wSky a cy n lit h t s g kn lo lf nm ++ wOth sk cy S)))) (As := [.int (nI c)]) (rest := [.int 0, .ref ob]) C (c_X3_append cy a b r nx sn ln (svOf sk) (kpOf sk) ik bf kd hg nu dg ng tk n lit h t s g kn lo lf nm (wOth sk cy S) c hc hl) gL_append_X3_append rfl rfl rfl (by decide +kernel) (k_room hR (by decide)) ⟨Nat.zero_le _, Nat.zero_le _⟩ (ci := 3) rfl 0 rfl rfl rfl (Nat.le_of_ble_eq_true rfl) (k_pre) (k_pre.symm) dL_append_4 rfl ?_
  refine k_i2l (q := 8) C dL_append_7 rfl ?_
  refine k_last (q := 9) (w2 := ([(ob, .inl (cy 4, 1, .inr (.inl (vp_updL ou 0 ((nI (ln + 1)).toInt64)))))] ++ ((wXo b cy (a 0) r nx sn (ln + 1) (svOf sk) (kpOf sk) ik (updN bf ln c) ++ wRd r kd hg nu dg ng tk) ++ (wSky a cy n lit h t s g kn lo lf nm ++ wOth sk cy S)))) C 0 rfl (vp_in_nI (n := 0) (by decide) (by decide)) rfl dL_append_8 rfl ?_
  refine k_goto (q := 18) C dL_append_9 (by decide) ?_
  refine k_iconst (q := 19) (v := 0) C dL_append_18 (by decide) rfl ?_
  exact k_finL E (by decide) (by decide) dL_append_19 (rfl) (rfl)
set_option maxHeartbeats 4000000 in
set_option maxRecDepth 100000 in
theorem c_L_append_e (cy : Nat → ClassId) (a : Nat → Nat) (b : Nat → Nat) (r : Nat) (nx : Nat) (sn : Nat) (ln : Nat) (sk : Nat → Nat → Nat) (S : Nat → CK) (ik : Nat → Int32) (bf : Nat → Nat) (kd : Nat) (hg : Nat) (nu : Nat) (dg : Nat) (ng : Bool) (tk : Bool) (n : Nat) (lit : Int32) (h : Nat → Int32) (t : Nat → Int32) (s : Nat → Int32) (g : Nat → Int32) (kn : Nat) (lo : Int32) (lf : Int32) (nm : Nat → Int32) (ob : Nat) (ou : Nat → Int64) (x : Int32)  (hx : ¬ (33 ≤ x ∧ x ≤ 126)) : kIl yL_append wsL_append rm_L_append cy [.ref (b 0), .int x, .ref ob] ([(ob, .inl (cy 4, 1, .inr (.inl ou)))] ++ ((wXo b cy (a 0) r nx sn ln (svOf sk) (kpOf sk) ik bf ++ wRd r kd hg nu dg ng tk) ++ (wSky a cy n lit h t s g kn lo lf nm ++ wOth sk cy S))) 1 ([(ob, .inl (cy 4, 1, .inr (.inl ou)))] ++ ((wXo b cy (a 0) r nx sn ln (svOf sk) (kpOf sk) ik bf ++ wRd r kd hg nu dg ng tk) ++ (wSky a cy n lit h t s g kn lo lf nm ++ wOth sk cy S))) := by
  refine kIl_of (cc := cL_append) (maxL := 4) (by decide) rfl (Nat.le_of_ble_eq_true rfl) ?_
  intro X hR C Z hst htb E
  have C : kC X 4 RL cL_append wsL_append cy := C
  refine k_fr (fr2 := [(0, .ref (b 0)), (1, .int x), (2, .ref ob)]) ⟨[0, 1, 2], rfl⟩ ?_
  refine k_aload_n (q := 1) C 2 dL_append_0 rfl rfl ?_
  refine k_iconst (q := 2) (v := 0) C dL_append_1 (by decide) rfl ?_
  refine k_aload_n (q := 3) C 0 dL_append_2 rfl rfl ?_
  refine k_iload_n (q := 4) C 1 dL_append_3 rfl rfl ?_
  refine k_callVE (n := 1) (q := 12) (pre := ([(ob, .inl (cy 4, 1, .inr (.inl ou)))] : va_W)) (post := ([] : va_W)) (w2 := ([(ob, .inl (cy 4, 1, .inr (.inl ou)))] ++ ((wXo b cy (a 0) r nx sn ln (svOf sk) (kpOf sk) ik bf ++ wRd r kd hg nu dg ng tk) ++ (wSky a cy n lit h t s g kn lo lf nm ++ wOth sk cy S)))) (As := [.int x]) (rest := [.int 0, .ref ob]) C Z hst (c_X3_append_e cy a b r nx sn ln (svOf sk) (kpOf sk) ik bf kd hg nu dg ng tk n lit h t s g kn lo lf nm (wOth sk cy S) x hx) gL_append_X3_append rfl rfl rfl (by decide +kernel) (k_room hR (by decide)) (k_cells hR (by decide)) (ci := 3) rfl 0 rfl rfl rfl (Nat.le_of_ble_eq_true rfl) (k_pre) (k_pre.symm) dL_append_4 htb [] ⟨0, 9, 12, 13⟩ [⟨0, 9, 15, 15⟩] rfl (fun _ h => absurd h List.not_mem_nil) rfl (by decide) (List.mem_of_getElem? (i := 1) rfl) (List.mem_of_getElem? (i := 0) rfl) rfl (fun q9 => ?_)
  refine k_astore_n (q := 13) (fr2 := [(3, .ref q9), (0, .ref (b 0)), (1, .int x), (2, .ref ob)]) C dL_append_12 (by decide) rfl rfl ?_
  refine k_iconst (q := 14) (v := 1) C dL_append_13 (by decide) rfl ?_
  exact k_finL E (by decide) (by decide) dL_append_14 (rfl) (rfl)
set_option maxHeartbeats 4000000 in
set_option maxRecDepth 100000 in
theorem c_L_append_e2 (cy : Nat → ClassId) (a : Nat → Nat) (b : Nat → Nat) (r : Nat) (nx : Nat) (sn : Nat) (ln : Nat) (sk : Nat → Nat → Nat) (S : Nat → CK) (ik : Nat → Int32) (bf : Nat → Nat) (kd : Nat) (hg : Nat) (nu : Nat) (dg : Nat) (ng : Bool) (tk : Bool) (n : Nat) (lit : Int32) (h : Nat → Int32) (t : Nat → Int32) (s : Nat → Int32) (g : Nat → Int32) (kn : Nat) (lo : Int32) (lf : Int32) (nm : Nat → Int32) (ob : Nat) (ou : Nat → Int64) (c : Nat)  (hc : 33 ≤ c ∧ c ≤ 126) (hl : ln = 60) : kIl yL_append wsL_append rm_L_append cy [.ref (b 0), .int (nI c), .ref ob] ([(ob, .inl (cy 4, 1, .inr (.inl ou)))] ++ ((wXo b cy (a 0) r nx sn ln (svOf sk) (kpOf sk) ik bf ++ wRd r kd hg nu dg ng tk) ++ (wSky a cy n lit h t s g kn lo lf nm ++ wOth sk cy S))) 2 ([(ob, .inl (cy 4, 1, .inr (.inl ou)))] ++ ((wXo b cy (a 0) r nx sn ln (svOf sk) (kpOf sk) ik bf ++ wRd r kd hg nu dg ng tk) ++ (wSky a cy n lit h t s g kn lo lf nm ++ wOth sk cy S))) := by
  refine kIl_of (cc := cL_append) (maxL := 4) (by decide) rfl (Nat.le_of_ble_eq_true rfl) ?_
  intro X hR C Z hst htb E
  have C : kC X 4 RL cL_append wsL_append cy := C
  refine k_fr (fr2 := [(0, .ref (b 0)), (1, .int (nI c)), (2, .ref ob)]) ⟨[0, 1, 2], rfl⟩ ?_
  refine k_aload_n (q := 1) C 2 dL_append_0 rfl rfl ?_
  refine k_iconst (q := 2) (v := 0) C dL_append_1 (by decide) rfl ?_
  refine k_aload_n (q := 3) C 0 dL_append_2 rfl rfl ?_
  refine k_iload_n (q := 4) C 1 dL_append_3 rfl rfl ?_
  refine k_callVE (n := 1) (q := 15) (pre := ([(ob, .inl (cy 4, 1, .inr (.inl ou)))] : va_W)) (post := ([] : va_W)) (w2 := ([(ob, .inl (cy 4, 1, .inr (.inl ou)))] ++ ((wXo b cy (a 0) r nx sn ln (svOf sk) (kpOf sk) ik bf ++ wRd r kd hg nu dg ng tk) ++ (wSky a cy n lit h t s g kn lo lf nm ++ wOth sk cy S)))) (As := [.int (nI c)]) (rest := [.int 0, .ref ob]) C Z hst (c_X3_append_e2 cy a b r nx sn ln (svOf sk) (kpOf sk) ik bf kd hg nu dg ng tk n lit h t s g kn lo lf nm (wOth sk cy S) c hc hl) gL_append_X3_append rfl rfl rfl (by decide +kernel) (k_room hR (by decide)) (k_cells hR (by decide)) (ci := 3) rfl 0 rfl rfl rfl (Nat.le_of_ble_eq_true rfl) (k_pre) (k_pre.symm) dL_append_4 htb [⟨0, 9, 12, 13⟩] ⟨0, 9, 15, 15⟩ [] rfl (fun z hz => by rw [List.mem_singleton.mp hz]; exact Or.inr ⟨by decide, "java/lang/IllegalArgumentException", (List.mem_of_getElem? (i := 1) rfl), Z.2.2.2.2.2.2.1⟩) rfl (by decide) (List.mem_of_getElem? (i := 2) rfl) (List.mem_of_getElem? (i := 1) rfl) rfl (fun q9 => ?_)
  refine k_astore_n (q := 16) (fr2 := [(3, .ref q9), (0, .ref (b 0)), (1, .int (nI c)), (2, .ref ob)]) C dL_append_15 (by decide) rfl rfl ?_
  refine k_iconst (q := 17) (v := 2) C dL_append_16 (by decide) rfl ?_
  exact k_finL E (by decide) (by decide) dL_append_17 (rfl) (rfl)
abbrev rm_L_execute : Room := { frames := 7, cells := 1, slots := 6, locals := 162 }
theorem in0_L_execute : ∀ w ∈ wsX00, w ∈ wsL_execute := fun _ h => (List.mem_cons_of_mem _ (List.mem_append_left _ (List.mem_append_right _ h)))
theorem in1_L_execute : ∀ w ∈ wsX10, w ∈ wsL_execute := fun _ h => (List.mem_cons_of_mem _ (List.mem_append_left _ (List.mem_append_left _ (List.mem_append_left _ (List.mem_append_right _ h)))))
theorem in2_L_execute : ∀ w ∈ wsX20, w ∈ wsL_execute := fun _ h => (List.mem_cons_of_mem _ (List.mem_append_left _ (List.mem_append_left _ (List.mem_append_right _ h))))
theorem in3_L_execute : ∀ w ∈ wsX30, w ∈ wsL_execute := fun _ h => (List.mem_cons_of_mem _ (List.mem_append_left _ (List.mem_append_left _ (List.mem_append_left _ (List.mem_append_left _ (List.mem_append_right _ h))))))
set_option maxHeartbeats 4000000 in
set_option maxRecDepth 100000 in
theorem c_L_execute (cy : Nat → ClassId) (a : Nat → Nat) (b : Nat → Nat) (r : Nat) (nx : Nat) (sn : Nat) (ln : Nat) (sk : Nat → Nat → Nat) (S : Nat → CK) (ik : Nat → Int32) (bf : Nat → Nat) (kd : Nat) (hg : Nat) (nu : Nat) (dg : Nat) (ng : Bool) (tk : Bool) (n : Nat) (lit : Int32) (h : Nat → Int32) (t : Nat → Int32) (s : Nat → Int32) (g : Nat → Int32) (kn : Nat) (lo : Int32) (lf : Int32) (nm : Nat → Int32) (ob : Nat) (ou : Nat → Int64)  (hb : ∀ i, bf i ≤ 126) (hln : ln ≤ 60) (hnx : nx < 6) (hsn : sn ≤ 6) (hn : n ≤ 6) (hk : kn ≤ 8) (he : (xRead bf ln (ln + 1) 0 ((0, 0, 0, 0, false, false) : RT)).1 = ln) (hw : rWhole (xRead bf ln (ln + 1) 0 ((0, 0, 0, 0, false, false) : RT)).2.1 (xRead bf ln (ln + 1) 0 ((0, 0, 0, 0, false, false) : RT)).2.2.2.2.1 (xRead bf ln (ln + 1) 0 ((0, 0, 0, 0, false, false) : RT)).2.2.2.2.2.2 = true) : kIl yL_execute wsL_execute rm_L_execute cy [.ref (b 0), .ref ob] ([(ob, .inl (cy 4, 1, .inr (.inl ou)))] ++ ((wXo b cy (a 0) r nx sn ln (svOf sk) (kpOf sk) ik bf ++ wRd r kd hg nu dg ng tk) ++ (wSky a cy n lit h t s g kn lo lf nm ++ wOth sk cy S))) 0 ([(ob, .inl (cy 4, 1, .inr (.inl (vp_updL ou 0 (nI (xRun bf ln (ln + 1) 0 0 ((0, 0, 0, 0, false, false) : RT) ((n, lit, h, t, s, g, kn, lo, lf, nm) : CK)).1).toInt64))))] ++ ((wXo b cy (a 0) r ((nx + 1) % 6) (min (sn + 1) 6) 0 (svOf sk) (kpOf sk) ik bf ++ wRd r (xRun bf ln (ln + 1) 0 0 ((0, 0, 0, 0, false, false) : RT) ((n, lit, h, t, s, g, kn, lo, lf, nm) : CK)).2.1.1 (xRun bf ln (ln + 1) 0 0 ((0, 0, 0, 0, false, false) : RT) ((n, lit, h, t, s, g, kn, lo, lf, nm) : CK)).2.1.2.1 (xRun bf ln (ln + 1) 0 0 ((0, 0, 0, 0, false, false) : RT) ((n, lit, h, t, s, g, kn, lo, lf, nm) : CK)).2.1.2.2.1 (xRun bf ln (ln + 1) 0 0 ((0, 0, 0, 0, false, false) : RT) ((n, lit, h, t, s, g, kn, lo, lf, nm) : CK)).2.1.2.2.2.1 (xRun bf ln (ln + 1) 0 0 ((0, 0, 0, 0, false, false) : RT) ((n, lit, h, t, s, g, kn, lo, lf, nm) : CK)).2.1.2.2.2.2.1 (xRun bf ln (ln + 1) 0 0 ((0, 0, 0, 0, false, false) : RT) ((n, lit, h, t, s, g, kn, lo, lf, nm) : CK)).2.1.2.2.2.2.2) ++ (wSky a cy (qN (xRun bf ln (ln + 1) 0 0 ((0, 0, 0, 0, false, false) : RT) ((n, lit, h, t, s, g, kn, lo, lf, nm) : CK)).2.2) (qLit (xRun bf ln (ln + 1) 0 0 ((0, 0, 0, 0, false, false) : RT) ((n, lit, h, t, s, g, kn, lo, lf, nm) : CK)).2.2) (qH (xRun bf ln (ln + 1) 0 0 ((0, 0, 0, 0, false, false) : RT) ((n, lit, h, t, s, g, kn, lo, lf, nm) : CK)).2.2) (qT (xRun bf ln (ln + 1) 0 0 ((0, 0, 0, 0, false, false) : RT) ((n, lit, h, t, s, g, kn, lo, lf, nm) : CK)).2.2) (qS (xRun bf ln (ln + 1) 0 0 ((0, 0, 0, 0, false, false) : RT) ((n, lit, h, t, s, g, kn, lo, lf, nm) : CK)).2.2) (qG (xRun bf ln (ln + 1) 0 0 ((0, 0, 0, 0, false, false) : RT) ((n, lit, h, t, s, g, kn, lo, lf, nm) : CK)).2.2) (qK (xRun bf ln (ln + 1) 0 0 ((0, 0, 0, 0, false, false) : RT) ((n, lit, h, t, s, g, kn, lo, lf, nm) : CK)).2.2) (qLo (xRun bf ln (ln + 1) 0 0 ((0, 0, 0, 0, false, false) : RT) ((n, lit, h, t, s, g, kn, lo, lf, nm) : CK)).2.2) (qLf (xRun bf ln (ln + 1) 0 0 ((0, 0, 0, 0, false, false) : RT) ((n, lit, h, t, s, g, kn, lo, lf, nm) : CK)).2.2) (qNm (xRun bf ln (ln + 1) 0 0 ((0, 0, 0, 0, false, false) : RT) ((n, lit, h, t, s, g, kn, lo, lf, nm) : CK)).2.2) ++ wOth sk cy (updS S nx (cLike (n, lit, h, t, s, g, kn, lo, lf, nm) (S nx)))))) := by
  refine kIl_of (cc := cL_execute) (maxL := 3) (by decide) rfl (Nat.le_of_ble_eq_true rfl) ?_
  intro X hR C Z hst htb E
  have C : kC X 3 RL cL_execute wsL_execute cy := C
  refine k_fr (fr2 := [(0, .ref (b 0)), (1, .ref ob)]) ⟨[0, 1], rfl⟩ ?_
  refine k_aload_n (q := 1) C 1 dL_execute_0 rfl rfl ?_
  refine k_iconst (q := 2) (v := 0) C dL_execute_1 (by decide) rfl ?_
  refine k_aload_n (q := 3) C 0 dL_execute_2 rfl rfl ?_
  refine k_callVI (n := 0) (q := 6) (pre := ([(ob, .inl (cy 4, 1, .inr (.inl ou)))] : va_W)) (post := ([] : va_W)) (w2 := ([(ob, .inl (cy 4, 1, .inr (.inl ou)))] ++ ((wXo b cy (a 0) r ((nx + 1) % 6) (min (sn + 1) 6) 0 (svOf sk) (kpOf sk) ik bf ++ wRd r (xRun bf ln (ln + 1) 0 0 ((0, 0, 0, 0, false, false) : RT) ((n, lit, h, t, s, g, kn, lo, lf, nm) : CK)).2.1.1 (xRun bf ln (ln + 1) 0 0 ((0, 0, 0, 0, false, false) : RT) ((n, lit, h, t, s, g, kn, lo, lf, nm) : CK)).2.1.2.1 (xRun bf ln (ln + 1) 0 0 ((0, 0, 0, 0, false, false) : RT) ((n, lit, h, t, s, g, kn, lo, lf, nm) : CK)).2.1.2.2.1 (xRun bf ln (ln + 1) 0 0 ((0, 0, 0, 0, false, false) : RT) ((n, lit, h, t, s, g, kn, lo, lf, nm) : CK)).2.1.2.2.2.1 (xRun bf ln (ln + 1) 0 0 ((0, 0, 0, 0, false, false) : RT) ((n, lit, h, t, s, g, kn, lo, lf, nm) : CK)).2.1.2.2.2.2.1 (xRun bf ln (ln + 1) 0 0 ((0, 0, 0, 0, false, false) : RT) ((n, lit, h, t, s, g, kn, lo, lf, nm) : CK)).2.1.2.2.2.2.2) ++ (wSky a cy (qN (xRun bf ln (ln + 1) 0 0 ((0, 0, 0, 0, false, false) : RT) ((n, lit, h, t, s, g, kn, lo, lf, nm) : CK)).2.2) (qLit (xRun bf ln (ln + 1) 0 0 ((0, 0, 0, 0, false, false) : RT) ((n, lit, h, t, s, g, kn, lo, lf, nm) : CK)).2.2) (qH (xRun bf ln (ln + 1) 0 0 ((0, 0, 0, 0, false, false) : RT) ((n, lit, h, t, s, g, kn, lo, lf, nm) : CK)).2.2) (qT (xRun bf ln (ln + 1) 0 0 ((0, 0, 0, 0, false, false) : RT) ((n, lit, h, t, s, g, kn, lo, lf, nm) : CK)).2.2) (qS (xRun bf ln (ln + 1) 0 0 ((0, 0, 0, 0, false, false) : RT) ((n, lit, h, t, s, g, kn, lo, lf, nm) : CK)).2.2) (qG (xRun bf ln (ln + 1) 0 0 ((0, 0, 0, 0, false, false) : RT) ((n, lit, h, t, s, g, kn, lo, lf, nm) : CK)).2.2) (qK (xRun bf ln (ln + 1) 0 0 ((0, 0, 0, 0, false, false) : RT) ((n, lit, h, t, s, g, kn, lo, lf, nm) : CK)).2.2) (qLo (xRun bf ln (ln + 1) 0 0 ((0, 0, 0, 0, false, false) : RT) ((n, lit, h, t, s, g, kn, lo, lf, nm) : CK)).2.2) (qLf (xRun bf ln (ln + 1) 0 0 ((0, 0, 0, 0, false, false) : RT) ((n, lit, h, t, s, g, kn, lo, lf, nm) : CK)).2.2) (qNm (xRun bf ln (ln + 1) 0 0 ((0, 0, 0, 0, false, false) : RT) ((n, lit, h, t, s, g, kn, lo, lf, nm) : CK)).2.2) ++ wOth sk cy (updS S nx (cLike (n, lit, h, t, s, g, kn, lo, lf, nm) (S nx))))))) (As := []) (rest := [.int 0, .ref ob]) C (c_X3_execute cy a b r nx sn ln sk S ik bf kd hg nu dg ng tk n lit h t s g kn lo lf nm hb hln hnx hsn hn hk he hw) gL_execute_X3_execute rfl rfl rfl (by decide +kernel) (k_room hR (by decide)) ⟨Nat.zero_le _, Nat.zero_le _⟩ (ci := 3) rfl 0 rfl rfl rfl (Nat.le_of_ble_eq_true rfl) (k_pre) (k_pre.symm) dL_execute_3 rfl ?_
  refine k_i2l (q := 7) C dL_execute_6 rfl ?_
  refine k_last (q := 8) (w2 := ([(ob, .inl (cy 4, 1, .inr (.inl (vp_updL ou 0 ((nI (xRun bf ln (ln + 1) 0 0 ((0, 0, 0, 0, false, false) : RT) ((n, lit, h, t, s, g, kn, lo, lf, nm) : CK)).1).toInt64)))))] ++ ((wXo b cy (a 0) r ((nx + 1) % 6) (min (sn + 1) 6) 0 (svOf sk) (kpOf sk) ik bf ++ wRd r (xRun bf ln (ln + 1) 0 0 ((0, 0, 0, 0, false, false) : RT) ((n, lit, h, t, s, g, kn, lo, lf, nm) : CK)).2.1.1 (xRun bf ln (ln + 1) 0 0 ((0, 0, 0, 0, false, false) : RT) ((n, lit, h, t, s, g, kn, lo, lf, nm) : CK)).2.1.2.1 (xRun bf ln (ln + 1) 0 0 ((0, 0, 0, 0, false, false) : RT) ((n, lit, h, t, s, g, kn, lo, lf, nm) : CK)).2.1.2.2.1 (xRun bf ln (ln + 1) 0 0 ((0, 0, 0, 0, false, false) : RT) ((n, lit, h, t, s, g, kn, lo, lf, nm) : CK)).2.1.2.2.2.1 (xRun bf ln (ln + 1) 0 0 ((0, 0, 0, 0, false, false) : RT) ((n, lit, h, t, s, g, kn, lo, lf, nm) : CK)).2.1.2.2.2.2.1 (xRun bf ln (ln + 1) 0 0 ((0, 0, 0, 0, false, false) : RT) ((n, lit, h, t, s, g, kn, lo, lf, nm) : CK)).2.1.2.2.2.2.2) ++ (wSky a cy (qN (xRun bf ln (ln + 1) 0 0 ((0, 0, 0, 0, false, false) : RT) ((n, lit, h, t, s, g, kn, lo, lf, nm) : CK)).2.2) (qLit (xRun bf ln (ln + 1) 0 0 ((0, 0, 0, 0, false, false) : RT) ((n, lit, h, t, s, g, kn, lo, lf, nm) : CK)).2.2) (qH (xRun bf ln (ln + 1) 0 0 ((0, 0, 0, 0, false, false) : RT) ((n, lit, h, t, s, g, kn, lo, lf, nm) : CK)).2.2) (qT (xRun bf ln (ln + 1) 0 0 ((0, 0, 0, 0, false, false) : RT) ((n, lit, h, t, s, g, kn, lo, lf, nm) : CK)).2.2) (qS (xRun bf ln (ln + 1) 0 0 ((0, 0, 0, 0, false, false) : RT) ((n, lit, h, t, s, g, kn, lo, lf, nm) : CK)).2.2) (qG (xRun bf ln (ln + 1) 0 0 ((0, 0, 0, 0, false, false) : RT) ((n, lit, h, t, s, g, kn, lo, lf, nm) : CK)).2.2) (qK (xRun bf ln (ln + 1) 0 0 ((0, 0, 0, 0, false, false) : RT) ((n, lit, h, t, s, g, kn, lo, lf, nm) : CK)).2.2) (qLo (xRun bf ln (ln + 1) 0 0 ((0, 0, 0, 0, false, false) : RT) ((n, lit, h, t, s, g, kn, lo, lf, nm) : CK)).2.2) (qLf (xRun bf ln (ln + 1) 0 0 ((0, 0, 0, 0, false, false) : RT) ((n, lit, h, t, s, g, kn, lo, lf, nm) : CK)).2.2) (qNm (xRun bf ln (ln + 1) 0 0 ((0, 0, 0, 0, false, false) : RT) ((n, lit, h, t, s, g, kn, lo, lf, nm) : CK)).2.2) ++ wOth sk cy (updS S nx (cLike (n, lit, h, t, s, g, kn, lo, lf, nm) (S nx))))))) C 0 rfl (vp_in_nI (n := 0) (by decide) (by decide)) rfl dL_execute_7 rfl ?_
  refine k_goto (q := 14) C dL_execute_8 (by decide) ?_
  refine k_iconst (q := 15) (v := 0) C dL_execute_14 (by decide) rfl ?_
  exact k_finL E (by decide) (by decide) dL_execute_15 (rfl) (rfl)
set_option maxHeartbeats 4000000 in
set_option maxRecDepth 100000 in
theorem c_L_execute_e (cy : Nat → ClassId) (a : Nat → Nat) (b : Nat → Nat) (r : Nat) (nx : Nat) (sn : Nat) (ln : Nat) (sk : Nat → Nat → Nat) (S : Nat → CK) (ik : Nat → Int32) (bf : Nat → Nat) (kd : Nat) (hg : Nat) (nu : Nat) (dg : Nat) (ng : Bool) (tk : Bool) (n : Nat) (lit : Int32) (h : Nat → Int32) (t : Nat → Int32) (s : Nat → Int32) (g : Nat → Int32) (kn : Nat) (lo : Int32) (lf : Int32) (nm : Nat → Int32) (ob : Nat) (ou : Nat → Int64)  (hb : ∀ i, bf i ≤ 126) (hln : ln ≤ 60) (he : (xRead bf ln (ln + 1) 0 ((0, 0, 0, 0, false, false) : RT)).1 < ln) : kIl yL_execute wsL_execute rm_L_execute cy [.ref (b 0), .ref ob] ([(ob, .inl (cy 4, 1, .inr (.inl ou)))] ++ ((wXo b cy (a 0) r nx sn ln (svOf sk) (kpOf sk) ik bf ++ wRd r kd hg nu dg ng tk) ++ (wSky a cy n lit h t s g kn lo lf nm ++ wOth sk cy S))) 1 ([(ob, .inl (cy 4, 1, .inr (.inl ou)))] ++ ((wXo b cy (a 0) r nx sn ln (svOf sk) (kpOf sk) ik bf ++ wRd r (xRead bf ln (ln + 1) 0 ((0, 0, 0, 0, false, false) : RT)).2.1 (xRead bf ln (ln + 1) 0 ((0, 0, 0, 0, false, false) : RT)).2.2.1 (xRead bf ln (ln + 1) 0 ((0, 0, 0, 0, false, false) : RT)).2.2.2.1 (xRead bf ln (ln + 1) 0 ((0, 0, 0, 0, false, false) : RT)).2.2.2.2.1 (xRead bf ln (ln + 1) 0 ((0, 0, 0, 0, false, false) : RT)).2.2.2.2.2.1 (xRead bf ln (ln + 1) 0 ((0, 0, 0, 0, false, false) : RT)).2.2.2.2.2.2) ++ (wSky a cy n lit h t s g kn lo lf nm ++ wOth sk cy S))) := by
  refine kIl_of (cc := cL_execute) (maxL := 3) (by decide) rfl (Nat.le_of_ble_eq_true rfl) ?_
  intro X hR C Z hst htb E
  have C : kC X 3 RL cL_execute wsL_execute cy := C
  refine k_fr (fr2 := [(0, .ref (b 0)), (1, .ref ob)]) ⟨[0, 1], rfl⟩ ?_
  refine k_aload_n (q := 1) C 1 dL_execute_0 rfl rfl ?_
  refine k_iconst (q := 2) (v := 0) C dL_execute_1 (by decide) rfl ?_
  refine k_aload_n (q := 3) C 0 dL_execute_2 rfl rfl ?_
  refine k_callVE (n := 0) (q := 11) (pre := ([(ob, .inl (cy 4, 1, .inr (.inl ou)))] : va_W)) (post := ([] : va_W)) (w2 := ([(ob, .inl (cy 4, 1, .inr (.inl ou)))] ++ ((wXo b cy (a 0) r nx sn ln (svOf sk) (kpOf sk) ik bf ++ wRd r (xRead bf ln (ln + 1) 0 ((0, 0, 0, 0, false, false) : RT)).2.1 (xRead bf ln (ln + 1) 0 ((0, 0, 0, 0, false, false) : RT)).2.2.1 (xRead bf ln (ln + 1) 0 ((0, 0, 0, 0, false, false) : RT)).2.2.2.1 (xRead bf ln (ln + 1) 0 ((0, 0, 0, 0, false, false) : RT)).2.2.2.2.1 (xRead bf ln (ln + 1) 0 ((0, 0, 0, 0, false, false) : RT)).2.2.2.2.2.1 (xRead bf ln (ln + 1) 0 ((0, 0, 0, 0, false, false) : RT)).2.2.2.2.2.2) ++ (wSky a cy n lit h t s g kn lo lf nm ++ wOth sk cy S)))) (As := []) (rest := [.int 0, .ref ob]) C Z hst (c_X3_execute_e cy a b r nx sn ln (svOf sk) (kpOf sk) ik bf kd hg nu dg ng tk n lit h t s g kn lo lf nm (wOth sk cy S) hb hln he) gL_execute_X3_execute rfl rfl rfl (by decide +kernel) (k_room hR (by decide)) (k_cells hR (by decide)) (ci := 3) rfl 0 rfl rfl rfl (Nat.le_of_ble_eq_true rfl) (k_pre) (k_pre.symm) dL_execute_3 htb [] ⟨0, 8, 11, 13⟩ [] rfl (fun _ h => absurd h List.not_mem_nil) rfl (by decide) (List.mem_of_getElem? (i := 1) rfl) (List.mem_of_getElem? (i := 0) rfl) rfl (fun q9 => ?_)
  refine k_astore_n (q := 12) (fr2 := [(2, .ref q9), (0, .ref (b 0)), (1, .ref ob)]) C dL_execute_11 (by decide) rfl rfl ?_
  refine k_iconst (q := 13) (v := 1) C dL_execute_12 (by decide) rfl ?_
  exact k_finL E (by decide) (by decide) dL_execute_13 (rfl) (rfl)
set_option maxHeartbeats 4000000 in
set_option maxRecDepth 100000 in
theorem c_L_execute_e2 (cy : Nat → ClassId) (a : Nat → Nat) (b : Nat → Nat) (r : Nat) (nx : Nat) (sn : Nat) (ln : Nat) (sk : Nat → Nat → Nat) (S : Nat → CK) (ik : Nat → Int32) (bf : Nat → Nat) (kd : Nat) (hg : Nat) (nu : Nat) (dg : Nat) (ng : Bool) (tk : Bool) (n : Nat) (lit : Int32) (h : Nat → Int32) (t : Nat → Int32) (s : Nat → Int32) (g : Nat → Int32) (kn : Nat) (lo : Int32) (lf : Int32) (nm : Nat → Int32) (ob : Nat) (ou : Nat → Int64)  (hb : ∀ i, bf i ≤ 126) (hln : ln ≤ 60) (he : (xRead bf ln (ln + 1) 0 ((0, 0, 0, 0, false, false) : RT)).1 = ln) (hw : ¬ rWhole (xRead bf ln (ln + 1) 0 ((0, 0, 0, 0, false, false) : RT)).2.1 (xRead bf ln (ln + 1) 0 ((0, 0, 0, 0, false, false) : RT)).2.2.2.2.1 (xRead bf ln (ln + 1) 0 ((0, 0, 0, 0, false, false) : RT)).2.2.2.2.2.2 = true) : kIl yL_execute wsL_execute rm_L_execute cy [.ref (b 0), .ref ob] ([(ob, .inl (cy 4, 1, .inr (.inl ou)))] ++ ((wXo b cy (a 0) r nx sn ln (svOf sk) (kpOf sk) ik bf ++ wRd r kd hg nu dg ng tk) ++ (wSky a cy n lit h t s g kn lo lf nm ++ wOth sk cy S))) 1 ([(ob, .inl (cy 4, 1, .inr (.inl ou)))] ++ ((wXo b cy (a 0) r nx sn ln (svOf sk) (kpOf sk) ik bf ++ wRd r (xRead bf ln (ln + 1) 0 ((0, 0, 0, 0, false, false) : RT)).2.1 (xRead bf ln (ln + 1) 0 ((0, 0, 0, 0, false, false) : RT)).2.2.1 (xRead bf ln (ln + 1) 0 ((0, 0, 0, 0, false, false) : RT)).2.2.2.1 (xRead bf ln (ln + 1) 0 ((0, 0, 0, 0, false, false) : RT)).2.2.2.2.1 (xRead bf ln (ln + 1) 0 ((0, 0, 0, 0, false, false) : RT)).2.2.2.2.2.1 (xRead bf ln (ln + 1) 0 ((0, 0, 0, 0, false, false) : RT)).2.2.2.2.2.2) ++ (wSky a cy n lit h t s g kn lo lf nm ++ wOth sk cy S))) := by
  refine kIl_of (cc := cL_execute) (maxL := 3) (by decide) rfl (Nat.le_of_ble_eq_true rfl) ?_
  intro X hR C Z hst htb E
  have C : kC X 3 RL cL_execute wsL_execute cy := C
  refine k_fr (fr2 := [(0, .ref (b 0)), (1, .ref ob)]) ⟨[0, 1], rfl⟩ ?_
  refine k_aload_n (q := 1) C 1 dL_execute_0 rfl rfl ?_
  refine k_iconst (q := 2) (v := 0) C dL_execute_1 (by decide) rfl ?_
  refine k_aload_n (q := 3) C 0 dL_execute_2 rfl rfl ?_
  refine k_callVE (n := 0) (q := 11) (pre := ([(ob, .inl (cy 4, 1, .inr (.inl ou)))] : va_W)) (post := ([] : va_W)) (w2 := ([(ob, .inl (cy 4, 1, .inr (.inl ou)))] ++ ((wXo b cy (a 0) r nx sn ln (svOf sk) (kpOf sk) ik bf ++ wRd r (xRead bf ln (ln + 1) 0 ((0, 0, 0, 0, false, false) : RT)).2.1 (xRead bf ln (ln + 1) 0 ((0, 0, 0, 0, false, false) : RT)).2.2.1 (xRead bf ln (ln + 1) 0 ((0, 0, 0, 0, false, false) : RT)).2.2.2.1 (xRead bf ln (ln + 1) 0 ((0, 0, 0, 0, false, false) : RT)).2.2.2.2.1 (xRead bf ln (ln + 1) 0 ((0, 0, 0, 0, false, false) : RT)).2.2.2.2.2.1 (xRead bf ln (ln + 1) 0 ((0, 0, 0, 0, false, false) : RT)).2.2.2.2.2.2) ++ (wSky a cy n lit h t s g kn lo lf nm ++ wOth sk cy S)))) (As := []) (rest := [.int 0, .ref ob]) C Z hst (c_X3_execute_e2 cy a b r nx sn ln (svOf sk) (kpOf sk) ik bf kd hg nu dg ng tk n lit h t s g kn lo lf nm (wOth sk cy S) hb hln he hw) gL_execute_X3_execute rfl rfl rfl (by decide +kernel) (k_room hR (by decide)) (k_cells hR (by decide)) (ci := 3) rfl 0 rfl rfl rfl (Nat.le_of_ble_eq_true rfl) (k_pre) (k_pre.symm) dL_execute_3 htb [] ⟨0, 8, 11, 13⟩ [] rfl (fun _ h => absurd h List.not_mem_nil) rfl (by decide) (List.mem_of_getElem? (i := 1) rfl) (List.mem_of_getElem? (i := 0) rfl) rfl (fun q9 => ?_)
  refine k_astore_n (q := 12) (fr2 := [(2, .ref q9), (0, .ref (b 0)), (1, .ref ob)]) C dL_execute_11 (by decide) rfl rfl ?_
  refine k_iconst (q := 13) (v := 1) C dL_execute_12 (by decide) rfl ?_
  exact k_finL E (by decide) (by decide) dL_execute_13 (rfl) (rfl)
abbrev rm_L_undo : Room := { frames := 7, cells := 1, slots := 6, locals := 115 }
theorem in0_L_undo : ∀ w ∈ wsX00, w ∈ wsL_undo := fun _ h => (List.mem_cons_of_mem _ (List.mem_append_left _ (List.mem_append_right _ h)))
theorem in2_L_undo : ∀ w ∈ wsX20, w ∈ wsL_undo := fun _ h => (List.mem_cons_of_mem _ (List.mem_append_left _ (List.mem_append_left _ (List.mem_append_right _ h))))
theorem in3_L_undo : ∀ w ∈ wsX30, w ∈ wsL_undo := fun _ h => (List.mem_cons_of_mem _ (List.mem_append_left _ (List.mem_append_left _ (List.mem_append_left _ (List.mem_append_right _ h)))))
set_option maxHeartbeats 4000000 in
set_option maxRecDepth 100000 in
theorem c_L_undo (cy : Nat → ClassId) (a : Nat → Nat) (b : Nat → Nat) (r : Nat) (nx : Nat) (sn : Nat) (ln : Nat) (sk : Nat → Nat → Nat) (S : Nat → CK) (ik : Nat → Int32) (bf : Nat → Nat) (kd : Nat) (hg : Nat) (nu : Nat) (dg : Nat) (ng : Bool) (tk : Bool) (n : Nat) (lit : Int32) (h : Nat → Int32) (t : Nat → Int32) (s : Nat → Int32) (g : Nat → Int32) (kn : Nat) (lo : Int32) (lf : Int32) (nm : Nat → Int32) (ob : Nat) (ou : Nat → Int64)  (hnx : nx < 6) (hsn : sn ≤ 6) (h0 : 0 < sn) : kIl yL_undo wsL_undo rm_L_undo cy [.ref (b 0), .ref ob] ([(ob, .inl (cy 4, 1, .inr (.inl ou)))] ++ ((wXo b cy (a 0) r nx sn ln (svOf sk) (kpOf sk) ik bf ++ wRd r kd hg nu dg ng tk) ++ (wSky a cy n lit h t s g kn lo lf nm ++ wOth sk cy S))) 0 ([(ob, .inl (cy 4, 1, .inr (.inl (vp_updL ou 0 (nI (sn - 1)).toInt64))))] ++ ((wXo b cy (a 0) r ((nx + 6 - 1) % 6) (sn - 1) ln (svOf sk) (kpOf sk) ik bf ++ wRd r kd hg nu dg ng tk) ++ (wSky a cy (qN (S ((nx + 6 - 1) % 6))) (qLit (S ((nx + 6 - 1) % 6))) (va_cpy (qH (S ((nx + 6 - 1) % 6))) h 0 0 6) (va_cpy (qT (S ((nx + 6 - 1) % 6))) t 0 0 6) (va_cpy (qS (S ((nx + 6 - 1) % 6))) s 0 0 2) (va_cpy (qG (S ((nx + 6 - 1) % 6))) g 0 0 4) (qK (S ((nx + 6 - 1) % 6))) (qLo (S ((nx + 6 - 1) % 6))) (qLf (S ((nx + 6 - 1) % 6))) (va_cpy (qNm (S ((nx + 6 - 1) % 6))) nm 0 0 32) ++ wOth sk cy S))) := by
  refine kIl_of (cc := cL_undo) (maxL := 3) (by decide) rfl (Nat.le_of_ble_eq_true rfl) ?_
  intro X hR C Z hst htb E
  have C : kC X 3 RL cL_undo wsL_undo cy := C
  refine k_fr (fr2 := [(0, .ref (b 0)), (1, .ref ob)]) ⟨[0, 1], rfl⟩ ?_
  refine k_aload_n (q := 1) C 1 dL_undo_0 rfl rfl ?_
  refine k_iconst (q := 2) (v := 0) C dL_undo_1 (by decide) rfl ?_
  refine k_aload_n (q := 3) C 0 dL_undo_2 rfl rfl ?_
  refine k_callVI (n := 0) (q := 6) (pre := ([(ob, .inl (cy 4, 1, .inr (.inl ou)))] : va_W)) (post := ([] : va_W)) (w2 := ([(ob, .inl (cy 4, 1, .inr (.inl ou)))] ++ ((wXo b cy (a 0) r ((nx + 6 - 1) % 6) (sn - 1) ln (svOf sk) (kpOf sk) ik bf ++ wRd r kd hg nu dg ng tk) ++ (wSky a cy (qN (S ((nx + 6 - 1) % 6))) (qLit (S ((nx + 6 - 1) % 6))) (va_cpy (qH (S ((nx + 6 - 1) % 6))) h 0 0 6) (va_cpy (qT (S ((nx + 6 - 1) % 6))) t 0 0 6) (va_cpy (qS (S ((nx + 6 - 1) % 6))) s 0 0 2) (va_cpy (qG (S ((nx + 6 - 1) % 6))) g 0 0 4) (qK (S ((nx + 6 - 1) % 6))) (qLo (S ((nx + 6 - 1) % 6))) (qLf (S ((nx + 6 - 1) % 6))) (va_cpy (qNm (S ((nx + 6 - 1) % 6))) nm 0 0 32) ++ wOth sk cy S)))) (As := []) (rest := [.int 0, .ref ob]) C (c_X3_undo cy a b r nx sn ln sk S ik bf kd hg nu dg ng tk n lit h t s g kn lo lf nm hnx hsn h0) gL_undo_X3_undo rfl rfl rfl (by decide +kernel) (k_room hR (by decide)) ⟨Nat.zero_le _, Nat.zero_le _⟩ (ci := 3) rfl 0 rfl rfl rfl (Nat.le_of_ble_eq_true rfl) (k_pre) (k_pre.symm) dL_undo_3 rfl ?_
  refine k_i2l (q := 7) C dL_undo_6 rfl ?_
  refine k_last (q := 8) (w2 := ([(ob, .inl (cy 4, 1, .inr (.inl (vp_updL ou 0 ((nI (sn - 1)).toInt64)))))] ++ ((wXo b cy (a 0) r ((nx + 6 - 1) % 6) (sn - 1) ln (svOf sk) (kpOf sk) ik bf ++ wRd r kd hg nu dg ng tk) ++ (wSky a cy (qN (S ((nx + 6 - 1) % 6))) (qLit (S ((nx + 6 - 1) % 6))) (va_cpy (qH (S ((nx + 6 - 1) % 6))) h 0 0 6) (va_cpy (qT (S ((nx + 6 - 1) % 6))) t 0 0 6) (va_cpy (qS (S ((nx + 6 - 1) % 6))) s 0 0 2) (va_cpy (qG (S ((nx + 6 - 1) % 6))) g 0 0 4) (qK (S ((nx + 6 - 1) % 6))) (qLo (S ((nx + 6 - 1) % 6))) (qLf (S ((nx + 6 - 1) % 6))) (va_cpy (qNm (S ((nx + 6 - 1) % 6))) nm 0 0 32) ++ wOth sk cy S)))) C 0 rfl (vp_in_nI (n := 0) (by decide) (by decide)) rfl dL_undo_7 rfl ?_
  refine k_goto (q := 14) C dL_undo_8 (by decide) ?_
  refine k_iconst (q := 15) (v := 0) C dL_undo_14 (by decide) rfl ?_
  exact k_finL E (by decide) (by decide) dL_undo_15 (rfl) (rfl)
set_option maxHeartbeats 4000000 in
set_option maxRecDepth 100000 in
theorem c_L_undo_e (cy : Nat → ClassId) (a : Nat → Nat) (b : Nat → Nat) (r : Nat) (nx : Nat) (sn : Nat) (ln : Nat) (sk : Nat → Nat → Nat) (S : Nat → CK) (ik : Nat → Int32) (bf : Nat → Nat) (kd : Nat) (hg : Nat) (nu : Nat) (dg : Nat) (ng : Bool) (tk : Bool) (n : Nat) (lit : Int32) (h : Nat → Int32) (t : Nat → Int32) (s : Nat → Int32) (g : Nat → Int32) (kn : Nat) (lo : Int32) (lf : Int32) (nm : Nat → Int32) (ob : Nat) (ou : Nat → Int64)  (h0 : sn = 0) : kIl yL_undo wsL_undo rm_L_undo cy [.ref (b 0), .ref ob] ([(ob, .inl (cy 4, 1, .inr (.inl ou)))] ++ ((wXo b cy (a 0) r nx sn ln (svOf sk) (kpOf sk) ik bf ++ wRd r kd hg nu dg ng tk) ++ (wSky a cy n lit h t s g kn lo lf nm ++ wOth sk cy S))) 1 ([(ob, .inl (cy 4, 1, .inr (.inl ou)))] ++ ((wXo b cy (a 0) r nx sn ln (svOf sk) (kpOf sk) ik bf ++ wRd r kd hg nu dg ng tk) ++ (wSky a cy n lit h t s g kn lo lf nm ++ wOth sk cy S))) := by
  refine kIl_of (cc := cL_undo) (maxL := 3) (by decide) rfl (Nat.le_of_ble_eq_true rfl) ?_
  intro X hR C Z hst htb E
  have C : kC X 3 RL cL_undo wsL_undo cy := C
  refine k_fr (fr2 := [(0, .ref (b 0)), (1, .ref ob)]) ⟨[0, 1], rfl⟩ ?_
  refine k_aload_n (q := 1) C 1 dL_undo_0 rfl rfl ?_
  refine k_iconst (q := 2) (v := 0) C dL_undo_1 (by decide) rfl ?_
  refine k_aload_n (q := 3) C 0 dL_undo_2 rfl rfl ?_
  refine k_callVE (n := 0) (q := 11) (pre := ([(ob, .inl (cy 4, 1, .inr (.inl ou)))] : va_W)) (post := ([] : va_W)) (w2 := ([(ob, .inl (cy 4, 1, .inr (.inl ou)))] ++ ((wXo b cy (a 0) r nx sn ln (svOf sk) (kpOf sk) ik bf ++ wRd r kd hg nu dg ng tk) ++ (wSky a cy n lit h t s g kn lo lf nm ++ wOth sk cy S)))) (As := []) (rest := [.int 0, .ref ob]) C Z hst (c_X3_undo_e cy a b r nx sn ln (svOf sk) (kpOf sk) ik bf kd hg nu dg ng tk n lit h t s g kn lo lf nm (wOth sk cy S) h0) gL_undo_X3_undo rfl rfl rfl (by decide +kernel) (k_room hR (by decide)) (k_cells hR (by decide)) (ci := 3) rfl 0 rfl rfl rfl (Nat.le_of_ble_eq_true rfl) (k_pre) (k_pre.symm) dL_undo_3 htb [] ⟨0, 8, 11, 15⟩ [] rfl (fun _ h => absurd h List.not_mem_nil) rfl (by decide) (List.mem_of_getElem? (i := 1) rfl) (List.mem_of_getElem? (i := 1) rfl) rfl (fun q9 => ?_)
  refine k_astore_n (q := 12) (fr2 := [(2, .ref q9), (0, .ref (b 0)), (1, .ref ob)]) C dL_undo_11 (by decide) rfl rfl ?_
  refine k_iconst (q := 13) (v := 1) C dL_undo_12 (by decide) rfl ?_
  exact k_finL E (by decide) (by decide) dL_undo_13 (rfl) (rfl)
abbrev rm_L_keep : Room := { frames := 7, cells := 1, slots := 6, locals := 116 }
theorem in0_L_keep : ∀ w ∈ wsX00, w ∈ wsL_keep := fun _ h => (List.mem_cons_of_mem _ (List.mem_append_left _ (List.mem_append_right _ h)))
theorem in2_L_keep : ∀ w ∈ wsX20, w ∈ wsL_keep := fun _ h => (List.mem_cons_of_mem _ (List.mem_append_left _ (List.mem_append_left _ (List.mem_append_right _ h))))
theorem in3_L_keep : ∀ w ∈ wsX30, w ∈ wsL_keep := fun _ h => (List.mem_cons_of_mem _ (List.mem_append_left _ (List.mem_append_left _ (List.mem_append_left _ (List.mem_append_right _ h)))))
set_option maxHeartbeats 4000000 in
set_option maxRecDepth 100000 in
theorem c_L_keep (cy : Nat → ClassId) (a : Nat → Nat) (b : Nat → Nat) (r : Nat) (nx : Nat) (sn : Nat) (ln : Nat) (sk : Nat → Nat → Nat) (S : Nat → CK) (ik : Nat → Int32) (bf : Nat → Nat) (kd : Nat) (hg : Nat) (nu : Nat) (dg : Nat) (ng : Bool) (tk : Bool) (n : Nat) (lit : Int32) (h : Nat → Int32) (t : Nat → Int32) (s : Nat → Int32) (g : Nat → Int32) (kn : Nat) (lo : Int32) (lf : Int32) (nm : Nat → Int32) (ob : Nat) (ou : Nat → Int64) (j : Nat)  (hj : j < 2) : kIl yL_keep wsL_keep rm_L_keep cy [.ref (b 0), .int (nI j), .ref ob] ([(ob, .inl (cy 4, 1, .inr (.inl ou)))] ++ ((wXo b cy (a 0) r nx sn ln (svOf sk) (kpOf sk) ik bf ++ wRd r kd hg nu dg ng tk) ++ (wSky a cy n lit h t s g kn lo lf nm ++ wOth sk cy S))) 0 ([(ob, .inl (cy 4, 1, .inr (.inl (vp_updL ou 0 (nI n).toInt64))))] ++ ((wXo b cy (a 0) r nx sn ln (svOf sk) (kpOf sk) (upd ik j 1) bf ++ wRd r kd hg nu dg ng tk) ++ (wSky a cy n lit h t s g kn lo lf nm ++ wOth sk cy (updS S (6 + j) (cLike ((n, lit, h, t, s, g, kn, lo, lf, nm) : CK) (S (6 + j))))))) := by
  refine kIl_of (cc := cL_keep) (maxL := 4) (by decide) rfl (Nat.le_of_ble_eq_true rfl) ?_
  intro X hR C Z hst htb E
  have C : kC X 4 RL cL_keep wsL_keep cy := C
  refine k_fr (fr2 := [(0, .ref (b 0)), (1, .int (nI j)), (2, .ref ob)]) ⟨[0, 1, 2], rfl⟩ ?_
  refine k_aload_n (q := 1) C 2 dL_keep_0 rfl rfl ?_
  refine k_iconst (q := 2) (v := 0) C dL_keep_1 (by decide) rfl ?_
  refine k_aload_n (q := 3) C 0 dL_keep_2 rfl rfl ?_
  refine k_iload_n (q := 4) C 1 dL_keep_3 rfl rfl ?_
  refine k_callVI (n := 1) (q := 7) (pre := ([(ob, .inl (cy 4, 1, .inr (.inl ou)))] : va_W)) (post := ([] : va_W)) (w2 := ([(ob, .inl (cy 4, 1, .inr (.inl ou)))] ++ ((wXo b cy (a 0) r nx sn ln (svOf sk) (kpOf sk) (upd ik j 1) bf ++ wRd r kd hg nu dg ng tk) ++ (wSky a cy n lit h t s g kn lo lf nm ++ wOth sk cy (updS S (6 + j) (cLike ((n, lit, h, t, s, g, kn, lo, lf, nm) : CK) (S (6 + j)))))))) (As := [.int (nI j)]) (rest := [.int 0, .ref ob]) C (c_X3_keep cy a b r nx sn ln sk S ik bf kd hg nu dg ng tk n lit h t s g kn lo lf nm j hj) gL_keep_X3_keep rfl rfl rfl (by decide +kernel) (k_room hR (by decide)) ⟨Nat.zero_le _, Nat.zero_le _⟩ (ci := 3) rfl 0 rfl rfl rfl (Nat.le_of_ble_eq_true rfl) (k_pre) (k_pre.symm) dL_keep_4 rfl ?_
  refine k_i2l (q := 8) C dL_keep_7 rfl ?_
  refine k_last (q := 9) (w2 := ([(ob, .inl (cy 4, 1, .inr (.inl (vp_updL ou 0 ((nI n).toInt64)))))] ++ ((wXo b cy (a 0) r nx sn ln (svOf sk) (kpOf sk) (upd ik j 1) bf ++ wRd r kd hg nu dg ng tk) ++ (wSky a cy n lit h t s g kn lo lf nm ++ wOth sk cy (updS S (6 + j) (cLike ((n, lit, h, t, s, g, kn, lo, lf, nm) : CK) (S (6 + j)))))))) C 0 rfl (vp_in_nI (n := 0) (by decide) (by decide)) rfl dL_keep_8 rfl ?_
  refine k_goto (q := 15) C dL_keep_9 (by decide) ?_
  refine k_iconst (q := 16) (v := 0) C dL_keep_15 (by decide) rfl ?_
  exact k_finL E (by decide) (by decide) dL_keep_16 (rfl) (rfl)
set_option maxHeartbeats 4000000 in
set_option maxRecDepth 100000 in
theorem c_L_keep_e (cy : Nat → ClassId) (a : Nat → Nat) (b : Nat → Nat) (r : Nat) (nx : Nat) (sn : Nat) (ln : Nat) (sk : Nat → Nat → Nat) (S : Nat → CK) (ik : Nat → Int32) (bf : Nat → Nat) (kd : Nat) (hg : Nat) (nu : Nat) (dg : Nat) (ng : Bool) (tk : Bool) (n : Nat) (lit : Int32) (h : Nat → Int32) (t : Nat → Int32) (s : Nat → Int32) (g : Nat → Int32) (kn : Nat) (lo : Int32) (lf : Int32) (nm : Nat → Int32) (ob : Nat) (ou : Nat → Int64) (x : Int32)  (hx : ¬ (0 ≤ x ∧ x ≤ 1)) : kIl yL_keep wsL_keep rm_L_keep cy [.ref (b 0), .int x, .ref ob] ([(ob, .inl (cy 4, 1, .inr (.inl ou)))] ++ ((wXo b cy (a 0) r nx sn ln (svOf sk) (kpOf sk) ik bf ++ wRd r kd hg nu dg ng tk) ++ (wSky a cy n lit h t s g kn lo lf nm ++ wOth sk cy S))) 1 ([(ob, .inl (cy 4, 1, .inr (.inl ou)))] ++ ((wXo b cy (a 0) r nx sn ln (svOf sk) (kpOf sk) ik bf ++ wRd r kd hg nu dg ng tk) ++ (wSky a cy n lit h t s g kn lo lf nm ++ wOth sk cy S))) := by
  refine kIl_of (cc := cL_keep) (maxL := 4) (by decide) rfl (Nat.le_of_ble_eq_true rfl) ?_
  intro X hR C Z hst htb E
  have C : kC X 4 RL cL_keep wsL_keep cy := C
  refine k_fr (fr2 := [(0, .ref (b 0)), (1, .int x), (2, .ref ob)]) ⟨[0, 1, 2], rfl⟩ ?_
  refine k_aload_n (q := 1) C 2 dL_keep_0 rfl rfl ?_
  refine k_iconst (q := 2) (v := 0) C dL_keep_1 (by decide) rfl ?_
  refine k_aload_n (q := 3) C 0 dL_keep_2 rfl rfl ?_
  refine k_iload_n (q := 4) C 1 dL_keep_3 rfl rfl ?_
  refine k_callVE (n := 1) (q := 12) (pre := ([(ob, .inl (cy 4, 1, .inr (.inl ou)))] : va_W)) (post := ([] : va_W)) (w2 := ([(ob, .inl (cy 4, 1, .inr (.inl ou)))] ++ ((wXo b cy (a 0) r nx sn ln (svOf sk) (kpOf sk) ik bf ++ wRd r kd hg nu dg ng tk) ++ (wSky a cy n lit h t s g kn lo lf nm ++ wOth sk cy S)))) (As := [.int x]) (rest := [.int 0, .ref ob]) C Z hst (c_X3_keep_e cy a b r nx sn ln (svOf sk) (kpOf sk) ik bf kd hg nu dg ng tk n lit h t s g kn lo lf nm (wOth sk cy S) x hx) gL_keep_X3_keep rfl rfl rfl (by decide +kernel) (k_room hR (by decide)) (k_cells hR (by decide)) (ci := 3) rfl 0 rfl rfl rfl (Nat.le_of_ble_eq_true rfl) (k_pre) (k_pre.symm) dL_keep_4 htb [] ⟨0, 9, 12, 13⟩ [] rfl (fun _ h => absurd h List.not_mem_nil) rfl (by decide) (List.mem_of_getElem? (i := 1) rfl) (List.mem_of_getElem? (i := 0) rfl) rfl (fun q9 => ?_)
  refine k_astore_n (q := 13) (fr2 := [(3, .ref q9), (0, .ref (b 0)), (1, .int x), (2, .ref ob)]) C dL_keep_12 (by decide) rfl rfl ?_
  refine k_iconst (q := 14) (v := 1) C dL_keep_13 (by decide) rfl ?_
  exact k_finL E (by decide) (by decide) dL_keep_14 (rfl) (rfl)
abbrev rm_L_goBack : Room := { frames := 7, cells := 1, slots := 6, locals := 136 }
theorem in0_L_goBack : ∀ w ∈ wsX00, w ∈ wsL_goBack := fun _ h => (List.mem_cons_of_mem _ (List.mem_append_left _ (List.mem_append_left _ (List.mem_append_right _ h))))
theorem in2_L_goBack : ∀ w ∈ wsX20, w ∈ wsL_goBack := fun _ h => (List.mem_cons_of_mem _ (List.mem_append_left _ (List.mem_append_left _ (List.mem_append_left _ (List.mem_append_right _ h)))))
theorem in3_L_goBack : ∀ w ∈ wsX30, w ∈ wsL_goBack := fun _ h => (List.mem_cons_of_mem _ (List.mem_append_left _ (List.mem_append_left _ (List.mem_append_left _ (List.mem_append_left _ (List.mem_append_right _ h))))))
set_option maxHeartbeats 4000000 in
set_option maxRecDepth 100000 in
theorem c_L_goBack (cy : Nat → ClassId) (a : Nat → Nat) (b : Nat → Nat) (r : Nat) (nx : Nat) (sn : Nat) (ln : Nat) (sk : Nat → Nat → Nat) (S : Nat → CK) (ik : Nat → Int32) (bf : Nat → Nat) (kd : Nat) (hg : Nat) (nu : Nat) (dg : Nat) (ng : Bool) (tk : Bool) (n : Nat) (lit : Int32) (h : Nat → Int32) (t : Nat → Int32) (s : Nat → Int32) (g : Nat → Int32) (kn : Nat) (lo : Int32) (lf : Int32) (nm : Nat → Int32) (ob : Nat) (ou : Nat → Int64) (j : Nat)  (hnx : nx < 6) (hsn : sn ≤ 6) (hj : j < 2) (hi : ¬ ik j = 0) : kIl yL_goBack wsL_goBack rm_L_goBack cy [.ref (b 0), .int (nI j), .ref ob] ([(ob, .inl (cy 4, 1, .inr (.inl ou)))] ++ ((wXo b cy (a 0) r nx sn ln (svOf sk) (kpOf sk) ik bf ++ wRd r kd hg nu dg ng tk) ++ (wSky a cy n lit h t s g kn lo lf nm ++ wOth sk cy S))) 0 ([(ob, .inl (cy 4, 1, .inr (.inl (vp_updL ou 0 (nI (qN ((updS S nx (cLike ((n, lit, h, t, s, g, kn, lo, lf, nm) : CK) (S nx))) (6 + j)))).toInt64))))] ++ ((wXo b cy (a 0) r ((nx + 1) % 6) (min (sn + 1) 6) ln (svOf sk) (kpOf sk) ik bf ++ wRd r kd hg nu dg ng tk) ++ (wSky a cy (qN ((updS S nx (cLike ((n, lit, h, t, s, g, kn, lo, lf, nm) : CK) (S nx))) (6 + j))) (qLit ((updS S nx (cLike ((n, lit, h, t, s, g, kn, lo, lf, nm) : CK) (S nx))) (6 + j))) (va_cpy (qH ((updS S nx (cLike ((n, lit, h, t, s, g, kn, lo, lf, nm) : CK) (S nx))) (6 + j))) h 0 0 6) (va_cpy (qT ((updS S nx (cLike ((n, lit, h, t, s, g, kn, lo, lf, nm) : CK) (S nx))) (6 + j))) t 0 0 6) (va_cpy (qS ((updS S nx (cLike ((n, lit, h, t, s, g, kn, lo, lf, nm) : CK) (S nx))) (6 + j))) s 0 0 2) (va_cpy (qG ((updS S nx (cLike ((n, lit, h, t, s, g, kn, lo, lf, nm) : CK) (S nx))) (6 + j))) g 0 0 4) (qK ((updS S nx (cLike ((n, lit, h, t, s, g, kn, lo, lf, nm) : CK) (S nx))) (6 + j))) (qLo ((updS S nx (cLike ((n, lit, h, t, s, g, kn, lo, lf, nm) : CK) (S nx))) (6 + j))) (qLf ((updS S nx (cLike ((n, lit, h, t, s, g, kn, lo, lf, nm) : CK) (S nx))) (6 + j))) (va_cpy (qNm ((updS S nx (cLike ((n, lit, h, t, s, g, kn, lo, lf, nm) : CK) (S nx))) (6 + j))) nm 0 0 32) ++ wOth sk cy (updS S nx (cLike (n, lit, h, t, s, g, kn, lo, lf, nm) (S nx)))))) := by
  refine kIl_of (cc := cL_goBack) (maxL := 4) (by decide) rfl (Nat.le_of_ble_eq_true rfl) ?_
  intro X hR C Z hst htb E
  have C : kC X 4 RL cL_goBack wsL_goBack cy := C
  refine k_fr (fr2 := [(0, .ref (b 0)), (1, .int (nI j)), (2, .ref ob)]) ⟨[0, 1, 2], rfl⟩ ?_
  refine k_aload_n (q := 1) C 2 dL_goBack_0 rfl rfl ?_
  refine k_iconst (q := 2) (v := 0) C dL_goBack_1 (by decide) rfl ?_
  refine k_aload_n (q := 3) C 0 dL_goBack_2 rfl rfl ?_
  refine k_iload_n (q := 4) C 1 dL_goBack_3 rfl rfl ?_
  refine k_callVI (n := 1) (q := 7) (pre := ([(ob, .inl (cy 4, 1, .inr (.inl ou)))] : va_W)) (post := ([] : va_W)) (w2 := ([(ob, .inl (cy 4, 1, .inr (.inl ou)))] ++ ((wXo b cy (a 0) r ((nx + 1) % 6) (min (sn + 1) 6) ln (svOf sk) (kpOf sk) ik bf ++ wRd r kd hg nu dg ng tk) ++ (wSky a cy (qN ((updS S nx (cLike ((n, lit, h, t, s, g, kn, lo, lf, nm) : CK) (S nx))) (6 + j))) (qLit ((updS S nx (cLike ((n, lit, h, t, s, g, kn, lo, lf, nm) : CK) (S nx))) (6 + j))) (va_cpy (qH ((updS S nx (cLike ((n, lit, h, t, s, g, kn, lo, lf, nm) : CK) (S nx))) (6 + j))) h 0 0 6) (va_cpy (qT ((updS S nx (cLike ((n, lit, h, t, s, g, kn, lo, lf, nm) : CK) (S nx))) (6 + j))) t 0 0 6) (va_cpy (qS ((updS S nx (cLike ((n, lit, h, t, s, g, kn, lo, lf, nm) : CK) (S nx))) (6 + j))) s 0 0 2) (va_cpy (qG ((updS S nx (cLike ((n, lit, h, t, s, g, kn, lo, lf, nm) : CK) (S nx))) (6 + j))) g 0 0 4) (qK ((updS S nx (cLike ((n, lit, h, t, s, g, kn, lo, lf, nm) : CK) (S nx))) (6 + j))) (qLo ((updS S nx (cLike ((n, lit, h, t, s, g, kn, lo, lf, nm) : CK) (S nx))) (6 + j))) (qLf ((updS S nx (cLike ((n, lit, h, t, s, g, kn, lo, lf, nm) : CK) (S nx))) (6 + j))) (va_cpy (qNm ((updS S nx (cLike ((n, lit, h, t, s, g, kn, lo, lf, nm) : CK) (S nx))) (6 + j))) nm 0 0 32) ++ wOth sk cy (updS S nx (cLike (n, lit, h, t, s, g, kn, lo, lf, nm) (S nx))))))) (As := [.int (nI j)]) (rest := [.int 0, .ref ob]) C (c_X3_goBack cy a b r nx sn ln sk S ik bf kd hg nu dg ng tk n lit h t s g kn lo lf nm j hnx hsn hj hi) gL_goBack_X3_goBack rfl rfl rfl (by decide +kernel) (k_room hR (by decide)) ⟨Nat.zero_le _, Nat.zero_le _⟩ (ci := 3) rfl 0 rfl rfl rfl (Nat.le_of_ble_eq_true rfl) (k_pre) (k_pre.symm) dL_goBack_4 rfl ?_
  refine k_i2l (q := 8) C dL_goBack_7 rfl ?_
  refine k_last (q := 9) (w2 := ([(ob, .inl (cy 4, 1, .inr (.inl (vp_updL ou 0 ((nI (qN ((updS S nx (cLike ((n, lit, h, t, s, g, kn, lo, lf, nm) : CK) (S nx))) (6 + j)))).toInt64)))))] ++ ((wXo b cy (a 0) r ((nx + 1) % 6) (min (sn + 1) 6) ln (svOf sk) (kpOf sk) ik bf ++ wRd r kd hg nu dg ng tk) ++ (wSky a cy (qN ((updS S nx (cLike ((n, lit, h, t, s, g, kn, lo, lf, nm) : CK) (S nx))) (6 + j))) (qLit ((updS S nx (cLike ((n, lit, h, t, s, g, kn, lo, lf, nm) : CK) (S nx))) (6 + j))) (va_cpy (qH ((updS S nx (cLike ((n, lit, h, t, s, g, kn, lo, lf, nm) : CK) (S nx))) (6 + j))) h 0 0 6) (va_cpy (qT ((updS S nx (cLike ((n, lit, h, t, s, g, kn, lo, lf, nm) : CK) (S nx))) (6 + j))) t 0 0 6) (va_cpy (qS ((updS S nx (cLike ((n, lit, h, t, s, g, kn, lo, lf, nm) : CK) (S nx))) (6 + j))) s 0 0 2) (va_cpy (qG ((updS S nx (cLike ((n, lit, h, t, s, g, kn, lo, lf, nm) : CK) (S nx))) (6 + j))) g 0 0 4) (qK ((updS S nx (cLike ((n, lit, h, t, s, g, kn, lo, lf, nm) : CK) (S nx))) (6 + j))) (qLo ((updS S nx (cLike ((n, lit, h, t, s, g, kn, lo, lf, nm) : CK) (S nx))) (6 + j))) (qLf ((updS S nx (cLike ((n, lit, h, t, s, g, kn, lo, lf, nm) : CK) (S nx))) (6 + j))) (va_cpy (qNm ((updS S nx (cLike ((n, lit, h, t, s, g, kn, lo, lf, nm) : CK) (S nx))) (6 + j))) nm 0 0 32) ++ wOth sk cy (updS S nx (cLike (n, lit, h, t, s, g, kn, lo, lf, nm) (S nx))))))) C 0 rfl (vp_in_nI (n := 0) (by decide) (by decide)) rfl dL_goBack_8 rfl ?_
  refine k_goto (q := 18) C dL_goBack_9 (by decide) ?_
  refine k_iconst (q := 19) (v := 0) C dL_goBack_18 (by decide) rfl ?_
  exact k_finL E (by decide) (by decide) dL_goBack_19 (rfl) (rfl)
set_option maxHeartbeats 4000000 in
set_option maxRecDepth 100000 in
theorem c_L_goBack_e (cy : Nat → ClassId) (a : Nat → Nat) (b : Nat → Nat) (r : Nat) (nx : Nat) (sn : Nat) (ln : Nat) (sk : Nat → Nat → Nat) (S : Nat → CK) (ik : Nat → Int32) (bf : Nat → Nat) (kd : Nat) (hg : Nat) (nu : Nat) (dg : Nat) (ng : Bool) (tk : Bool) (n : Nat) (lit : Int32) (h : Nat → Int32) (t : Nat → Int32) (s : Nat → Int32) (g : Nat → Int32) (kn : Nat) (lo : Int32) (lf : Int32) (nm : Nat → Int32) (ob : Nat) (ou : Nat → Int64) (x : Int32)  (hx : ¬ (0 ≤ x ∧ x ≤ 1)) : kIl yL_goBack wsL_goBack rm_L_goBack cy [.ref (b 0), .int x, .ref ob] ([(ob, .inl (cy 4, 1, .inr (.inl ou)))] ++ ((wXo b cy (a 0) r nx sn ln (svOf sk) (kpOf sk) ik bf ++ wRd r kd hg nu dg ng tk) ++ (wSky a cy n lit h t s g kn lo lf nm ++ wOth sk cy S))) 1 ([(ob, .inl (cy 4, 1, .inr (.inl ou)))] ++ ((wXo b cy (a 0) r nx sn ln (svOf sk) (kpOf sk) ik bf ++ wRd r kd hg nu dg ng tk) ++ (wSky a cy n lit h t s g kn lo lf nm ++ wOth sk cy S))) := by
  refine kIl_of (cc := cL_goBack) (maxL := 4) (by decide) rfl (Nat.le_of_ble_eq_true rfl) ?_
  intro X hR C Z hst htb E
  have C : kC X 4 RL cL_goBack wsL_goBack cy := C
  refine k_fr (fr2 := [(0, .ref (b 0)), (1, .int x), (2, .ref ob)]) ⟨[0, 1, 2], rfl⟩ ?_
  refine k_aload_n (q := 1) C 2 dL_goBack_0 rfl rfl ?_
  refine k_iconst (q := 2) (v := 0) C dL_goBack_1 (by decide) rfl ?_
  refine k_aload_n (q := 3) C 0 dL_goBack_2 rfl rfl ?_
  refine k_iload_n (q := 4) C 1 dL_goBack_3 rfl rfl ?_
  refine k_callVE (n := 1) (q := 12) (pre := ([(ob, .inl (cy 4, 1, .inr (.inl ou)))] : va_W)) (post := ([] : va_W)) (w2 := ([(ob, .inl (cy 4, 1, .inr (.inl ou)))] ++ ((wXo b cy (a 0) r nx sn ln (svOf sk) (kpOf sk) ik bf ++ wRd r kd hg nu dg ng tk) ++ (wSky a cy n lit h t s g kn lo lf nm ++ wOth sk cy S)))) (As := [.int x]) (rest := [.int 0, .ref ob]) C Z hst (c_X3_goBack_e cy a b r nx sn ln (svOf sk) (kpOf sk) ik bf kd hg nu dg ng tk n lit h t s g kn lo lf nm (wOth sk cy S) x hx) gL_goBack_X3_goBack rfl rfl rfl (by decide +kernel) (k_room hR (by decide)) (k_cells hR (by decide)) (ci := 3) rfl 0 rfl rfl rfl (Nat.le_of_ble_eq_true rfl) (k_pre) (k_pre.symm) dL_goBack_4 htb [] ⟨0, 9, 12, 13⟩ [⟨0, 9, 15, 15⟩] rfl (fun _ h => absurd h List.not_mem_nil) rfl (by decide) (List.mem_of_getElem? (i := 1) rfl) (List.mem_of_getElem? (i := 0) rfl) rfl (fun q9 => ?_)
  refine k_astore_n (q := 13) (fr2 := [(3, .ref q9), (0, .ref (b 0)), (1, .int x), (2, .ref ob)]) C dL_goBack_12 (by decide) rfl rfl ?_
  refine k_iconst (q := 14) (v := 1) C dL_goBack_13 (by decide) rfl ?_
  exact k_finL E (by decide) (by decide) dL_goBack_14 (rfl) (rfl)
set_option maxHeartbeats 4000000 in
set_option maxRecDepth 100000 in
theorem c_L_goBack_e2 (cy : Nat → ClassId) (a : Nat → Nat) (b : Nat → Nat) (r : Nat) (nx : Nat) (sn : Nat) (ln : Nat) (sk : Nat → Nat → Nat) (S : Nat → CK) (ik : Nat → Int32) (bf : Nat → Nat) (kd : Nat) (hg : Nat) (nu : Nat) (dg : Nat) (ng : Bool) (tk : Bool) (n : Nat) (lit : Int32) (h : Nat → Int32) (t : Nat → Int32) (s : Nat → Int32) (g : Nat → Int32) (kn : Nat) (lo : Int32) (lf : Int32) (nm : Nat → Int32) (ob : Nat) (ou : Nat → Int64) (j : Nat)  (hj : j < 2) (hi : ik j = 0) : kIl yL_goBack wsL_goBack rm_L_goBack cy [.ref (b 0), .int (nI j), .ref ob] ([(ob, .inl (cy 4, 1, .inr (.inl ou)))] ++ ((wXo b cy (a 0) r nx sn ln (svOf sk) (kpOf sk) ik bf ++ wRd r kd hg nu dg ng tk) ++ (wSky a cy n lit h t s g kn lo lf nm ++ wOth sk cy S))) 2 ([(ob, .inl (cy 4, 1, .inr (.inl ou)))] ++ ((wXo b cy (a 0) r nx sn ln (svOf sk) (kpOf sk) ik bf ++ wRd r kd hg nu dg ng tk) ++ (wSky a cy n lit h t s g kn lo lf nm ++ wOth sk cy S))) := by
  refine kIl_of (cc := cL_goBack) (maxL := 4) (by decide) rfl (Nat.le_of_ble_eq_true rfl) ?_
  intro X hR C Z hst htb E
  have C : kC X 4 RL cL_goBack wsL_goBack cy := C
  refine k_fr (fr2 := [(0, .ref (b 0)), (1, .int (nI j)), (2, .ref ob)]) ⟨[0, 1, 2], rfl⟩ ?_
  refine k_aload_n (q := 1) C 2 dL_goBack_0 rfl rfl ?_
  refine k_iconst (q := 2) (v := 0) C dL_goBack_1 (by decide) rfl ?_
  refine k_aload_n (q := 3) C 0 dL_goBack_2 rfl rfl ?_
  refine k_iload_n (q := 4) C 1 dL_goBack_3 rfl rfl ?_
  refine k_callVE (n := 1) (q := 15) (pre := ([(ob, .inl (cy 4, 1, .inr (.inl ou)))] : va_W)) (post := ([] : va_W)) (w2 := ([(ob, .inl (cy 4, 1, .inr (.inl ou)))] ++ ((wXo b cy (a 0) r nx sn ln (svOf sk) (kpOf sk) ik bf ++ wRd r kd hg nu dg ng tk) ++ (wSky a cy n lit h t s g kn lo lf nm ++ wOth sk cy S)))) (As := [.int (nI j)]) (rest := [.int 0, .ref ob]) C Z hst (c_X3_goBack_e2 cy a b r nx sn ln (svOf sk) (kpOf sk) ik bf kd hg nu dg ng tk n lit h t s g kn lo lf nm (wOth sk cy S) j hj hi) gL_goBack_X3_goBack rfl rfl rfl (by decide +kernel) (k_room hR (by decide)) (k_cells hR (by decide)) (ci := 3) rfl 0 rfl rfl rfl (Nat.le_of_ble_eq_true rfl) (k_pre) (k_pre.symm) dL_goBack_4 htb [⟨0, 9, 12, 13⟩] ⟨0, 9, 15, 15⟩ [] rfl (fun z hz => by rw [List.mem_singleton.mp hz]; exact Or.inr ⟨by decide, "java/lang/IllegalArgumentException", (List.mem_of_getElem? (i := 1) rfl), Z.2.2.2.2.2.2.1⟩) rfl (by decide) (List.mem_of_getElem? (i := 2) rfl) (List.mem_of_getElem? (i := 1) rfl) rfl (fun q9 => ?_)
  refine k_astore_n (q := 16) (fr2 := [(3, .ref q9), (0, .ref (b 0)), (1, .int (nI j)), (2, .ref ob)]) C dL_goBack_15 (by decide) rfl rfl ?_
  refine k_iconst (q := 17) (v := 2) C dL_goBack_16 (by decide) rfl ?_
  exact k_finL E (by decide) (by decide) dL_goBack_17 (rfl) (rfl)
abbrev rm_L_layerOf : Room := { frames := 7, cells := 1, slots := 6, locals := 134 }
theorem in2_L_layerOf : ∀ w ∈ wsX20, w ∈ wsL_layerOf := fun _ h => (List.mem_cons_of_mem _ (List.mem_append_left _ (List.mem_append_left _ (List.mem_append_right _ h))))
theorem in3_L_layerOf : ∀ w ∈ wsX30, w ∈ wsL_layerOf := fun _ h => (List.mem_cons_of_mem _ (List.mem_append_left _ (List.mem_append_left _ (List.mem_append_left _ (List.mem_append_right _ h)))))
set_option maxHeartbeats 4000000 in
set_option maxRecDepth 100000 in
theorem c_L_layerOf (cy : Nat → ClassId) (a : Nat → Nat) (b : Nat → Nat) (r : Nat) (nx : Nat) (sn : Nat) (ln : Nat) (sk : Nat → Nat → Nat) (S : Nat → CK) (ik : Nat → Int32) (bf : Nat → Nat) (kd : Nat) (hg : Nat) (nu : Nat) (dg : Nat) (ng : Bool) (tk : Bool) (n : Nat) (lit : Int32) (h : Nat → Int32) (t : Nat → Int32) (s : Nat → Int32) (g : Nat → Int32) (kn : Nat) (lo : Int32) (lf : Int32) (nm : Nat → Int32) (ob : Nat) (ou : Nat → Int64) (p : Nat) (w : Nat)  (hn : n ≤ 6) (hp : p < n) (hw : w ≤ 3) : kIl yL_layerOf wsL_layerOf rm_L_layerOf cy [.ref (b 0), .int (nI p), .int (nI w), .ref ob] ([(ob, .inl (cy 4, 1, .inr (.inl ou)))] ++ ((wXo b cy (a 0) r nx sn ln (svOf sk) (kpOf sk) ik bf ++ wRd r kd hg nu dg ng tk) ++ (wSky a cy n lit h t s g kn lo lf nm ++ wOth sk cy S))) 0 ([(ob, .inl (cy 4, 1, .inr (.inl (vp_updL ou 0 (sLy lit h t s g p (nI w)).toInt64))))] ++ ((wXo b cy (a 0) r nx sn ln (svOf sk) (kpOf sk) ik bf ++ wRd r kd hg nu dg ng tk) ++ (wSky a cy n lit h t s g kn lo lf nm ++ wOth sk cy S))) := by
  refine kIl_of (cc := cL_layerOf) (maxL := 5) (by decide) rfl (Nat.le_of_ble_eq_true rfl) ?_
  intro X hR C Z hst htb E
  have C : kC X 5 RL cL_layerOf wsL_layerOf cy := C
  refine k_fr (fr2 := [(0, .ref (b 0)), (1, .int (nI p)), (2, .int (nI w)), (3, .ref ob)]) ⟨[0, 1, 2, 3], rfl⟩ ?_
  refine k_aload_n (q := 1) C 3 dL_layerOf_0 rfl rfl ?_
  refine k_iconst (q := 2) (v := 0) C dL_layerOf_1 (by decide) rfl ?_
  refine k_aload_n (q := 3) C 0 dL_layerOf_2 rfl rfl ?_
  refine k_iload_n (q := 4) C 1 dL_layerOf_3 rfl rfl ?_
  refine k_iload_n (q := 5) C 2 dL_layerOf_4 rfl rfl ?_
  refine k_callVI (n := 2) (q := 8) (pre := ([(ob, .inl (cy 4, 1, .inr (.inl ou)))] : va_W)) (post := ([] : va_W)) (w2 := ([(ob, .inl (cy 4, 1, .inr (.inl ou)))] ++ ((wXo b cy (a 0) r nx sn ln (svOf sk) (kpOf sk) ik bf ++ wRd r kd hg nu dg ng tk) ++ (wSky a cy n lit h t s g kn lo lf nm ++ wOth sk cy S)))) (As := [.int (nI p), .int (nI w)]) (rest := [.int 0, .ref ob]) C (c_X3_layerOf cy a b r nx sn ln (svOf sk) (kpOf sk) ik bf kd hg nu dg ng tk n lit h t s g kn lo lf nm (wOth sk cy S) p w hn hp hw) gL_layerOf_X3_layerOf rfl rfl rfl (by decide +kernel) (k_room hR (by decide)) ⟨Nat.zero_le _, Nat.zero_le _⟩ (ci := 3) rfl 0 rfl rfl rfl (Nat.le_of_ble_eq_true rfl) (k_pre) (k_pre.symm) dL_layerOf_5 rfl ?_
  refine k_i2l (q := 9) C dL_layerOf_8 rfl ?_
  refine k_last (q := 10) (w2 := ([(ob, .inl (cy 4, 1, .inr (.inl (vp_updL ou 0 ((sLy lit h t s g p (nI w)).toInt64)))))] ++ ((wXo b cy (a 0) r nx sn ln (svOf sk) (kpOf sk) ik bf ++ wRd r kd hg nu dg ng tk) ++ (wSky a cy n lit h t s g kn lo lf nm ++ wOth sk cy S)))) C 0 rfl (vp_in_nI (n := 0) (by decide) (by decide)) rfl dL_layerOf_9 rfl ?_
  refine k_goto (q := 21) C dL_layerOf_10 (by decide) ?_
  refine k_iconst (q := 22) (v := 0) C dL_layerOf_21 (by decide) rfl ?_
  exact k_finL E (by decide) (by decide) dL_layerOf_22 (rfl) (rfl)
set_option maxHeartbeats 4000000 in
set_option maxRecDepth 100000 in
theorem c_L_layerOf_e (cy : Nat → ClassId) (a : Nat → Nat) (b : Nat → Nat) (r : Nat) (nx : Nat) (sn : Nat) (ln : Nat) (sk : Nat → Nat → Nat) (S : Nat → CK) (ik : Nat → Int32) (bf : Nat → Nat) (kd : Nat) (hg : Nat) (nu : Nat) (dg : Nat) (ng : Bool) (tk : Bool) (n : Nat) (lit : Int32) (h : Nat → Int32) (t : Nat → Int32) (s : Nat → Int32) (g : Nat → Int32) (kn : Nat) (lo : Int32) (lf : Int32) (nm : Nat → Int32) (ob : Nat) (ou : Nat → Int64) (x : Int32) (y : Int32)  (hx : ¬ (0 ≤ x ∧ x < nI n)) : kIl yL_layerOf wsL_layerOf rm_L_layerOf cy [.ref (b 0), .int x, .int y, .ref ob] ([(ob, .inl (cy 4, 1, .inr (.inl ou)))] ++ ((wXo b cy (a 0) r nx sn ln (svOf sk) (kpOf sk) ik bf ++ wRd r kd hg nu dg ng tk) ++ (wSky a cy n lit h t s g kn lo lf nm ++ wOth sk cy S))) 1 ([(ob, .inl (cy 4, 1, .inr (.inl ou)))] ++ ((wXo b cy (a 0) r nx sn ln (svOf sk) (kpOf sk) ik bf ++ wRd r kd hg nu dg ng tk) ++ (wSky a cy n lit h t s g kn lo lf nm ++ wOth sk cy S))) := by
  refine kIl_of (cc := cL_layerOf) (maxL := 5) (by decide) rfl (Nat.le_of_ble_eq_true rfl) ?_
  intro X hR C Z hst htb E
  have C : kC X 5 RL cL_layerOf wsL_layerOf cy := C
  refine k_fr (fr2 := [(0, .ref (b 0)), (1, .int x), (2, .int y), (3, .ref ob)]) ⟨[0, 1, 2, 3], rfl⟩ ?_
  refine k_aload_n (q := 1) C 3 dL_layerOf_0 rfl rfl ?_
  refine k_iconst (q := 2) (v := 0) C dL_layerOf_1 (by decide) rfl ?_
  refine k_aload_n (q := 3) C 0 dL_layerOf_2 rfl rfl ?_
  refine k_iload_n (q := 4) C 1 dL_layerOf_3 rfl rfl ?_
  refine k_iload_n (q := 5) C 2 dL_layerOf_4 rfl rfl ?_
  refine k_callVE (n := 2) (q := 13) (pre := ([(ob, .inl (cy 4, 1, .inr (.inl ou)))] : va_W)) (post := ([] : va_W)) (w2 := ([(ob, .inl (cy 4, 1, .inr (.inl ou)))] ++ ((wXo b cy (a 0) r nx sn ln (svOf sk) (kpOf sk) ik bf ++ wRd r kd hg nu dg ng tk) ++ (wSky a cy n lit h t s g kn lo lf nm ++ wOth sk cy S)))) (As := [.int x, .int y]) (rest := [.int 0, .ref ob]) C Z hst (c_X3_layerOf_e cy a b r nx sn ln (svOf sk) (kpOf sk) ik bf kd hg nu dg ng tk n lit h t s g kn lo lf nm (wOth sk cy S) x y hx) gL_layerOf_X3_layerOf rfl rfl rfl (by decide +kernel) (k_room hR (by decide)) (k_cells hR (by decide)) (ci := 3) rfl 0 rfl rfl rfl (Nat.le_of_ble_eq_true rfl) (k_pre) (k_pre.symm) dL_layerOf_5 htb [] ⟨0, 10, 13, 21⟩ [⟨0, 10, 17, 13⟩] rfl (fun _ h => absurd h List.not_mem_nil) rfl (by decide) (List.mem_of_getElem? (i := 1) rfl) (List.mem_of_getElem? (i := 2) rfl) rfl (fun q9 => ?_)
  refine k_astore (q := 15) (fr2 := [(4, .ref q9), (0, .ref (b 0)), (1, .int x), (2, .int y), (3, .ref ob)]) C dL_layerOf_13 (by decide) rfl rfl ?_
  refine k_iconst (q := 16) (v := 1) C dL_layerOf_15 (by decide) rfl ?_
  exact k_finL E (by decide) (by decide) dL_layerOf_16 (rfl) (rfl)
set_option maxHeartbeats 4000000 in
set_option maxRecDepth 100000 in
theorem c_L_layerOf_e2 (cy : Nat → ClassId) (a : Nat → Nat) (b : Nat → Nat) (r : Nat) (nx : Nat) (sn : Nat) (ln : Nat) (sk : Nat → Nat → Nat) (S : Nat → CK) (ik : Nat → Int32) (bf : Nat → Nat) (kd : Nat) (hg : Nat) (nu : Nat) (dg : Nat) (ng : Bool) (tk : Bool) (n : Nat) (lit : Int32) (h : Nat → Int32) (t : Nat → Int32) (s : Nat → Int32) (g : Nat → Int32) (kn : Nat) (lo : Int32) (lf : Int32) (nm : Nat → Int32) (ob : Nat) (ou : Nat → Int64) (p : Nat) (y : Int32)  (hn : n ≤ 6) (hp : p < n) (hy : ¬ (0 ≤ y ∧ y ≤ 3)) : kIl yL_layerOf wsL_layerOf rm_L_layerOf cy [.ref (b 0), .int (nI p), .int y, .ref ob] ([(ob, .inl (cy 4, 1, .inr (.inl ou)))] ++ ((wXo b cy (a 0) r nx sn ln (svOf sk) (kpOf sk) ik bf ++ wRd r kd hg nu dg ng tk) ++ (wSky a cy n lit h t s g kn lo lf nm ++ wOth sk cy S))) 2 ([(ob, .inl (cy 4, 1, .inr (.inl ou)))] ++ ((wXo b cy (a 0) r nx sn ln (svOf sk) (kpOf sk) ik bf ++ wRd r kd hg nu dg ng tk) ++ (wSky a cy n lit h t s g kn lo lf nm ++ wOth sk cy S))) := by
  refine kIl_of (cc := cL_layerOf) (maxL := 5) (by decide) rfl (Nat.le_of_ble_eq_true rfl) ?_
  intro X hR C Z hst htb E
  have C : kC X 5 RL cL_layerOf wsL_layerOf cy := C
  refine k_fr (fr2 := [(0, .ref (b 0)), (1, .int (nI p)), (2, .int y), (3, .ref ob)]) ⟨[0, 1, 2, 3], rfl⟩ ?_
  refine k_aload_n (q := 1) C 3 dL_layerOf_0 rfl rfl ?_
  refine k_iconst (q := 2) (v := 0) C dL_layerOf_1 (by decide) rfl ?_
  refine k_aload_n (q := 3) C 0 dL_layerOf_2 rfl rfl ?_
  refine k_iload_n (q := 4) C 1 dL_layerOf_3 rfl rfl ?_
  refine k_iload_n (q := 5) C 2 dL_layerOf_4 rfl rfl ?_
  refine k_callVE (n := 2) (q := 17) (pre := ([(ob, .inl (cy 4, 1, .inr (.inl ou)))] : va_W)) (post := ([] : va_W)) (w2 := ([(ob, .inl (cy 4, 1, .inr (.inl ou)))] ++ ((wXo b cy (a 0) r nx sn ln (svOf sk) (kpOf sk) ik bf ++ wRd r kd hg nu dg ng tk) ++ (wSky a cy n lit h t s g kn lo lf nm ++ wOth sk cy S)))) (As := [.int (nI p), .int y]) (rest := [.int 0, .ref ob]) C Z hst (c_X3_layerOf_e2 cy a b r nx sn ln (svOf sk) (kpOf sk) ik bf kd hg nu dg ng tk n lit h t s g kn lo lf nm (wOth sk cy S) p y hn hp hy) gL_layerOf_X3_layerOf rfl rfl rfl (by decide +kernel) (k_room hR (by decide)) (k_cells hR (by decide)) (ci := 3) rfl 0 rfl rfl rfl (Nat.le_of_ble_eq_true rfl) (k_pre) (k_pre.symm) dL_layerOf_5 htb [⟨0, 10, 13, 21⟩] ⟨0, 10, 17, 13⟩ [] rfl (fun z hz => by rw [List.mem_singleton.mp hz]; exact Or.inr ⟨by decide, "java/lang/IndexOutOfBoundsException", (List.mem_of_getElem? (i := 1) rfl), Z.2.2.2.2.2.2.2⟩) rfl (by decide) (List.mem_of_getElem? (i := 2) rfl) (List.mem_of_getElem? (i := 0) rfl) rfl (fun q9 => ?_)
  refine k_astore (q := 19) (fr2 := [(4, .ref q9), (0, .ref (b 0)), (1, .int (nI p)), (2, .int y), (3, .ref ob)]) C dL_layerOf_17 (by decide) rfl rfl ?_
  refine k_iconst (q := 20) (v := 2) C dL_layerOf_19 (by decide) rfl ?_
  exact k_finL E (by decide) (by decide) dL_layerOf_20 (rfl) (rfl)
abbrev rm_L_spot : Room := { frames := 7, cells := 1, slots := 6, locals := 105 }
theorem in2_L_spot : ∀ w ∈ wsX20, w ∈ wsL_spot := fun _ h => (List.mem_cons_of_mem _ (List.mem_append_left _ (List.mem_append_left _ (List.mem_append_right _ h))))
theorem in3_L_spot : ∀ w ∈ wsX30, w ∈ wsL_spot := fun _ h => (List.mem_cons_of_mem _ (List.mem_append_left _ (List.mem_append_left _ (List.mem_append_left _ (List.mem_append_right _ h)))))
set_option maxHeartbeats 4000000 in
set_option maxRecDepth 100000 in
theorem c_L_spot (cy : Nat → ClassId) (a : Nat → Nat) (b : Nat → Nat) (r : Nat) (nx : Nat) (sn : Nat) (ln : Nat) (sk : Nat → Nat → Nat) (S : Nat → CK) (ik : Nat → Int32) (bf : Nat → Nat) (kd : Nat) (hg : Nat) (nu : Nat) (dg : Nat) (ng : Bool) (tk : Bool) (n : Nat) (lit : Int32) (h : Nat → Int32) (t : Nat → Int32) (s : Nat → Int32) (g : Nat → Int32) (kn : Nat) (lo : Int32) (lf : Int32) (nm : Nat → Int32) (ob : Nat) (ou : Nat → Int64) (j : Nat) (p : Nat) (z : Int32)  (hn : n ≤ 6) (hj : j < 2) (hp : p < n) (hz : 0 ≤ z ∧ z ≤ 4) : kIl yL_spot wsL_spot rm_L_spot cy [.ref (b 0), .int (nI j), .int (nI p), .int z, .ref ob] ([(ob, .inl (cy 4, 1, .inr (.inl ou)))] ++ ((wXo b cy (a 0) r nx sn ln (svOf sk) (kpOf sk) ik bf ++ wRd r kd hg nu dg ng tk) ++ (wSky a cy n lit h t s g kn lo lf nm ++ wOth sk cy S))) 0 ([(ob, .inl (cy 4, 1, .inr (.inl (vp_updL ou 0 (if (lit >>> (nI j &&& 31)) &&& 1 = 1 then sSpot h t s g j p z else -99999).toInt64))))] ++ ((wXo b cy (a 0) r nx sn ln (svOf sk) (kpOf sk) ik bf ++ wRd r kd hg nu dg ng tk) ++ (wSky a cy n lit h t s g kn lo lf nm ++ wOth sk cy S))) := by
  refine kIl_of (cc := cL_spot) (maxL := 6) (by decide) rfl (Nat.le_of_ble_eq_true rfl) ?_
  intro X hR C Z hst htb E
  have C : kC X 6 RL cL_spot wsL_spot cy := C
  refine k_fr (fr2 := [(0, .ref (b 0)), (1, .int (nI j)), (2, .int (nI p)), (3, .int z), (4, .ref ob)]) ⟨[0, 1, 2, 3, 4], rfl⟩ ?_
  refine k_aload (q := 2) C 4 dL_spot_0 rfl rfl ?_
  refine k_iconst (q := 3) (v := 0) C dL_spot_2 (by decide) rfl ?_
  refine k_aload_n (q := 4) C 0 dL_spot_3 rfl rfl ?_
  refine k_iload_n (q := 5) C 1 dL_spot_4 rfl rfl ?_
  refine k_iload_n (q := 6) C 2 dL_spot_5 rfl rfl ?_
  refine k_iload_n (q := 7) C 3 dL_spot_6 rfl rfl ?_
  refine k_callVI (n := 3) (q := 10) (pre := ([(ob, .inl (cy 4, 1, .inr (.inl ou)))] : va_W)) (post := ([] : va_W)) (w2 := ([(ob, .inl (cy 4, 1, .inr (.inl ou)))] ++ ((wXo b cy (a 0) r nx sn ln (svOf sk) (kpOf sk) ik bf ++ wRd r kd hg nu dg ng tk) ++ (wSky a cy n lit h t s g kn lo lf nm ++ wOth sk cy S)))) (As := [.int (nI j), .int (nI p), .int z]) (rest := [.int 0, .ref ob]) C (c_X3_spot cy a b r nx sn ln (svOf sk) (kpOf sk) ik bf kd hg nu dg ng tk n lit h t s g kn lo lf nm (wOth sk cy S) j p z hn hj hp hz) gL_spot_X3_spot rfl rfl rfl (by decide +kernel) (k_room hR (by decide)) ⟨Nat.zero_le _, Nat.zero_le _⟩ (ci := 3) rfl 0 rfl rfl rfl (Nat.le_of_ble_eq_true rfl) (k_pre) (k_pre.symm) dL_spot_7 rfl ?_
  refine k_i2l (q := 11) C dL_spot_10 rfl ?_
  refine k_last (q := 12) (w2 := ([(ob, .inl (cy 4, 1, .inr (.inl (vp_updL ou 0 ((if (lit >>> (nI j &&& 31)) &&& 1 = 1 then sSpot h t s g j p z else -99999).toInt64)))))] ++ ((wXo b cy (a 0) r nx sn ln (svOf sk) (kpOf sk) ik bf ++ wRd r kd hg nu dg ng tk) ++ (wSky a cy n lit h t s g kn lo lf nm ++ wOth sk cy S)))) C 0 rfl (vp_in_nI (n := 0) (by decide) (by decide)) rfl dL_spot_11 rfl ?_
  refine k_goto (q := 23) C dL_spot_12 (by decide) ?_
  refine k_iconst (q := 24) (v := 0) C dL_spot_23 (by decide) rfl ?_
  exact k_finL E (by decide) (by decide) dL_spot_24 (rfl) (rfl)
set_option maxHeartbeats 4000000 in
set_option maxRecDepth 100000 in
theorem c_L_spot_e (cy : Nat → ClassId) (a : Nat → Nat) (b : Nat → Nat) (r : Nat) (nx : Nat) (sn : Nat) (ln : Nat) (sk : Nat → Nat → Nat) (S : Nat → CK) (ik : Nat → Int32) (bf : Nat → Nat) (kd : Nat) (hg : Nat) (nu : Nat) (dg : Nat) (ng : Bool) (tk : Bool) (n : Nat) (lit : Int32) (h : Nat → Int32) (t : Nat → Int32) (s : Nat → Int32) (g : Nat → Int32) (kn : Nat) (lo : Int32) (lf : Int32) (nm : Nat → Int32) (ob : Nat) (ou : Nat → Int64) (x : Int32) (y : Int32) (z : Int32)  (hx : ¬ ((0 ≤ x ∧ x ≤ 1) ∧ (0 ≤ y ∧ y < nI n))) : kIl yL_spot wsL_spot rm_L_spot cy [.ref (b 0), .int x, .int y, .int z, .ref ob] ([(ob, .inl (cy 4, 1, .inr (.inl ou)))] ++ ((wXo b cy (a 0) r nx sn ln (svOf sk) (kpOf sk) ik bf ++ wRd r kd hg nu dg ng tk) ++ (wSky a cy n lit h t s g kn lo lf nm ++ wOth sk cy S))) 1 ([(ob, .inl (cy 4, 1, .inr (.inl ou)))] ++ ((wXo b cy (a 0) r nx sn ln (svOf sk) (kpOf sk) ik bf ++ wRd r kd hg nu dg ng tk) ++ (wSky a cy n lit h t s g kn lo lf nm ++ wOth sk cy S))) := by
  refine kIl_of (cc := cL_spot) (maxL := 6) (by decide) rfl (Nat.le_of_ble_eq_true rfl) ?_
  intro X hR C Z hst htb E
  have C : kC X 6 RL cL_spot wsL_spot cy := C
  refine k_fr (fr2 := [(0, .ref (b 0)), (1, .int x), (2, .int y), (3, .int z), (4, .ref ob)]) ⟨[0, 1, 2, 3, 4], rfl⟩ ?_
  refine k_aload (q := 2) C 4 dL_spot_0 rfl rfl ?_
  refine k_iconst (q := 3) (v := 0) C dL_spot_2 (by decide) rfl ?_
  refine k_aload_n (q := 4) C 0 dL_spot_3 rfl rfl ?_
  refine k_iload_n (q := 5) C 1 dL_spot_4 rfl rfl ?_
  refine k_iload_n (q := 6) C 2 dL_spot_5 rfl rfl ?_
  refine k_iload_n (q := 7) C 3 dL_spot_6 rfl rfl ?_
  refine k_callVE (n := 3) (q := 15) (pre := ([(ob, .inl (cy 4, 1, .inr (.inl ou)))] : va_W)) (post := ([] : va_W)) (w2 := ([(ob, .inl (cy 4, 1, .inr (.inl ou)))] ++ ((wXo b cy (a 0) r nx sn ln (svOf sk) (kpOf sk) ik bf ++ wRd r kd hg nu dg ng tk) ++ (wSky a cy n lit h t s g kn lo lf nm ++ wOth sk cy S)))) (As := [.int x, .int y, .int z]) (rest := [.int 0, .ref ob]) C Z hst (c_X3_spot_e cy a b r nx sn ln (svOf sk) (kpOf sk) ik bf kd hg nu dg ng tk n lit h t s g kn lo lf nm (wOth sk cy S) x y z hx) gL_spot_X3_spot rfl rfl rfl (by decide +kernel) (k_room hR (by decide)) (k_cells hR (by decide)) (ci := 3) rfl 0 rfl rfl rfl (Nat.le_of_ble_eq_true rfl) (k_pre) (k_pre.symm) dL_spot_7 htb [] ⟨0, 12, 15, 21⟩ [⟨0, 12, 19, 13⟩] rfl (fun _ h => absurd h List.not_mem_nil) rfl (by decide) (List.mem_of_getElem? (i := 1) rfl) (List.mem_of_getElem? (i := 2) rfl) rfl (fun q9 => ?_)
  refine k_astore (q := 17) (fr2 := [(5, .ref q9), (0, .ref (b 0)), (1, .int x), (2, .int y), (3, .int z), (4, .ref ob)]) C dL_spot_15 (by decide) rfl rfl ?_
  refine k_iconst (q := 18) (v := 1) C dL_spot_17 (by decide) rfl ?_
  exact k_finL E (by decide) (by decide) dL_spot_18 (rfl) (rfl)
set_option maxHeartbeats 4000000 in
set_option maxRecDepth 100000 in
theorem c_L_spot_e2 (cy : Nat → ClassId) (a : Nat → Nat) (b : Nat → Nat) (r : Nat) (nx : Nat) (sn : Nat) (ln : Nat) (sk : Nat → Nat → Nat) (S : Nat → CK) (ik : Nat → Int32) (bf : Nat → Nat) (kd : Nat) (hg : Nat) (nu : Nat) (dg : Nat) (ng : Bool) (tk : Bool) (n : Nat) (lit : Int32) (h : Nat → Int32) (t : Nat → Int32) (s : Nat → Int32) (g : Nat → Int32) (kn : Nat) (lo : Int32) (lf : Int32) (nm : Nat → Int32) (ob : Nat) (ou : Nat → Int64) (j : Nat) (p : Nat) (z : Int32)  (hn : n ≤ 6) (hj : j < 2) (hp : p < n) (hz : ¬ (0 ≤ z ∧ z ≤ 4)) : kIl yL_spot wsL_spot rm_L_spot cy [.ref (b 0), .int (nI j), .int (nI p), .int z, .ref ob] ([(ob, .inl (cy 4, 1, .inr (.inl ou)))] ++ ((wXo b cy (a 0) r nx sn ln (svOf sk) (kpOf sk) ik bf ++ wRd r kd hg nu dg ng tk) ++ (wSky a cy n lit h t s g kn lo lf nm ++ wOth sk cy S))) 2 ([(ob, .inl (cy 4, 1, .inr (.inl ou)))] ++ ((wXo b cy (a 0) r nx sn ln (svOf sk) (kpOf sk) ik bf ++ wRd r kd hg nu dg ng tk) ++ (wSky a cy n lit h t s g kn lo lf nm ++ wOth sk cy S))) := by
  refine kIl_of (cc := cL_spot) (maxL := 6) (by decide) rfl (Nat.le_of_ble_eq_true rfl) ?_
  intro X hR C Z hst htb E
  have C : kC X 6 RL cL_spot wsL_spot cy := C
  refine k_fr (fr2 := [(0, .ref (b 0)), (1, .int (nI j)), (2, .int (nI p)), (3, .int z), (4, .ref ob)]) ⟨[0, 1, 2, 3, 4], rfl⟩ ?_
  refine k_aload (q := 2) C 4 dL_spot_0 rfl rfl ?_
  refine k_iconst (q := 3) (v := 0) C dL_spot_2 (by decide) rfl ?_
  refine k_aload_n (q := 4) C 0 dL_spot_3 rfl rfl ?_
  refine k_iload_n (q := 5) C 1 dL_spot_4 rfl rfl ?_
  refine k_iload_n (q := 6) C 2 dL_spot_5 rfl rfl ?_
  refine k_iload_n (q := 7) C 3 dL_spot_6 rfl rfl ?_
  refine k_callVE (n := 3) (q := 19) (pre := ([(ob, .inl (cy 4, 1, .inr (.inl ou)))] : va_W)) (post := ([] : va_W)) (w2 := ([(ob, .inl (cy 4, 1, .inr (.inl ou)))] ++ ((wXo b cy (a 0) r nx sn ln (svOf sk) (kpOf sk) ik bf ++ wRd r kd hg nu dg ng tk) ++ (wSky a cy n lit h t s g kn lo lf nm ++ wOth sk cy S)))) (As := [.int (nI j), .int (nI p), .int z]) (rest := [.int 0, .ref ob]) C Z hst (c_X3_spot_e2 cy a b r nx sn ln (svOf sk) (kpOf sk) ik bf kd hg nu dg ng tk n lit h t s g kn lo lf nm (wOth sk cy S) j p z hn hj hp hz) gL_spot_X3_spot rfl rfl rfl (by decide +kernel) (k_room hR (by decide)) (k_cells hR (by decide)) (ci := 3) rfl 0 rfl rfl rfl (Nat.le_of_ble_eq_true rfl) (k_pre) (k_pre.symm) dL_spot_7 htb [⟨0, 12, 15, 21⟩] ⟨0, 12, 19, 13⟩ [] rfl (fun z hz => by rw [List.mem_singleton.mp hz]; exact Or.inr ⟨by decide, "java/lang/IndexOutOfBoundsException", (List.mem_of_getElem? (i := 1) rfl), Z.2.2.2.2.2.2.2⟩) rfl (by decide) (List.mem_of_getElem? (i := 2) rfl) (List.mem_of_getElem? (i := 0) rfl) rfl (fun q9 => ?_)
  refine k_astore (q := 21) (fr2 := [(5, .ref q9), (0, .ref (b 0)), (1, .int (nI j)), (2, .int (nI p)), (3, .int z), (4, .ref ob)]) C dL_spot_19 (by decide) rfl rfl ?_
  refine k_iconst (q := 22) (v := 2) C dL_spot_21 (by decide) rfl ?_
  exact k_finL E (by decide) (by decide) dL_spot_22 (rfl) (rfl)
abbrev rm_L_reading : Room := { frames := 7, cells := 1, slots := 6, locals := 121 }
theorem in2_L_reading : ∀ w ∈ wsX20, w ∈ wsL_reading := fun _ h => (List.mem_cons_of_mem _ (List.mem_append_left _ (List.mem_append_right _ h)))
theorem in3_L_reading : ∀ w ∈ wsX30, w ∈ wsL_reading := fun _ h => (List.mem_cons_of_mem _ (List.mem_append_left _ (List.mem_append_left _ (List.mem_append_right _ h))))
set_option maxHeartbeats 4000000 in
set_option maxRecDepth 100000 in
theorem c_L_reading (cy : Nat → ClassId) (a : Nat → Nat) (b : Nat → Nat) (r : Nat) (nx : Nat) (sn : Nat) (ln : Nat) (sk : Nat → Nat → Nat) (S : Nat → CK) (ik : Nat → Int32) (bf : Nat → Nat) (kd : Nat) (hg : Nat) (nu : Nat) (dg : Nat) (ng : Bool) (tk : Bool) (n : Nat) (lit : Int32) (h : Nat → Int32) (t : Nat → Int32) (s : Nat → Int32) (g : Nat → Int32) (kn : Nat) (lo : Int32) (lf : Int32) (nm : Nat → Int32) (ob : Nat) (ou : Nat → Int64) (x : Int32)  (hn : n ≤ 6) (hx : 0 ≤ x ∧ x ≤ 3) : kIl yL_reading wsL_reading rm_L_reading cy [.ref (b 0), .int x, .ref ob] ([(ob, .inl (cy 4, 1, .inr (.inl ou)))] ++ ((wXo b cy (a 0) r nx sn ln (svOf sk) (kpOf sk) ik bf ++ wRd r kd hg nu dg ng tk) ++ (wSky a cy n lit h t s g kn lo lf nm ++ wOth sk cy S))) 0 ([(ob, .inl (cy 4, 1, .inr (.inl (vp_updL ou 0 (sRn lit h t s g n x).toInt64))))] ++ ((wXo b cy (a 0) r nx sn ln (svOf sk) (kpOf sk) ik bf ++ wRd r kd hg nu dg ng tk) ++ (wSky a cy n lit h t s g kn lo lf nm ++ wOth sk cy S))) := by
  refine kIl_of (cc := cL_reading) (maxL := 4) (by decide) rfl (Nat.le_of_ble_eq_true rfl) ?_
  intro X hR C Z hst htb E
  have C : kC X 4 RL cL_reading wsL_reading cy := C
  refine k_fr (fr2 := [(0, .ref (b 0)), (1, .int x), (2, .ref ob)]) ⟨[0, 1, 2], rfl⟩ ?_
  refine k_aload_n (q := 1) C 2 dL_reading_0 rfl rfl ?_
  refine k_iconst (q := 2) (v := 0) C dL_reading_1 (by decide) rfl ?_
  refine k_aload_n (q := 3) C 0 dL_reading_2 rfl rfl ?_
  refine k_iload_n (q := 4) C 1 dL_reading_3 rfl rfl ?_
  refine k_callVI (n := 1) (q := 7) (pre := ([(ob, .inl (cy 4, 1, .inr (.inl ou)))] : va_W)) (post := ([] : va_W)) (w2 := ([(ob, .inl (cy 4, 1, .inr (.inl ou)))] ++ ((wXo b cy (a 0) r nx sn ln (svOf sk) (kpOf sk) ik bf ++ wRd r kd hg nu dg ng tk) ++ (wSky a cy n lit h t s g kn lo lf nm ++ wOth sk cy S)))) (As := [.int x]) (rest := [.int 0, .ref ob]) C (c_X3_reading cy a b r nx sn ln (svOf sk) (kpOf sk) ik bf kd hg nu dg ng tk n lit h t s g kn lo lf nm (wOth sk cy S) x hn hx) gL_reading_X3_reading rfl rfl rfl (by decide +kernel) (k_room hR (by decide)) ⟨Nat.zero_le _, Nat.zero_le _⟩ (ci := 3) rfl 0 rfl rfl rfl (Nat.le_of_ble_eq_true rfl) (k_pre) (k_pre.symm) dL_reading_4 rfl ?_
  refine k_i2l (q := 8) C dL_reading_7 rfl ?_
  refine k_last (q := 9) (w2 := ([(ob, .inl (cy 4, 1, .inr (.inl (vp_updL ou 0 ((sRn lit h t s g n x).toInt64)))))] ++ ((wXo b cy (a 0) r nx sn ln (svOf sk) (kpOf sk) ik bf ++ wRd r kd hg nu dg ng tk) ++ (wSky a cy n lit h t s g kn lo lf nm ++ wOth sk cy S)))) C 0 rfl (vp_in_nI (n := 0) (by decide) (by decide)) rfl dL_reading_8 rfl ?_
  refine k_goto (q := 15) C dL_reading_9 (by decide) ?_
  refine k_iconst (q := 16) (v := 0) C dL_reading_15 (by decide) rfl ?_
  exact k_finL E (by decide) (by decide) dL_reading_16 (rfl) (rfl)
set_option maxHeartbeats 4000000 in
set_option maxRecDepth 100000 in
theorem c_L_reading_e (cy : Nat → ClassId) (a : Nat → Nat) (b : Nat → Nat) (r : Nat) (nx : Nat) (sn : Nat) (ln : Nat) (sk : Nat → Nat → Nat) (S : Nat → CK) (ik : Nat → Int32) (bf : Nat → Nat) (kd : Nat) (hg : Nat) (nu : Nat) (dg : Nat) (ng : Bool) (tk : Bool) (n : Nat) (lit : Int32) (h : Nat → Int32) (t : Nat → Int32) (s : Nat → Int32) (g : Nat → Int32) (kn : Nat) (lo : Int32) (lf : Int32) (nm : Nat → Int32) (ob : Nat) (ou : Nat → Int64) (x : Int32)  (hx : ¬ (0 ≤ x ∧ x ≤ 3)) : kIl yL_reading wsL_reading rm_L_reading cy [.ref (b 0), .int x, .ref ob] ([(ob, .inl (cy 4, 1, .inr (.inl ou)))] ++ ((wXo b cy (a 0) r nx sn ln (svOf sk) (kpOf sk) ik bf ++ wRd r kd hg nu dg ng tk) ++ (wSky a cy n lit h t s g kn lo lf nm ++ wOth sk cy S))) 1 ([(ob, .inl (cy 4, 1, .inr (.inl ou)))] ++ ((wXo b cy (a 0) r nx sn ln (svOf sk) (kpOf sk) ik bf ++ wRd r kd hg nu dg ng tk) ++ (wSky a cy n lit h t s g kn lo lf nm ++ wOth sk cy S))) := by
  refine kIl_of (cc := cL_reading) (maxL := 4) (by decide) rfl (Nat.le_of_ble_eq_true rfl) ?_
  intro X hR C Z hst htb E
  have C : kC X 4 RL cL_reading wsL_reading cy := C
  refine k_fr (fr2 := [(0, .ref (b 0)), (1, .int x), (2, .ref ob)]) ⟨[0, 1, 2], rfl⟩ ?_
  refine k_aload_n (q := 1) C 2 dL_reading_0 rfl rfl ?_
  refine k_iconst (q := 2) (v := 0) C dL_reading_1 (by decide) rfl ?_
  refine k_aload_n (q := 3) C 0 dL_reading_2 rfl rfl ?_
  refine k_iload_n (q := 4) C 1 dL_reading_3 rfl rfl ?_
  refine k_callVE (n := 1) (q := 12) (pre := ([(ob, .inl (cy 4, 1, .inr (.inl ou)))] : va_W)) (post := ([] : va_W)) (w2 := ([(ob, .inl (cy 4, 1, .inr (.inl ou)))] ++ ((wXo b cy (a 0) r nx sn ln (svOf sk) (kpOf sk) ik bf ++ wRd r kd hg nu dg ng tk) ++ (wSky a cy n lit h t s g kn lo lf nm ++ wOth sk cy S)))) (As := [.int x]) (rest := [.int 0, .ref ob]) C Z hst (c_X3_reading_e cy a b r nx sn ln (svOf sk) (kpOf sk) ik bf kd hg nu dg ng tk n lit h t s g kn lo lf nm (wOth sk cy S) x hx) gL_reading_X3_reading rfl rfl rfl (by decide +kernel) (k_room hR (by decide)) (k_cells hR (by decide)) (ci := 3) rfl 0 rfl rfl rfl (Nat.le_of_ble_eq_true rfl) (k_pre) (k_pre.symm) dL_reading_4 htb [] ⟨0, 9, 12, 13⟩ [] rfl (fun _ h => absurd h List.not_mem_nil) rfl (by decide) (List.mem_of_getElem? (i := 1) rfl) (List.mem_of_getElem? (i := 0) rfl) rfl (fun q9 => ?_)
  refine k_astore_n (q := 13) (fr2 := [(3, .ref q9), (0, .ref (b 0)), (1, .int x), (2, .ref ob)]) C dL_reading_12 (by decide) rfl rfl ?_
  refine k_iconst (q := 14) (v := 1) C dL_reading_13 (by decide) rfl ?_
  exact k_finL E (by decide) (by decide) dL_reading_14 (rfl) (rfl)
abbrev rm_L_night : Room := { frames := 7, cells := 1, slots := 6, locals := 104 }
theorem in0_L_night : ∀ w ∈ wsX00, w ∈ wsL_night := fun _ h => (List.mem_cons_of_mem _ (List.mem_append_left _ (List.mem_append_right _ h)))
theorem in2_L_night : ∀ w ∈ wsX20, w ∈ wsL_night := fun _ h => (List.mem_cons_of_mem _ (List.mem_append_left _ (List.mem_append_left _ (List.mem_append_right _ h))))
theorem in3_L_night : ∀ w ∈ wsX30, w ∈ wsL_night := fun _ h => (List.mem_cons_of_mem _ (List.mem_append_left _ (List.mem_append_left _ (List.mem_append_left _ (List.mem_append_right _ h)))))
set_option maxHeartbeats 4000000 in
set_option maxRecDepth 100000 in
theorem c_L_night (cy : Nat → ClassId) (a : Nat → Nat) (b : Nat → Nat) (r : Nat) (nx : Nat) (sn : Nat) (ln : Nat) (sk : Nat → Nat → Nat) (S : Nat → CK) (ik : Nat → Int32) (bf : Nat → Nat) (kd : Nat) (hg : Nat) (nu : Nat) (dg : Nat) (ng : Bool) (tk : Bool) (n : Nat) (lit : Int32) (h : Nat → Int32) (t : Nat → Int32) (s : Nat → Int32) (g : Nat → Int32) (kn : Nat) (lo : Int32) (lf : Int32) (nm : Nat → Int32) (ob : Nat) (ou : Nat → Int64) (j : Nat) (w : Nat)  (hk : kn ≤ 8) (hw : w ≤ 3) (hj : j < 2 ^ 31) : kIl yL_night wsL_night rm_L_night cy [.ref (b 0), .int (nI j), .int (nI w), .ref ob] ([(ob, .inl (cy 4, 1, .inr (.inl ou)))] ++ ((wXo b cy (a 0) r nx sn ln (svOf sk) (kpOf sk) ik bf ++ wRd r kd hg nu dg ng tk) ++ (wSky a cy n lit h t s g kn lo lf nm ++ wOth sk cy S))) 0 ([(ob, .inl (cy 4, 1, .inr (.inl (vp_updL ou 0 (sNight kn nm j w).toInt64))))] ++ ((wXo b cy (a 0) r nx sn ln (svOf sk) (kpOf sk) ik bf ++ wRd r kd hg nu dg ng tk) ++ (wSky a cy n lit h t s g kn lo lf nm ++ wOth sk cy S))) := by
  refine kIl_of (cc := cL_night) (maxL := 5) (by decide) rfl (Nat.le_of_ble_eq_true rfl) ?_
  intro X hR C Z hst htb E
  have C : kC X 5 RL cL_night wsL_night cy := C
  refine k_fr (fr2 := [(0, .ref (b 0)), (1, .int (nI j)), (2, .int (nI w)), (3, .ref ob)]) ⟨[0, 1, 2, 3], rfl⟩ ?_
  refine k_aload_n (q := 1) C 3 dL_night_0 rfl rfl ?_
  refine k_iconst (q := 2) (v := 0) C dL_night_1 (by decide) rfl ?_
  refine k_aload_n (q := 3) C 0 dL_night_2 rfl rfl ?_
  refine k_iload_n (q := 4) C 1 dL_night_3 rfl rfl ?_
  refine k_iload_n (q := 5) C 2 dL_night_4 rfl rfl ?_
  refine k_callVI (n := 2) (q := 8) (pre := ([(ob, .inl (cy 4, 1, .inr (.inl ou)))] : va_W)) (post := ([] : va_W)) (w2 := ([(ob, .inl (cy 4, 1, .inr (.inl ou)))] ++ ((wXo b cy (a 0) r nx sn ln (svOf sk) (kpOf sk) ik bf ++ wRd r kd hg nu dg ng tk) ++ (wSky a cy n lit h t s g kn lo lf nm ++ wOth sk cy S)))) (As := [.int (nI j), .int (nI w)]) (rest := [.int 0, .ref ob]) C (c_X3_night cy a b r nx sn ln (svOf sk) (kpOf sk) ik bf kd hg nu dg ng tk n lit h t s g kn lo lf nm (wOth sk cy S) j w hk hw hj) gL_night_X3_night rfl rfl rfl (by decide +kernel) (k_room hR (by decide)) ⟨Nat.zero_le _, Nat.zero_le _⟩ (ci := 3) rfl 0 rfl rfl rfl (Nat.le_of_ble_eq_true rfl) (k_pre) (k_pre.symm) dL_night_5 rfl ?_
  refine k_i2l (q := 9) C dL_night_8 rfl ?_
  refine k_last (q := 10) (w2 := ([(ob, .inl (cy 4, 1, .inr (.inl (vp_updL ou 0 ((sNight kn nm j w).toInt64)))))] ++ ((wXo b cy (a 0) r nx sn ln (svOf sk) (kpOf sk) ik bf ++ wRd r kd hg nu dg ng tk) ++ (wSky a cy n lit h t s g kn lo lf nm ++ wOth sk cy S)))) C 0 rfl (vp_in_nI (n := 0) (by decide) (by decide)) rfl dL_night_9 rfl ?_
  refine k_goto (q := 17) C dL_night_10 (by decide) ?_
  refine k_iconst (q := 18) (v := 0) C dL_night_17 (by decide) rfl ?_
  exact k_finL E (by decide) (by decide) dL_night_18 (rfl) (rfl)
set_option maxHeartbeats 4000000 in
set_option maxRecDepth 100000 in
theorem c_L_night_e (cy : Nat → ClassId) (a : Nat → Nat) (b : Nat → Nat) (r : Nat) (nx : Nat) (sn : Nat) (ln : Nat) (sk : Nat → Nat → Nat) (S : Nat → CK) (ik : Nat → Int32) (bf : Nat → Nat) (kd : Nat) (hg : Nat) (nu : Nat) (dg : Nat) (ng : Bool) (tk : Bool) (n : Nat) (lit : Int32) (h : Nat → Int32) (t : Nat → Int32) (s : Nat → Int32) (g : Nat → Int32) (kn : Nat) (lo : Int32) (lf : Int32) (nm : Nat → Int32) (ob : Nat) (ou : Nat → Int64) (x : Int32) (y : Int32)  (hx : x < 0 ∨ ¬ (0 ≤ y ∧ y ≤ 3)) : kIl yL_night wsL_night rm_L_night cy [.ref (b 0), .int x, .int y, .ref ob] ([(ob, .inl (cy 4, 1, .inr (.inl ou)))] ++ ((wXo b cy (a 0) r nx sn ln (svOf sk) (kpOf sk) ik bf ++ wRd r kd hg nu dg ng tk) ++ (wSky a cy n lit h t s g kn lo lf nm ++ wOth sk cy S))) 1 ([(ob, .inl (cy 4, 1, .inr (.inl ou)))] ++ ((wXo b cy (a 0) r nx sn ln (svOf sk) (kpOf sk) ik bf ++ wRd r kd hg nu dg ng tk) ++ (wSky a cy n lit h t s g kn lo lf nm ++ wOth sk cy S))) := by
  refine kIl_of (cc := cL_night) (maxL := 5) (by decide) rfl (Nat.le_of_ble_eq_true rfl) ?_
  intro X hR C Z hst htb E
  have C : kC X 5 RL cL_night wsL_night cy := C
  refine k_fr (fr2 := [(0, .ref (b 0)), (1, .int x), (2, .int y), (3, .ref ob)]) ⟨[0, 1, 2, 3], rfl⟩ ?_
  refine k_aload_n (q := 1) C 3 dL_night_0 rfl rfl ?_
  refine k_iconst (q := 2) (v := 0) C dL_night_1 (by decide) rfl ?_
  refine k_aload_n (q := 3) C 0 dL_night_2 rfl rfl ?_
  refine k_iload_n (q := 4) C 1 dL_night_3 rfl rfl ?_
  refine k_iload_n (q := 5) C 2 dL_night_4 rfl rfl ?_
  refine k_callVE (n := 2) (q := 13) (pre := ([(ob, .inl (cy 4, 1, .inr (.inl ou)))] : va_W)) (post := ([] : va_W)) (w2 := ([(ob, .inl (cy 4, 1, .inr (.inl ou)))] ++ ((wXo b cy (a 0) r nx sn ln (svOf sk) (kpOf sk) ik bf ++ wRd r kd hg nu dg ng tk) ++ (wSky a cy n lit h t s g kn lo lf nm ++ wOth sk cy S)))) (As := [.int x, .int y]) (rest := [.int 0, .ref ob]) C Z hst (c_X3_night_e cy a b r nx sn ln (svOf sk) (kpOf sk) ik bf kd hg nu dg ng tk n lit h t s g kn lo lf nm (wOth sk cy S) x y hx) gL_night_X3_night rfl rfl rfl (by decide +kernel) (k_room hR (by decide)) (k_cells hR (by decide)) (ci := 3) rfl 0 rfl rfl rfl (Nat.le_of_ble_eq_true rfl) (k_pre) (k_pre.symm) dL_night_5 htb [] ⟨0, 10, 13, 13⟩ [] rfl (fun _ h => absurd h List.not_mem_nil) rfl (by decide) (List.mem_of_getElem? (i := 1) rfl) (List.mem_of_getElem? (i := 0) rfl) rfl (fun q9 => ?_)
  refine k_astore (q := 15) (fr2 := [(4, .ref q9), (0, .ref (b 0)), (1, .int x), (2, .int y), (3, .ref ob)]) C dL_night_13 (by decide) rfl rfl ?_
  refine k_iconst (q := 16) (v := 1) C dL_night_15 (by decide) rfl ?_
  exact k_finL E (by decide) (by decide) dL_night_16 (rfl) (rfl)
abbrev rm_L_count : Room := { frames := 7, cells := 1, slots := 6, locals := 155 }
theorem in0_L_count : ∀ w ∈ wsX00, w ∈ wsL_count := fun _ h => (List.mem_cons_of_mem _ (List.mem_append_left _ (List.mem_append_right _ h)))
theorem in2_L_count : ∀ w ∈ wsX20, w ∈ wsL_count := fun _ h => (List.mem_cons_of_mem _ (List.mem_append_left _ (List.mem_append_left _ (List.mem_append_right _ h))))
theorem in3_L_count : ∀ w ∈ wsX30, w ∈ wsL_count := fun _ h => (List.mem_cons_of_mem _ (List.mem_append_left _ (List.mem_append_left _ (List.mem_append_left _ (List.mem_append_right _ h)))))
set_option maxHeartbeats 4000000 in
set_option maxRecDepth 100000 in
theorem c_L_count (cy : Nat → ClassId) (a : Nat → Nat) (b : Nat → Nat) (r : Nat) (nx : Nat) (sn : Nat) (ln : Nat) (sk : Nat → Nat → Nat) (S : Nat → CK) (ik : Nat → Int32) (bf : Nat → Nat) (kd : Nat) (hg : Nat) (nu : Nat) (dg : Nat) (ng : Bool) (tk : Bool) (n : Nat) (lit : Int32) (h : Nat → Int32) (t : Nat → Int32) (s : Nat → Int32) (g : Nat → Int32) (kn : Nat) (lo : Int32) (lf : Int32) (nm : Nat → Int32) (ob : Nat) (ou : Nat → Int64) (w : Nat)  (hn : n ≤ 6) (hw : w ≤ 16) : kIl yL_count wsL_count rm_L_count cy [.ref (b 0), .int (nI w), .ref ob] ([(ob, .inl (cy 4, 1, .inr (.inl ou)))] ++ ((wXo b cy (a 0) r nx sn ln (svOf sk) (kpOf sk) ik bf ++ wRd r kd hg nu dg ng tk) ++ (wSky a cy n lit h t s g kn lo lf nm ++ wOth sk cy S))) 0 ([(ob, .inl (cy 4, 1, .inr (.inl (vp_updL ou 0 (xTc sn ln n lit h t s g kn lo lf w).toInt64))))] ++ ((wXo b cy (a 0) r nx sn ln (svOf sk) (kpOf sk) ik bf ++ wRd r kd hg nu dg ng tk) ++ (wSky a cy n lit h t s g kn lo lf nm ++ wOth sk cy S))) := by
  refine kIl_of (cc := cL_count) (maxL := 4) (by decide) rfl (Nat.le_of_ble_eq_true rfl) ?_
  intro X hR C Z hst htb E
  have C : kC X 4 RL cL_count wsL_count cy := C
  refine k_fr (fr2 := [(0, .ref (b 0)), (1, .int (nI w)), (2, .ref ob)]) ⟨[0, 1, 2], rfl⟩ ?_
  refine k_aload_n (q := 1) C 2 dL_count_0 rfl rfl ?_
  refine k_iconst (q := 2) (v := 0) C dL_count_1 (by decide) rfl ?_
  refine k_aload_n (q := 3) C 0 dL_count_2 rfl rfl ?_
  refine k_iload_n (q := 4) C 1 dL_count_3 rfl rfl ?_
  refine k_callVI (n := 1) (q := 7) (pre := ([(ob, .inl (cy 4, 1, .inr (.inl ou)))] : va_W)) (post := ([] : va_W)) (w2 := ([(ob, .inl (cy 4, 1, .inr (.inl ou)))] ++ ((wXo b cy (a 0) r nx sn ln (svOf sk) (kpOf sk) ik bf ++ wRd r kd hg nu dg ng tk) ++ (wSky a cy n lit h t s g kn lo lf nm ++ wOth sk cy S)))) (As := [.int (nI w)]) (rest := [.int 0, .ref ob]) C (c_X3_count cy a b r nx sn ln (svOf sk) (kpOf sk) ik bf kd hg nu dg ng tk n lit h t s g kn lo lf nm (wOth sk cy S) w hn hw) gL_count_X3_count rfl rfl rfl (by decide +kernel) (k_room hR (by decide)) ⟨Nat.zero_le _, Nat.zero_le _⟩ (ci := 3) rfl 0 rfl rfl rfl (Nat.le_of_ble_eq_true rfl) (k_pre) (k_pre.symm) dL_count_4 rfl ?_
  refine k_i2l (q := 8) C dL_count_7 rfl ?_
  refine k_last (q := 9) (w2 := ([(ob, .inl (cy 4, 1, .inr (.inl (vp_updL ou 0 ((xTc sn ln n lit h t s g kn lo lf w).toInt64)))))] ++ ((wXo b cy (a 0) r nx sn ln (svOf sk) (kpOf sk) ik bf ++ wRd r kd hg nu dg ng tk) ++ (wSky a cy n lit h t s g kn lo lf nm ++ wOth sk cy S)))) C 0 rfl (vp_in_nI (n := 0) (by decide) (by decide)) rfl dL_count_8 rfl ?_
  refine k_goto (q := 15) C dL_count_9 (by decide) ?_
  refine k_iconst (q := 16) (v := 0) C dL_count_15 (by decide) rfl ?_
  exact k_finL E (by decide) (by decide) dL_count_16 (rfl) (rfl)
set_option maxHeartbeats 4000000 in
set_option maxRecDepth 100000 in
theorem c_L_count_e (cy : Nat → ClassId) (a : Nat → Nat) (b : Nat → Nat) (r : Nat) (nx : Nat) (sn : Nat) (ln : Nat) (sk : Nat → Nat → Nat) (S : Nat → CK) (ik : Nat → Int32) (bf : Nat → Nat) (kd : Nat) (hg : Nat) (nu : Nat) (dg : Nat) (ng : Bool) (tk : Bool) (n : Nat) (lit : Int32) (h : Nat → Int32) (t : Nat → Int32) (s : Nat → Int32) (g : Nat → Int32) (kn : Nat) (lo : Int32) (lf : Int32) (nm : Nat → Int32) (ob : Nat) (ou : Nat → Int64) (x : Int32)  (hy : ¬ (0 ≤ x ∧ x ≤ 16)) : kIl yL_count wsL_count rm_L_count cy [.ref (b 0), .int x, .ref ob] ([(ob, .inl (cy 4, 1, .inr (.inl ou)))] ++ ((wXo b cy (a 0) r nx sn ln (svOf sk) (kpOf sk) ik bf ++ wRd r kd hg nu dg ng tk) ++ (wSky a cy n lit h t s g kn lo lf nm ++ wOth sk cy S))) 1 ([(ob, .inl (cy 4, 1, .inr (.inl ou)))] ++ ((wXo b cy (a 0) r nx sn ln (svOf sk) (kpOf sk) ik bf ++ wRd r kd hg nu dg ng tk) ++ (wSky a cy n lit h t s g kn lo lf nm ++ wOth sk cy S))) := by
  refine kIl_of (cc := cL_count) (maxL := 4) (by decide) rfl (Nat.le_of_ble_eq_true rfl) ?_
  intro X hR C Z hst htb E
  have C : kC X 4 RL cL_count wsL_count cy := C
  refine k_fr (fr2 := [(0, .ref (b 0)), (1, .int x), (2, .ref ob)]) ⟨[0, 1, 2], rfl⟩ ?_
  refine k_aload_n (q := 1) C 2 dL_count_0 rfl rfl ?_
  refine k_iconst (q := 2) (v := 0) C dL_count_1 (by decide) rfl ?_
  refine k_aload_n (q := 3) C 0 dL_count_2 rfl rfl ?_
  refine k_iload_n (q := 4) C 1 dL_count_3 rfl rfl ?_
  refine k_callVE (n := 1) (q := 12) (pre := ([(ob, .inl (cy 4, 1, .inr (.inl ou)))] : va_W)) (post := ([] : va_W)) (w2 := ([(ob, .inl (cy 4, 1, .inr (.inl ou)))] ++ ((wXo b cy (a 0) r nx sn ln (svOf sk) (kpOf sk) ik bf ++ wRd r kd hg nu dg ng tk) ++ (wSky a cy n lit h t s g kn lo lf nm ++ wOth sk cy S)))) (As := [.int x]) (rest := [.int 0, .ref ob]) C Z hst (c_X3_count_e cy a b r nx sn ln (svOf sk) (kpOf sk) ik bf kd hg nu dg ng tk n lit h t s g kn lo lf nm (wOth sk cy S) x hy) gL_count_X3_count rfl rfl rfl (by decide +kernel) (k_room hR (by decide)) (k_cells hR (by decide)) (ci := 3) rfl 0 rfl rfl rfl (Nat.le_of_ble_eq_true rfl) (k_pre) (k_pre.symm) dL_count_4 htb [] ⟨0, 9, 12, 13⟩ [] rfl (fun _ h => absurd h List.not_mem_nil) rfl (by decide) (List.mem_of_getElem? (i := 1) rfl) (List.mem_of_getElem? (i := 0) rfl) rfl (fun q9 => ?_)
  refine k_astore_n (q := 13) (fr2 := [(3, .ref q9), (0, .ref (b 0)), (1, .int x), (2, .ref ob)]) C dL_count_12 (by decide) rfl rfl ?_
  refine k_iconst (q := 14) (v := 1) C dL_count_13 (by decide) rfl ?_
  exact k_finL E (by decide) (by decide) dL_count_14 (rfl) (rfl)
abbrev rm_L_nearest : Room := { frames := 7, cells := 1, slots := 6, locals := 106 }
theorem in2_L_nearest : ∀ w ∈ wsX20, w ∈ wsL_nearest := fun _ h => (List.mem_cons_of_mem _ (List.mem_append_left _ (List.mem_append_left _ (List.mem_append_right _ h))))
theorem in3_L_nearest : ∀ w ∈ wsX30, w ∈ wsL_nearest := fun _ h => (List.mem_cons_of_mem _ (List.mem_append_left _ (List.mem_append_left _ (List.mem_append_left _ (List.mem_append_right _ h)))))
set_option maxHeartbeats 4000000 in
set_option maxRecDepth 100000 in
theorem c_L_nearest (cy : Nat → ClassId) (a : Nat → Nat) (b : Nat → Nat) (r : Nat) (nx : Nat) (sn : Nat) (ln : Nat) (sk : Nat → Nat → Nat) (S : Nat → CK) (ik : Nat → Int32) (bf : Nat → Nat) (kd : Nat) (hg : Nat) (nu : Nat) (dg : Nat) (ng : Bool) (tk : Bool) (n : Nat) (lit : Int32) (h : Nat → Int32) (t : Nat → Int32) (s : Nat → Int32) (g : Nat → Int32) (kn : Nat) (lo : Int32) (lf : Int32) (nm : Nat → Int32) (ob : Nat) (ou : Nat → Int64) (j : Nat) (p : Nat) (z : Int32)  (hn : n ≤ 6) (hj : j < 2) (hp : p < n) (hz : z = 0 ∨ z = 1) (hh : 0 < h p) : kIl yL_nearest wsL_nearest rm_L_nearest cy [.ref (b 0), .int (nI j), .int (nI p), .int z, .ref ob] ([(ob, .inl (cy 4, 1, .inr (.inl ou)))] ++ ((wXo b cy (a 0) r nx sn ln (svOf sk) (kpOf sk) ik bf ++ wRd r kd hg nu dg ng tk) ++ (wSky a cy n lit h t s g kn lo lf nm ++ wOth sk cy S))) 0 ([(ob, .inl (cy 4, 1, .inr (.inl (vp_updL ou 0 ((if z = 0 then iI (sTry g h s j p) else iI (sCmp g h s j p)) + 100).toInt64))))] ++ ((wXo b cy (a 0) r nx sn ln (svOf sk) (kpOf sk) ik bf ++ wRd r kd hg nu dg ng tk) ++ (wSky a cy n lit h t s g kn lo lf nm ++ wOth sk cy S))) := by
  refine kIl_of (cc := cL_nearest) (maxL := 6) (by decide) rfl (Nat.le_of_ble_eq_true rfl) ?_
  intro X hR C Z hst htb E
  have C : kC X 6 RL cL_nearest wsL_nearest cy := C
  refine k_fr (fr2 := [(0, .ref (b 0)), (1, .int (nI j)), (2, .int (nI p)), (3, .int z), (4, .ref ob)]) ⟨[0, 1, 2, 3, 4], rfl⟩ ?_
  refine k_aload (q := 2) C 4 dL_nearest_0 rfl rfl ?_
  refine k_iconst (q := 3) (v := 0) C dL_nearest_2 (by decide) rfl ?_
  refine k_aload_n (q := 4) C 0 dL_nearest_3 rfl rfl ?_
  refine k_iload_n (q := 5) C 1 dL_nearest_4 rfl rfl ?_
  refine k_iload_n (q := 6) C 2 dL_nearest_5 rfl rfl ?_
  refine k_iload_n (q := 7) C 3 dL_nearest_6 rfl rfl ?_
  refine k_callVI (n := 3) (q := 10) (pre := ([(ob, .inl (cy 4, 1, .inr (.inl ou)))] : va_W)) (post := ([] : va_W)) (w2 := ([(ob, .inl (cy 4, 1, .inr (.inl ou)))] ++ ((wXo b cy (a 0) r nx sn ln (svOf sk) (kpOf sk) ik bf ++ wRd r kd hg nu dg ng tk) ++ (wSky a cy n lit h t s g kn lo lf nm ++ wOth sk cy S)))) (As := [.int (nI j), .int (nI p), .int z]) (rest := [.int 0, .ref ob]) C (c_X3_nearest cy a b r nx sn ln (svOf sk) (kpOf sk) ik bf kd hg nu dg ng tk n lit h t s g kn lo lf nm (wOth sk cy S) j p z hn hj hp hz hh) gL_nearest_X3_nearest rfl rfl rfl (by decide +kernel) (k_room hR (by decide)) ⟨Nat.zero_le _, Nat.zero_le _⟩ (ci := 3) rfl 0 rfl rfl rfl (Nat.le_of_ble_eq_true rfl) (k_pre) (k_pre.symm) dL_nearest_7 rfl ?_
  refine k_i2l (q := 11) C dL_nearest_10 rfl ?_
  refine k_last (q := 12) (w2 := ([(ob, .inl (cy 4, 1, .inr (.inl (vp_updL ou 0 (((if z = 0 then iI (sTry g h s j p) else iI (sCmp g h s j p)) + 100).toInt64)))))] ++ ((wXo b cy (a 0) r nx sn ln (svOf sk) (kpOf sk) ik bf ++ wRd r kd hg nu dg ng tk) ++ (wSky a cy n lit h t s g kn lo lf nm ++ wOth sk cy S)))) C 0 rfl (vp_in_nI (n := 0) (by decide) (by decide)) rfl dL_nearest_11 rfl ?_
  refine k_goto (q := 23) C dL_nearest_12 (by decide) ?_
  refine k_iconst (q := 24) (v := 0) C dL_nearest_23 (by decide) rfl ?_
  exact k_finL E (by decide) (by decide) dL_nearest_24 (rfl) (rfl)
set_option maxHeartbeats 4000000 in
set_option maxRecDepth 100000 in
theorem c_L_nearest_e (cy : Nat → ClassId) (a : Nat → Nat) (b : Nat → Nat) (r : Nat) (nx : Nat) (sn : Nat) (ln : Nat) (sk : Nat → Nat → Nat) (S : Nat → CK) (ik : Nat → Int32) (bf : Nat → Nat) (kd : Nat) (hg : Nat) (nu : Nat) (dg : Nat) (ng : Bool) (tk : Bool) (n : Nat) (lit : Int32) (h : Nat → Int32) (t : Nat → Int32) (s : Nat → Int32) (g : Nat → Int32) (kn : Nat) (lo : Int32) (lf : Int32) (nm : Nat → Int32) (ob : Nat) (ou : Nat → Int64) (x : Int32) (y : Int32) (z : Int32)  (hx : ¬ ((0 ≤ x ∧ x ≤ 1) ∧ (0 ≤ y ∧ y < nI n))) : kIl yL_nearest wsL_nearest rm_L_nearest cy [.ref (b 0), .int x, .int y, .int z, .ref ob] ([(ob, .inl (cy 4, 1, .inr (.inl ou)))] ++ ((wXo b cy (a 0) r nx sn ln (svOf sk) (kpOf sk) ik bf ++ wRd r kd hg nu dg ng tk) ++ (wSky a cy n lit h t s g kn lo lf nm ++ wOth sk cy S))) 1 ([(ob, .inl (cy 4, 1, .inr (.inl ou)))] ++ ((wXo b cy (a 0) r nx sn ln (svOf sk) (kpOf sk) ik bf ++ wRd r kd hg nu dg ng tk) ++ (wSky a cy n lit h t s g kn lo lf nm ++ wOth sk cy S))) := by
  refine kIl_of (cc := cL_nearest) (maxL := 6) (by decide) rfl (Nat.le_of_ble_eq_true rfl) ?_
  intro X hR C Z hst htb E
  have C : kC X 6 RL cL_nearest wsL_nearest cy := C
  refine k_fr (fr2 := [(0, .ref (b 0)), (1, .int x), (2, .int y), (3, .int z), (4, .ref ob)]) ⟨[0, 1, 2, 3, 4], rfl⟩ ?_
  refine k_aload (q := 2) C 4 dL_nearest_0 rfl rfl ?_
  refine k_iconst (q := 3) (v := 0) C dL_nearest_2 (by decide) rfl ?_
  refine k_aload_n (q := 4) C 0 dL_nearest_3 rfl rfl ?_
  refine k_iload_n (q := 5) C 1 dL_nearest_4 rfl rfl ?_
  refine k_iload_n (q := 6) C 2 dL_nearest_5 rfl rfl ?_
  refine k_iload_n (q := 7) C 3 dL_nearest_6 rfl rfl ?_
  refine k_callVE (n := 3) (q := 15) (pre := ([(ob, .inl (cy 4, 1, .inr (.inl ou)))] : va_W)) (post := ([] : va_W)) (w2 := ([(ob, .inl (cy 4, 1, .inr (.inl ou)))] ++ ((wXo b cy (a 0) r nx sn ln (svOf sk) (kpOf sk) ik bf ++ wRd r kd hg nu dg ng tk) ++ (wSky a cy n lit h t s g kn lo lf nm ++ wOth sk cy S)))) (As := [.int x, .int y, .int z]) (rest := [.int 0, .ref ob]) C Z hst (c_X3_nearest_e cy a b r nx sn ln (svOf sk) (kpOf sk) ik bf kd hg nu dg ng tk n lit h t s g kn lo lf nm (wOth sk cy S) x y z hx) gL_nearest_X3_nearest rfl rfl rfl (by decide +kernel) (k_room hR (by decide)) (k_cells hR (by decide)) (ci := 3) rfl 0 rfl rfl rfl (Nat.le_of_ble_eq_true rfl) (k_pre) (k_pre.symm) dL_nearest_7 htb [] ⟨0, 12, 15, 21⟩ [⟨0, 12, 19, 13⟩] rfl (fun _ h => absurd h List.not_mem_nil) rfl (by decide) (List.mem_of_getElem? (i := 1) rfl) (List.mem_of_getElem? (i := 2) rfl) rfl (fun q9 => ?_)
  refine k_astore (q := 17) (fr2 := [(5, .ref q9), (0, .ref (b 0)), (1, .int x), (2, .int y), (3, .int z), (4, .ref ob)]) C dL_nearest_15 (by decide) rfl rfl ?_
  refine k_iconst (q := 18) (v := 1) C dL_nearest_17 (by decide) rfl ?_
  exact k_finL E (by decide) (by decide) dL_nearest_18 (rfl) (rfl)
set_option maxHeartbeats 4000000 in
set_option maxRecDepth 100000 in
theorem c_L_nearest_e2 (cy : Nat → ClassId) (a : Nat → Nat) (b : Nat → Nat) (r : Nat) (nx : Nat) (sn : Nat) (ln : Nat) (sk : Nat → Nat → Nat) (S : Nat → CK) (ik : Nat → Int32) (bf : Nat → Nat) (kd : Nat) (hg : Nat) (nu : Nat) (dg : Nat) (ng : Bool) (tk : Bool) (n : Nat) (lit : Int32) (h : Nat → Int32) (t : Nat → Int32) (s : Nat → Int32) (g : Nat → Int32) (kn : Nat) (lo : Int32) (lf : Int32) (nm : Nat → Int32) (ob : Nat) (ou : Nat → Int64) (j : Nat) (p : Nat) (z : Int32)  (hn : n ≤ 6) (hj : j < 2) (hp : p < n) (hz : ¬ (z = 0 ∨ z = 1)) : kIl yL_nearest wsL_nearest rm_L_nearest cy [.ref (b 0), .int (nI j), .int (nI p), .int z, .ref ob] ([(ob, .inl (cy 4, 1, .inr (.inl ou)))] ++ ((wXo b cy (a 0) r nx sn ln (svOf sk) (kpOf sk) ik bf ++ wRd r kd hg nu dg ng tk) ++ (wSky a cy n lit h t s g kn lo lf nm ++ wOth sk cy S))) 2 ([(ob, .inl (cy 4, 1, .inr (.inl ou)))] ++ ((wXo b cy (a 0) r nx sn ln (svOf sk) (kpOf sk) ik bf ++ wRd r kd hg nu dg ng tk) ++ (wSky a cy n lit h t s g kn lo lf nm ++ wOth sk cy S))) := by
  refine kIl_of (cc := cL_nearest) (maxL := 6) (by decide) rfl (Nat.le_of_ble_eq_true rfl) ?_
  intro X hR C Z hst htb E
  have C : kC X 6 RL cL_nearest wsL_nearest cy := C
  refine k_fr (fr2 := [(0, .ref (b 0)), (1, .int (nI j)), (2, .int (nI p)), (3, .int z), (4, .ref ob)]) ⟨[0, 1, 2, 3, 4], rfl⟩ ?_
  refine k_aload (q := 2) C 4 dL_nearest_0 rfl rfl ?_
  refine k_iconst (q := 3) (v := 0) C dL_nearest_2 (by decide) rfl ?_
  refine k_aload_n (q := 4) C 0 dL_nearest_3 rfl rfl ?_
  refine k_iload_n (q := 5) C 1 dL_nearest_4 rfl rfl ?_
  refine k_iload_n (q := 6) C 2 dL_nearest_5 rfl rfl ?_
  refine k_iload_n (q := 7) C 3 dL_nearest_6 rfl rfl ?_
  refine k_callVE (n := 3) (q := 19) (pre := ([(ob, .inl (cy 4, 1, .inr (.inl ou)))] : va_W)) (post := ([] : va_W)) (w2 := ([(ob, .inl (cy 4, 1, .inr (.inl ou)))] ++ ((wXo b cy (a 0) r nx sn ln (svOf sk) (kpOf sk) ik bf ++ wRd r kd hg nu dg ng tk) ++ (wSky a cy n lit h t s g kn lo lf nm ++ wOth sk cy S)))) (As := [.int (nI j), .int (nI p), .int z]) (rest := [.int 0, .ref ob]) C Z hst (c_X3_nearest_e2 cy a b r nx sn ln (svOf sk) (kpOf sk) ik bf kd hg nu dg ng tk n lit h t s g kn lo lf nm (wOth sk cy S) j p z hn hj hp hz) gL_nearest_X3_nearest rfl rfl rfl (by decide +kernel) (k_room hR (by decide)) (k_cells hR (by decide)) (ci := 3) rfl 0 rfl rfl rfl (Nat.le_of_ble_eq_true rfl) (k_pre) (k_pre.symm) dL_nearest_7 htb [⟨0, 12, 15, 21⟩] ⟨0, 12, 19, 13⟩ [] rfl (fun z hz => by rw [List.mem_singleton.mp hz]; exact Or.inr ⟨by decide, "java/lang/IndexOutOfBoundsException", (List.mem_of_getElem? (i := 1) rfl), Z.2.2.2.2.2.2.2⟩) rfl (by decide) (List.mem_of_getElem? (i := 2) rfl) (List.mem_of_getElem? (i := 0) rfl) rfl (fun q9 => ?_)
  refine k_astore (q := 21) (fr2 := [(5, .ref q9), (0, .ref (b 0)), (1, .int (nI j)), (2, .int (nI p)), (3, .int z), (4, .ref ob)]) C dL_nearest_19 (by decide) rfl rfl ?_
  refine k_iconst (q := 22) (v := 2) C dL_nearest_21 (by decide) rfl ?_
  exact k_finL E (by decide) (by decide) dL_nearest_22 (rfl) (rfl)
abbrev rm_L_ifScanned : Room := { frames := 7, cells := 1, slots := 6, locals := 146 }
theorem in2_L_ifScanned : ∀ w ∈ wsX20, w ∈ wsL_ifScanned := fun _ h => (List.mem_cons_of_mem _ (List.mem_append_left _ (List.mem_append_left _ (List.mem_append_right _ h))))
theorem in3_L_ifScanned : ∀ w ∈ wsX30, w ∈ wsL_ifScanned := fun _ h => (List.mem_cons_of_mem _ (List.mem_append_left _ (List.mem_append_left _ (List.mem_append_left _ (List.mem_append_right _ h)))))
set_option maxHeartbeats 4000000 in
set_option maxRecDepth 100000 in
theorem c_L_ifScanned (cy : Nat → ClassId) (a : Nat → Nat) (b : Nat → Nat) (r : Nat) (nx : Nat) (sn : Nat) (ln : Nat) (sk : Nat → Nat → Nat) (S : Nat → CK) (ik : Nat → Int32) (bf : Nat → Nat) (kd : Nat) (hg : Nat) (nu : Nat) (dg : Nat) (ng : Bool) (tk : Bool) (n : Nat) (lit : Int32) (h : Nat → Int32) (t : Nat → Int32) (s : Nat → Int32) (g : Nat → Int32) (kn : Nat) (lo : Int32) (lf : Int32) (nm : Nat → Int32) (ob : Nat) (ou : Nat → Int64) (j : Nat) (w : Nat)  (hn : n ≤ 6) (hj : j < 2) (hw : w ≤ 3) : kIl yL_ifScanned wsL_ifScanned rm_L_ifScanned cy [.ref (b 0), .int (nI j), .int (nI w), .ref ob] ([(ob, .inl (cy 4, 1, .inr (.inl ou)))] ++ ((wXo b cy (a 0) r nx sn ln (svOf sk) (kpOf sk) ik bf ++ wRd r kd hg nu dg ng tk) ++ (wSky a cy n lit h t s g kn lo lf nm ++ wOth sk cy S))) 0 ([(ob, .inl (cy 4, 1, .inr (.inl (vp_updL ou 0 (if w < 2 then nI (sCnt (fun k => sWith lit h t s g n j (decide (w = 1)) (-30 + (k : Int))) 61) else sOut lit h t s g n j (decide (w = 3))).toInt64))))] ++ ((wXo b cy (a 0) r nx sn ln (svOf sk) (kpOf sk) ik bf ++ wRd r kd hg nu dg ng tk) ++ (wSky a cy n lit h t s g kn lo lf nm ++ wOth sk cy S))) := by
  refine kIl_of (cc := cL_ifScanned) (maxL := 5) (by decide) rfl (Nat.le_of_ble_eq_true rfl) ?_
  intro X hR C Z hst htb E
  have C : kC X 5 RL cL_ifScanned wsL_ifScanned cy := C
  refine k_fr (fr2 := [(0, .ref (b 0)), (1, .int (nI j)), (2, .int (nI w)), (3, .ref ob)]) ⟨[0, 1, 2, 3], rfl⟩ ?_
  refine k_aload_n (q := 1) C 3 dL_ifScanned_0 rfl rfl ?_
  refine k_iconst (q := 2) (v := 0) C dL_ifScanned_1 (by decide) rfl ?_
  refine k_aload_n (q := 3) C 0 dL_ifScanned_2 rfl rfl ?_
  refine k_iload_n (q := 4) C 1 dL_ifScanned_3 rfl rfl ?_
  refine k_iload_n (q := 5) C 2 dL_ifScanned_4 rfl rfl ?_
  refine k_callVI (n := 2) (q := 8) (pre := ([(ob, .inl (cy 4, 1, .inr (.inl ou)))] : va_W)) (post := ([] : va_W)) (w2 := ([(ob, .inl (cy 4, 1, .inr (.inl ou)))] ++ ((wXo b cy (a 0) r nx sn ln (svOf sk) (kpOf sk) ik bf ++ wRd r kd hg nu dg ng tk) ++ (wSky a cy n lit h t s g kn lo lf nm ++ wOth sk cy S)))) (As := [.int (nI j), .int (nI w)]) (rest := [.int 0, .ref ob]) C (c_X3_ifScanned cy a b r nx sn ln (svOf sk) (kpOf sk) ik bf kd hg nu dg ng tk n lit h t s g kn lo lf nm (wOth sk cy S) j w hn hj hw) gL_ifScanned_X3_ifScanned rfl rfl rfl (by decide +kernel) (k_room hR (by decide)) ⟨Nat.zero_le _, Nat.zero_le _⟩ (ci := 3) rfl 0 rfl rfl rfl (Nat.le_of_ble_eq_true rfl) (k_pre) (k_pre.symm) dL_ifScanned_5 rfl ?_
  refine k_i2l (q := 9) C dL_ifScanned_8 rfl ?_
  refine k_last (q := 10) (w2 := ([(ob, .inl (cy 4, 1, .inr (.inl (vp_updL ou 0 ((if w < 2 then nI (sCnt (fun k => sWith lit h t s g n j (decide (w = 1)) (-30 + (k : Int))) 61) else sOut lit h t s g n j (decide (w = 3))).toInt64)))))] ++ ((wXo b cy (a 0) r nx sn ln (svOf sk) (kpOf sk) ik bf ++ wRd r kd hg nu dg ng tk) ++ (wSky a cy n lit h t s g kn lo lf nm ++ wOth sk cy S)))) C 0 rfl (vp_in_nI (n := 0) (by decide) (by decide)) rfl dL_ifScanned_9 rfl ?_
  refine k_goto (q := 21) C dL_ifScanned_10 (by decide) ?_
  refine k_iconst (q := 22) (v := 0) C dL_ifScanned_21 (by decide) rfl ?_
  exact k_finL E (by decide) (by decide) dL_ifScanned_22 (rfl) (rfl)
set_option maxHeartbeats 4000000 in
set_option maxRecDepth 100000 in
theorem c_L_ifScanned_e (cy : Nat → ClassId) (a : Nat → Nat) (b : Nat → Nat) (r : Nat) (nx : Nat) (sn : Nat) (ln : Nat) (sk : Nat → Nat → Nat) (S : Nat → CK) (ik : Nat → Int32) (bf : Nat → Nat) (kd : Nat) (hg : Nat) (nu : Nat) (dg : Nat) (ng : Bool) (tk : Bool) (n : Nat) (lit : Int32) (h : Nat → Int32) (t : Nat → Int32) (s : Nat → Int32) (g : Nat → Int32) (kn : Nat) (lo : Int32) (lf : Int32) (nm : Nat → Int32) (ob : Nat) (ou : Nat → Int64) (x : Int32) (y : Int32)  (hx : ¬ (0 ≤ x ∧ x ≤ 1)) : kIl yL_ifScanned wsL_ifScanned rm_L_ifScanned cy [.ref (b 0), .int x, .int y, .ref ob] ([(ob, .inl (cy 4, 1, .inr (.inl ou)))] ++ ((wXo b cy (a 0) r nx sn ln (svOf sk) (kpOf sk) ik bf ++ wRd r kd hg nu dg ng tk) ++ (wSky a cy n lit h t s g kn lo lf nm ++ wOth sk cy S))) 1 ([(ob, .inl (cy 4, 1, .inr (.inl ou)))] ++ ((wXo b cy (a 0) r nx sn ln (svOf sk) (kpOf sk) ik bf ++ wRd r kd hg nu dg ng tk) ++ (wSky a cy n lit h t s g kn lo lf nm ++ wOth sk cy S))) := by
  refine kIl_of (cc := cL_ifScanned) (maxL := 5) (by decide) rfl (Nat.le_of_ble_eq_true rfl) ?_
  intro X hR C Z hst htb E
  have C : kC X 5 RL cL_ifScanned wsL_ifScanned cy := C
  refine k_fr (fr2 := [(0, .ref (b 0)), (1, .int x), (2, .int y), (3, .ref ob)]) ⟨[0, 1, 2, 3], rfl⟩ ?_
  refine k_aload_n (q := 1) C 3 dL_ifScanned_0 rfl rfl ?_
  refine k_iconst (q := 2) (v := 0) C dL_ifScanned_1 (by decide) rfl ?_
  refine k_aload_n (q := 3) C 0 dL_ifScanned_2 rfl rfl ?_
  refine k_iload_n (q := 4) C 1 dL_ifScanned_3 rfl rfl ?_
  refine k_iload_n (q := 5) C 2 dL_ifScanned_4 rfl rfl ?_
  refine k_callVE (n := 2) (q := 13) (pre := ([(ob, .inl (cy 4, 1, .inr (.inl ou)))] : va_W)) (post := ([] : va_W)) (w2 := ([(ob, .inl (cy 4, 1, .inr (.inl ou)))] ++ ((wXo b cy (a 0) r nx sn ln (svOf sk) (kpOf sk) ik bf ++ wRd r kd hg nu dg ng tk) ++ (wSky a cy n lit h t s g kn lo lf nm ++ wOth sk cy S)))) (As := [.int x, .int y]) (rest := [.int 0, .ref ob]) C Z hst (c_X3_ifScanned_e cy a b r nx sn ln (svOf sk) (kpOf sk) ik bf kd hg nu dg ng tk n lit h t s g kn lo lf nm (wOth sk cy S) x y hx) gL_ifScanned_X3_ifScanned rfl rfl rfl (by decide +kernel) (k_room hR (by decide)) (k_cells hR (by decide)) (ci := 3) rfl 0 rfl rfl rfl (Nat.le_of_ble_eq_true rfl) (k_pre) (k_pre.symm) dL_ifScanned_5 htb [] ⟨0, 10, 13, 21⟩ [⟨0, 10, 17, 13⟩] rfl (fun _ h => absurd h List.not_mem_nil) rfl (by decide) (List.mem_of_getElem? (i := 1) rfl) (List.mem_of_getElem? (i := 2) rfl) rfl (fun q9 => ?_)
  refine k_astore (q := 15) (fr2 := [(4, .ref q9), (0, .ref (b 0)), (1, .int x), (2, .int y), (3, .ref ob)]) C dL_ifScanned_13 (by decide) rfl rfl ?_
  refine k_iconst (q := 16) (v := 1) C dL_ifScanned_15 (by decide) rfl ?_
  exact k_finL E (by decide) (by decide) dL_ifScanned_16 (rfl) (rfl)
set_option maxHeartbeats 4000000 in
set_option maxRecDepth 100000 in
theorem c_L_ifScanned_e2 (cy : Nat → ClassId) (a : Nat → Nat) (b : Nat → Nat) (r : Nat) (nx : Nat) (sn : Nat) (ln : Nat) (sk : Nat → Nat → Nat) (S : Nat → CK) (ik : Nat → Int32) (bf : Nat → Nat) (kd : Nat) (hg : Nat) (nu : Nat) (dg : Nat) (ng : Bool) (tk : Bool) (n : Nat) (lit : Int32) (h : Nat → Int32) (t : Nat → Int32) (s : Nat → Int32) (g : Nat → Int32) (kn : Nat) (lo : Int32) (lf : Int32) (nm : Nat → Int32) (ob : Nat) (ou : Nat → Int64) (j : Nat) (y : Int32)  (hj : j < 2) (hy : ¬ (0 ≤ y ∧ y ≤ 3)) : kIl yL_ifScanned wsL_ifScanned rm_L_ifScanned cy [.ref (b 0), .int (nI j), .int y, .ref ob] ([(ob, .inl (cy 4, 1, .inr (.inl ou)))] ++ ((wXo b cy (a 0) r nx sn ln (svOf sk) (kpOf sk) ik bf ++ wRd r kd hg nu dg ng tk) ++ (wSky a cy n lit h t s g kn lo lf nm ++ wOth sk cy S))) 2 ([(ob, .inl (cy 4, 1, .inr (.inl ou)))] ++ ((wXo b cy (a 0) r nx sn ln (svOf sk) (kpOf sk) ik bf ++ wRd r kd hg nu dg ng tk) ++ (wSky a cy n lit h t s g kn lo lf nm ++ wOth sk cy S))) := by
  refine kIl_of (cc := cL_ifScanned) (maxL := 5) (by decide) rfl (Nat.le_of_ble_eq_true rfl) ?_
  intro X hR C Z hst htb E
  have C : kC X 5 RL cL_ifScanned wsL_ifScanned cy := C
  refine k_fr (fr2 := [(0, .ref (b 0)), (1, .int (nI j)), (2, .int y), (3, .ref ob)]) ⟨[0, 1, 2, 3], rfl⟩ ?_
  refine k_aload_n (q := 1) C 3 dL_ifScanned_0 rfl rfl ?_
  refine k_iconst (q := 2) (v := 0) C dL_ifScanned_1 (by decide) rfl ?_
  refine k_aload_n (q := 3) C 0 dL_ifScanned_2 rfl rfl ?_
  refine k_iload_n (q := 4) C 1 dL_ifScanned_3 rfl rfl ?_
  refine k_iload_n (q := 5) C 2 dL_ifScanned_4 rfl rfl ?_
  refine k_callVE (n := 2) (q := 17) (pre := ([(ob, .inl (cy 4, 1, .inr (.inl ou)))] : va_W)) (post := ([] : va_W)) (w2 := ([(ob, .inl (cy 4, 1, .inr (.inl ou)))] ++ ((wXo b cy (a 0) r nx sn ln (svOf sk) (kpOf sk) ik bf ++ wRd r kd hg nu dg ng tk) ++ (wSky a cy n lit h t s g kn lo lf nm ++ wOth sk cy S)))) (As := [.int (nI j), .int y]) (rest := [.int 0, .ref ob]) C Z hst (c_X3_ifScanned_e2 cy a b r nx sn ln (svOf sk) (kpOf sk) ik bf kd hg nu dg ng tk n lit h t s g kn lo lf nm (wOth sk cy S) j y hj hy) gL_ifScanned_X3_ifScanned rfl rfl rfl (by decide +kernel) (k_room hR (by decide)) (k_cells hR (by decide)) (ci := 3) rfl 0 rfl rfl rfl (Nat.le_of_ble_eq_true rfl) (k_pre) (k_pre.symm) dL_ifScanned_5 htb [⟨0, 10, 13, 21⟩] ⟨0, 10, 17, 13⟩ [] rfl (fun z hz => by rw [List.mem_singleton.mp hz]; exact Or.inr ⟨by decide, "java/lang/IndexOutOfBoundsException", (List.mem_of_getElem? (i := 1) rfl), Z.2.2.2.2.2.2.2⟩) rfl (by decide) (List.mem_of_getElem? (i := 2) rfl) (List.mem_of_getElem? (i := 0) rfl) rfl (fun q9 => ?_)
  refine k_astore (q := 19) (fr2 := [(4, .ref q9), (0, .ref (b 0)), (1, .int (nI j)), (2, .int y), (3, .ref ob)]) C dL_ifScanned_17 (by decide) rfl rfl ?_
  refine k_iconst (q := 20) (v := 2) C dL_ifScanned_19 (by decide) rfl ?_
  exact k_finL E (by decide) (by decide) dL_ifScanned_20 (rfl) (rfl)
