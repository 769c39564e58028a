abbrev rm_L_layer : Room := { frames := 6, cells := 0, slots := 0, locals := 137 }
theorem in0_L_layer : ∀ w ∈ wsX00, w ∈ wsL_layer := fun _ h => (List.mem_cons_of_mem _ (List.mem_append_left _ (List.mem_append_left _ (List.mem_append_right _ h))))
theorem in2_L_layer : ∀ w ∈ wsX20, w ∈ wsL_layer := fun _ h => (List.mem_cons_of_mem _ (List.mem_append_left _ (List.mem_append_left _ (List.mem_append_left _ (List.mem_append_right _ h)))))
theorem in3_L_layer : ∀ w ∈ wsX30, w ∈ wsL_layer := fun _ h => (List.mem_cons_of_mem _ (List.mem_append_left _ (List.mem_append_left _ (List.mem_append_left _ (List.mem_append_left _ (List.mem_append_right _ h))))))
set_option maxHeartbeats 4000000 in
set_option maxRecDepth 100000 in
theorem c_L_layer (cy : Nat → ClassId) (a : Nat → Nat) (b : Nat → Nat) (r : Nat) (nx : Nat) (sn : Nat) (ln : Nat) (sk : Nat → Nat → Nat) (S : Nat → CK) (ik : Nat → Int32) (bf : Nat → Nat) (kd : Nat) (hg : Nat) (nu : Nat) (dg : Nat) (ng : Bool) (tk : Bool) (n : Nat) (lit : Int32) (h : Nat → Int32) (t : Nat → Int32) (s : Nat → Int32) (g : Nat → Int32) (kn : Nat) (lo : Int32) (lf : Int32) (nm : Nat → Int32) (x : Int32) (y : Int32)  (hnx : nx < 6) (hsn : sn ≤ 6) (hx : 50 ≤ x ∧ x ≤ 3000) (hy : 1 ≤ y ∧ y ≤ 100) (ha : sAny h x n = false) (hn : n < 6) : kI yL_layer wsL_layer rm_L_layer cy [.ref (b 0), .int x, .int y] ((wXo b cy (a 0) r nx sn ln (svOf sk) (kpOf sk) ik bf ++ wRd r kd hg nu dg ng tk) ++ (wSky a cy n lit h t s g kn lo lf nm ++ wOth sk cy S)) (nI (sPos h x n)) ((wXo b cy (a 0) r ((nx + 1) % 6) (min (sn + 1) 6) ln (svOf sk) (kpOf sk) ik bf ++ wRd r kd hg nu dg ng tk) ++ (wSky a cy (n + 1) lit (sIns h n (sPos h x n) x) (sIns t n (sPos h x n) y) s g kn lo lf nm ++ wOth sk cy (updS S nx (cLike (n, lit, h, t, s, g, kn, lo, lf, nm) (S nx))))) := by
  refine kI_ofH (cc := cL_layer) (maxL := 4) (by decide) rfl (Nat.le_of_ble_eq_true rfl) ?_
  intro X hR C E
  have C : kC X 4 RL cL_layer wsL_layer cy := C
  refine k_fr (fr2 := [(0, .ref (b 0)), (1, .int x), (2, .int y)]) ⟨[0, 1, 2], rfl⟩ ?_
  refine k_aload_n (q := 1) C 0 dL_layer_0 rfl rfl ?_
  refine k_iload_n (q := 2) C 1 dL_layer_1 rfl rfl ?_
  refine k_iload_n (q := 3) C 2 dL_layer_2 rfl rfl ?_
  refine k_callVI (n := 2) (q := 6) (pre := ([] : va_W)) (post := ([] : va_W)) (w2 := ((wXo b cy (a 0) r ((nx + 1) % 6) (min (sn + 1) 6) ln (svOf sk) (kpOf sk) ik bf ++ wRd r kd hg nu dg ng tk) ++ (wSky a cy (n + 1) lit (sIns h n (sPos h x n) x) (sIns t n (sPos h x n) y) s g kn lo lf nm ++ wOth sk cy (updS S nx (cLike (n, lit, h, t, s, g, kn, lo, lf, nm) (S nx)))))) (As := [.int x, .int y]) (rest := []) C (c_X3_layer cy a b r nx sn ln sk S ik bf kd hg nu dg ng tk n lit h t s g kn lo lf nm x y hnx hsn hx hy ha hn) gL_layer_X3_layer rfl rfl rfl (by decide +kernel) (k_room hR (by decide)) ⟨Nat.zero_le _, Nat.zero_le _⟩ (ci := 3) rfl 0 rfl rfl rfl (Nat.le_of_ble_eq_true rfl) ((List.append_nil _).symm) (List.append_nil _) dL_layer_3 rfl ?_
  exact k_fin E dL_layer_6 (rfl) (rfl)
abbrev rmE_L_layer : Room := { frames := 7, cells := 1, slots := 6, locals := 137 }
set_option maxHeartbeats 4000000 in
set_option maxRecDepth 100000 in
theorem c_L_layer_e2 (cy : Nat → ClassId) (a : Nat → Nat) (b : Nat → Nat) (r : Nat) (nx : Nat) (sn : Nat) (ln : Nat) (sk : Nat → Nat → Nat) (S : Nat → CK) (ik : Nat → Int32) (bf : Nat → Nat) (kd : Nat) (hg : Nat) (nu : Nat) (dg : Nat) (ng : Bool) (tk : Bool) (n : Nat) (lit : Int32) (h : Nat → Int32) (t : Nat → Int32) (s : Nat → Int32) (g : Nat → Int32) (kn : Nat) (lo : Int32) (lf : Int32) (nm : Nat → Int32) (x : Int32) (y : Int32)  (hn : n ≤ 6) (hx : (50 ≤ x ∧ x ≤ 3000) ∧ (1 ≤ y ∧ y ≤ 100)) (hz : ¬ (sAny h x n = false ∧ n < 6)) : kIl yL_layer wsL_layer rmE_L_layer cy [.ref (b 0), .int x, .int y] ((wXo b cy (a 0) r nx sn ln (svOf sk) (kpOf sk) ik bf ++ wRd r kd hg nu dg ng tk) ++ (wSky a cy n lit h t s g kn lo lf nm ++ wOth sk cy S)) (-200003) ((wXo b cy (a 0) r nx sn ln (svOf sk) (kpOf sk) ik bf ++ wRd r kd hg nu dg ng tk) ++ (wSky a cy n lit h t s g kn lo lf nm ++ wOth sk cy S)) 1 6 := by
  refine kIl_of (cc := cL_layer) (maxL := 4) (by decide) rfl (Nat.le_of_ble_eq_true rfl) ?_
  intro X hR C Z hst htb E
  have C : kC X 4 RL cL_layer wsL_layer cy := C
  refine k_fr (fr2 := [(0, .ref (b 0)), (1, .int x), (2, .int y)]) ⟨[0, 1, 2], rfl⟩ ?_
  refine k_aload_n (q := 1) C 0 dL_layer_0 rfl rfl ?_
  refine k_iload_n (q := 2) C 1 dL_layer_1 rfl rfl ?_
  refine k_iload_n (q := 3) C 2 dL_layer_2 rfl rfl ?_
  refine k_callVE (n := 2) (q := 11) (pre := ([] : va_W)) (post := ([] : va_W)) (w2 := ((wXo b cy (a 0) r nx sn ln (svOf sk) (kpOf sk) ik bf ++ wRd r kd hg nu dg ng tk) ++ (wSky a cy n lit h t s g kn lo lf nm ++ wOth sk cy S))) (As := [.int x, .int y]) (rest := []) C Z hst (c_X3_layer_e2 cy a b r nx sn ln (svOf sk) (kpOf sk) ik bf kd hg nu dg ng tk n lit h t s g kn lo lf nm (wOth sk cy S) x y hn hx hz) gL_layer_X3_layer rfl rfl rfl (by decide +kernel) (k_room hR (by decide)) (k_cells hR (by decide)) (ci := 3) rfl 0 rfl rfl rfl (Nat.le_of_ble_eq_true rfl) (rfl) (rfl) dL_layer_3 htb [⟨0, 6, 7, 16⟩] ⟨0, 6, 11, 19⟩ [] rfl (fun z hz => by rw [List.mem_singleton.mp hz]; exact Or.inr ⟨by decide, "java/lang/IllegalArgumentException", (List.mem_of_getElem? (i := 1) rfl), Z.2.2.2.2.2.2.1⟩) rfl (by decide) (List.mem_of_getElem? (i := 2) rfl) (List.mem_of_getElem? (i := 1) rfl) rfl (fun q9 => ?_)
  refine k_astore_n (q := 12) (fr2 := [(3, .ref q9), (0, .ref (b 0)), (1, .int x), (2, .int y)]) C dL_layer_11 (by decide) rfl rfl ?_
  refine k_ldc (q := 14) (v := -200003) C (List.mem_of_getElem? (i := 4) rfl) dL_layer_12 rfl ?_
  exact k_finL E (by omega) (by omega) dL_layer_14 (rfl) (rfl)
abbrev rm_L_clear : Room := { frames := 6, cells := 0, slots := 0, locals := 136 }
theorem in0_L_clear : ∀ w ∈ wsX00, w ∈ wsL_clear := fun _ h => (List.mem_cons_of_mem _ (List.mem_append_left _ (List.mem_append_right _ h)))
theorem in2_L_clear : ∀ w ∈ wsX20, w ∈ wsL_clear := fun _ h => (List.mem_cons_of_mem _ (List.mem_append_left _ (List.mem_append_left _ (List.mem_append_right _ h))))
theorem in3_L_clear : ∀ w ∈ wsX30, w ∈ wsL_clear := fun _ h => (List.mem_cons_of_mem _ (List.mem_append_left _ (List.mem_append_left _ (List.mem_append_left _ (List.mem_append_right _ h)))))
set_option maxHeartbeats 4000000 in
set_option maxRecDepth 100000 in
theorem c_L_clear (cy : Nat → ClassId) (a : Nat → Nat) (b : Nat → Nat) (r : Nat) (nx : Nat) (sn : Nat) (ln : Nat) (sk : Nat → Nat → Nat) (S : Nat → CK) (ik : Nat → Int32) (bf : Nat → Nat) (kd : Nat) (hg : Nat) (nu : Nat) (dg : Nat) (ng : Bool) (tk : Bool) (n : Nat) (lit : Int32) (h : Nat → Int32) (t : Nat → Int32) (s : Nat → Int32) (g : Nat → Int32) (kn : Nat) (lo : Int32) (lf : Int32) (nm : Nat → Int32) (p : Nat)  (hnx : nx < 6) (hsn : sn ≤ 6) (hn : n ≤ 6) (hp : p < n) : kI yL_clear wsL_clear rm_L_clear cy [.ref (b 0), .int (nI p)] ((wXo b cy (a 0) r nx sn ln (svOf sk) (kpOf sk) ik bf ++ wRd r kd hg nu dg ng tk) ++ (wSky a cy n lit h t s g kn lo lf nm ++ wOth sk cy S)) (h p) ((wXo b cy (a 0) r ((nx + 1) % 6) (min (sn + 1) 6) ln (svOf sk) (kpOf sk) ik bf ++ wRd r kd hg nu dg ng tk) ++ (wSky a cy (n - 1) lit (sDn h p n) (sDn t p n) s g kn lo lf nm ++ wOth sk cy (updS S nx (cLike (n, lit, h, t, s, g, kn, lo, lf, nm) (S nx))))) := by
  refine kI_ofH (cc := cL_clear) (maxL := 3) (by decide) rfl (Nat.le_of_ble_eq_true rfl) ?_
  intro X hR C E
  have C : kC X 3 RL cL_clear wsL_clear cy := C
  refine k_fr (fr2 := [(0, .ref (b 0)), (1, .int (nI p))]) ⟨[0, 1], rfl⟩ ?_
  refine k_aload_n (q := 1) C 0 dL_clear_0 rfl rfl ?_
  refine k_iload_n (q := 2) C 1 dL_clear_1 rfl rfl ?_
  refine k_callVI (n := 1) (q := 5) (pre := ([] : va_W)) (post := ([] : va_W)) (w2 := ((wXo b cy (a 0) r ((nx + 1) % 6) (min (sn + 1) 6) ln (svOf sk) (kpOf sk) ik bf ++ wRd r kd hg nu dg ng tk) ++ (wSky a cy (n - 1) lit (sDn h p n) (sDn t p n) s g kn lo lf nm ++ wOth sk cy (updS S nx (cLike (n, lit, h, t, s, g, kn, lo, lf, nm) (S nx)))))) (As := [.int (nI p)]) (rest := []) C (c_X3_clear cy a b r nx sn ln sk S ik bf kd hg nu dg ng tk n lit h t s g kn lo lf nm p hnx hsn hn hp) gL_clear_X3_clear rfl rfl rfl (by decide +kernel) (k_room hR (by decide)) ⟨Nat.zero_le _, Nat.zero_le _⟩ (ci := 3) rfl 0 rfl rfl rfl (Nat.le_of_ble_eq_true rfl) ((List.append_nil _).symm) (List.append_nil _) dL_clear_2 rfl ?_
  exact k_fin E dL_clear_5 (rfl) (rfl)
abbrev rmE_L_clear : Room := { frames := 7, cells := 1, slots := 6, locals := 136 }
set_option maxHeartbeats 4000000 in
set_option maxRecDepth 100000 in
theorem c_L_clear_e (cy : Nat → ClassId) (a : Nat → Nat) (b : Nat → Nat) (r : Nat) (nx : Nat) (sn : Nat) (ln : Nat) (sk : Nat → Nat → Nat) (S : Nat → CK) (ik : Nat → Int32) (bf : Nat → Nat) (kd : Nat) (hg : Nat) (nu : Nat) (dg : Nat) (ng : Bool) (tk : Bool) (n : Nat) (lit : Int32) (h : Nat → Int32) (t : Nat → Int32) (s : Nat → Int32) (g : Nat → Int32) (kn : Nat) (lo : Int32) (lf : Int32) (nm : Nat → Int32) (x : Int32)  (hx : ¬ (0 ≤ x ∧ x < nI n)) : kIl yL_clear wsL_clear rmE_L_clear cy [.ref (b 0), .int x] ((wXo b cy (a 0) r nx sn ln (svOf sk) (kpOf sk) ik bf ++ wRd r kd hg nu dg ng tk) ++ (wSky a cy n lit h t s g kn lo lf nm ++ wOth sk cy S)) (-200001) ((wXo b cy (a 0) r nx sn ln (svOf sk) (kpOf sk) ik bf ++ wRd r kd hg nu dg ng tk) ++ (wSky a cy n lit h t s g kn lo lf nm ++ wOth sk cy S)) 1 6 := by
  refine kIl_of (cc := cL_clear) (maxL := 3) (by decide) rfl (Nat.le_of_ble_eq_true rfl) ?_
  intro X hR C Z hst htb E
  have C : kC X 3 RL cL_clear wsL_clear cy := C
  refine k_fr (fr2 := [(0, .ref (b 0)), (1, .int x)]) ⟨[0, 1], rfl⟩ ?_
  refine k_aload_n (q := 1) C 0 dL_clear_0 rfl rfl ?_
  refine k_iload_n (q := 2) C 1 dL_clear_1 rfl rfl ?_
  refine k_callVE (n := 1) (q := 6) (pre := ([] : va_W)) (post := ([] : va_W)) (w2 := ((wXo b cy (a 0) r nx sn ln (svOf sk) (kpOf sk) ik bf ++ wRd r kd hg nu dg ng tk) ++ (wSky a cy n lit h t s g kn lo lf nm ++ wOth sk cy S))) (As := [.int x]) (rest := []) C Z hst (c_X3_clear_e cy a b r nx sn ln (svOf sk) (kpOf sk) ik bf kd hg nu dg ng tk n lit h t s g kn lo lf nm (wOth sk cy S) x hx) gL_clear_X3_clear rfl rfl rfl (by decide +kernel) (k_room hR (by decide)) (k_cells hR (by decide)) (ci := 3) rfl 0 rfl rfl rfl (Nat.le_of_ble_eq_true rfl) (rfl) (rfl) dL_clear_2 htb [] ⟨0, 5, 6, 26⟩ [] rfl (fun _ h => absurd h List.not_mem_nil) rfl (by decide) (List.mem_of_getElem? (i := 1) rfl) (List.mem_of_getElem? (i := 2) rfl) rfl (fun q9 => ?_)
  refine k_astore_n (q := 7) (fr2 := [(2, .ref q9), (0, .ref (b 0)), (1, .int x)]) C dL_clear_6 (by decide) rfl rfl ?_
  refine k_ldc (q := 9) (v := -200001) C (List.mem_of_getElem? (i := 2) rfl) dL_clear_7 rfl ?_
  exact k_finL E (by omega) (by omega) dL_clear_9 (rfl) (rfl)
abbrev rm_L_clearThin : Room := { frames := 6, cells := 0, slots := 0, locals := 136 }
theorem in0_L_clearThin : ∀ w ∈ wsX00, w ∈ wsL_clearThin := fun _ h => (List.mem_cons_of_mem _ (List.mem_append_left _ (List.mem_append_right _ h)))
theorem in2_L_clearThin : ∀ w ∈ wsX20, w ∈ wsL_clearThin := fun _ h => (List.mem_cons_of_mem _ (List.mem_append_left _ (List.mem_append_left _ (List.mem_append_right _ h))))
theorem in3_L_clearThin : ∀ w ∈ wsX30, w ∈ wsL_clearThin := fun _ h => (List.mem_cons_of_mem _ (List.mem_append_left _ (List.mem_append_left _ (List.mem_append_left _ (List.mem_append_right _ h)))))
set_option maxHeartbeats 4000000 in
set_option maxRecDepth 100000 in
theorem c_L_clearThin (cy : Nat → ClassId) (a : Nat → Nat) (b : Nat → Nat) (r : Nat) (nx : Nat) (sn : Nat) (ln : Nat) (sk : Nat → Nat → Nat) (S : Nat → CK) (ik : Nat → Int32) (bf : Nat → Nat) (kd : Nat) (hg : Nat) (nu : Nat) (dg : Nat) (ng : Bool) (tk : Bool) (n : Nat) (lit : Int32) (h : Nat → Int32) (t : Nat → Int32) (s : Nat → Int32) (g : Nat → Int32) (kn : Nat) (lo : Int32) (lf : Int32) (nm : Nat → Int32) (x : Int32)  (hnx : nx < 6) (hsn : sn ≤ 6) (hn : n ≤ 6) (hx : 1 ≤ x ∧ x ≤ 100) : kI yL_clearThin wsL_clearThin rm_L_clearThin cy [.ref (b 0), .int x] ((wXo b cy (a 0) r nx sn ln (svOf sk) (kpOf sk) ik bf ++ wRd r kd hg nu dg ng tk) ++ (wSky a cy n lit h t s g kn lo lf nm ++ wOth sk cy S)) (nI (n - sKeep t x n)) ((wXo b cy (a 0) r ((nx + 1) % 6) (min (sn + 1) 6) ln (svOf sk) (kpOf sk) ik bf ++ wRd r kd hg nu dg ng tk) ++ (wSky a cy (sKeep t x n) lit (sPack t x h n) (sPack t x t n) s g kn lo lf nm ++ wOth sk cy (updS S nx (cLike (n, lit, h, t, s, g, kn, lo, lf, nm) (S nx))))) := by
  refine kI_ofH (cc := cL_clearThin) (maxL := 3) (by decide) rfl (Nat.le_of_ble_eq_true rfl) ?_
  intro X hR C E
  have C : kC X 3 RL cL_clearThin wsL_clearThin cy := C
  refine k_fr (fr2 := [(0, .ref (b 0)), (1, .int x)]) ⟨[0, 1], rfl⟩ ?_
  refine k_aload_n (q := 1) C 0 dL_clearThin_0 rfl rfl ?_
  refine k_iload_n (q := 2) C 1 dL_clearThin_1 rfl rfl ?_
  refine k_callVI (n := 1) (q := 5) (pre := ([] : va_W)) (post := ([] : va_W)) (w2 := ((wXo b cy (a 0) r ((nx + 1) % 6) (min (sn + 1) 6) ln (svOf sk) (kpOf sk) ik bf ++ wRd r kd hg nu dg ng tk) ++ (wSky a cy (sKeep t x n) lit (sPack t x h n) (sPack t x t n) s g kn lo lf nm ++ wOth sk cy (updS S nx (cLike (n, lit, h, t, s, g, kn, lo, lf, nm) (S nx)))))) (As := [.int x]) (rest := []) C (c_X3_clearThin cy a b r nx sn ln sk S ik bf kd hg nu dg ng tk n lit h t s g kn lo lf nm x hnx hsn hn hx) gL_clearThin_X3_clearThin rfl rfl rfl (by decide +kernel) (k_room hR (by decide)) ⟨Nat.zero_le _, Nat.zero_le _⟩ (ci := 3) rfl 0 rfl rfl rfl (Nat.le_of_ble_eq_true rfl) ((List.append_nil _).symm) (List.append_nil _) dL_clearThin_2 rfl ?_
  exact k_fin E dL_clearThin_5 (rfl) (rfl)
abbrev rm_L_aim : Room := { frames := 6, cells := 0, slots := 0, locals := 137 }
theorem in0_L_aim : ∀ w ∈ wsX00, w ∈ wsL_aim := fun _ h => (List.mem_cons_of_mem _ (List.mem_append_left _ (List.mem_append_left _ (List.mem_append_right _ h))))
theorem in2_L_aim : ∀ w ∈ wsX20, w ∈ wsL_aim := fun _ h => (List.mem_cons_of_mem _ (List.mem_append_left _ (List.mem_append_left _ (List.mem_append_left _ (List.mem_append_right _ h)))))
theorem in3_L_aim : ∀ w ∈ wsX30, w ∈ wsL_aim := fun _ h => (List.mem_cons_of_mem _ (List.mem_append_left _ (List.mem_append_left _ (List.mem_append_left _ (List.mem_append_left _ (List.mem_append_right _ h))))))
set_option maxHeartbeats 4000000 in
set_option maxRecDepth 100000 in
theorem c_L_aim (cy : Nat → ClassId) (a : Nat → Nat) (b : Nat → Nat) (r : Nat) (nx : Nat) (sn : Nat) (ln : Nat) (sk : Nat → Nat → Nat) (S : Nat → CK) (ik : Nat → Int32) (bf : Nat → Nat) (kd : Nat) (hg : Nat) (nu : Nat) (dg : Nat) (ng : Bool) (tk : Bool) (n : Nat) (lit : Int32) (h : Nat → Int32) (t : Nat → Int32) (s : Nat → Int32) (g : Nat → Int32) (kn : Nat) (lo : Int32) (lf : Int32) (nm : Nat → Int32) (j : Nat) (y : Int32)  (hnx : nx < 6) (hsn : sn ≤ 6) (hj : j < 2) (hy : -30 ≤ y ∧ y ≤ 30) : kI yL_aim wsL_aim rm_L_aim cy [.ref (b 0), .int (nI j), .int y] ((wXo b cy (a 0) r nx sn ln (svOf sk) (kpOf sk) ik bf ++ wRd r kd hg nu dg ng tk) ++ (wSky a cy n lit h t s g kn lo lf nm ++ wOth sk cy S)) (s j) ((wXo b cy (a 0) r ((nx + 1) % 6) (min (sn + 1) 6) ln (svOf sk) (kpOf sk) ik bf ++ wRd r kd hg nu dg ng tk) ++ (wSky a cy n lit h t (upd s j y) g kn lo lf nm ++ wOth sk cy (updS S nx (cLike (n, lit, h, t, s, g, kn, lo, lf, nm) (S nx))))) := by
  refine kI_ofH (cc := cL_aim) (maxL := 4) (by decide) rfl (Nat.le_of_ble_eq_true rfl) ?_
  intro X hR C E
  have C : kC X 4 RL cL_aim wsL_aim cy := C
  refine k_fr (fr2 := [(0, .ref (b 0)), (1, .int (nI j)), (2, .int y)]) ⟨[0, 1, 2], rfl⟩ ?_
  refine k_aload_n (q := 1) C 0 dL_aim_0 rfl rfl ?_
  refine k_iload_n (q := 2) C 1 dL_aim_1 rfl rfl ?_
  refine k_iload_n (q := 3) C 2 dL_aim_2 rfl rfl ?_
  refine k_callVI (n := 2) (q := 6) (pre := ([] : va_W)) (post := ([] : va_W)) (w2 := ((wXo b cy (a 0) r ((nx + 1) % 6) (min (sn + 1) 6) ln (svOf sk) (kpOf sk) ik bf ++ wRd r kd hg nu dg ng tk) ++ (wSky a cy n lit h t (upd s j y) g kn lo lf nm ++ wOth sk cy (updS S nx (cLike (n, lit, h, t, s, g, kn, lo, lf, nm) (S nx)))))) (As := [.int (nI j), .int y]) (rest := []) C (c_X3_aim cy a b r nx sn ln sk S ik bf kd hg nu dg ng tk n lit h t s g kn lo lf nm j y hnx hsn hj hy) gL_aim_X3_aim rfl rfl rfl (by decide +kernel) (k_room hR (by decide)) ⟨Nat.zero_le _, Nat.zero_le _⟩ (ci := 3) rfl 0 rfl rfl rfl (Nat.le_of_ble_eq_true rfl) ((List.append_nil _).symm) (List.append_nil _) dL_aim_3 rfl ?_
  exact k_fin E dL_aim_6 (rfl) (rfl)
abbrev rm_L_turn : Room := { frames := 6, cells := 0, slots := 0, locals := 136 }
theorem in0_L_turn : ∀ w ∈ wsX00, w ∈ wsL_turn := fun _ h => (List.mem_cons_of_mem _ (List.mem_append_left _ (List.mem_append_right _ h)))
theorem in2_L_turn : ∀ w ∈ wsX20, w ∈ wsL_turn := fun _ h => (List.mem_cons_of_mem _ (List.mem_append_left _ (List.mem_append_left _ (List.mem_append_right _ h))))
theorem in3_L_turn : ∀ w ∈ wsX30, w ∈ wsL_turn := fun _ h => (List.mem_cons_of_mem _ (List.mem_append_left _ (List.mem_append_left _ (List.mem_append_left _ (List.mem_append_right _ h)))))
set_option maxHeartbeats 4000000 in
set_option maxRecDepth 100000 in
theorem c_L_turn (cy : Nat → ClassId) (a : Nat → Nat) (b : Nat → Nat) (r : Nat) (nx : Nat) (sn : Nat) (ln : Nat) (sk : Nat → Nat → Nat) (S : Nat → CK) (ik : Nat → Int32) (bf : Nat → Nat) (kd : Nat) (hg : Nat) (nu : Nat) (dg : Nat) (ng : Bool) (tk : Bool) (n : Nat) (lit : Int32) (h : Nat → Int32) (t : Nat → Int32) (s : Nat → Int32) (g : Nat → Int32) (kn : Nat) (lo : Int32) (lf : Int32) (nm : Nat → Int32) (j : Nat)  (hnx : nx < 6) (hsn : sn ≤ 6) (hj : j < 2) : kI yL_turn wsL_turn rm_L_turn cy [.ref (b 0), .int (nI j)] ((wXo b cy (a 0) r nx sn ln (svOf sk) (kpOf sk) ik bf ++ wRd r kd hg nu dg ng tk) ++ (wSky a cy n lit h t s g kn lo lf nm ++ wOth sk cy S)) (bI (((lit ^^^ (1 <<< (nI j &&& 31))) >>> (nI j &&& 31)) &&& 1 = 1)) ((wXo b cy (a 0) r ((nx + 1) % 6) (min (sn + 1) 6) ln (svOf sk) (kpOf sk) ik bf ++ wRd r kd hg nu dg ng tk) ++ (wSky a cy n (lit ^^^ (1 <<< (nI j &&& 31))) h t s g kn lo lf nm ++ wOth sk cy (updS S nx (cLike (n, lit, h, t, s, g, kn, lo, lf, nm) (S nx))))) := by
  refine kI_ofH (cc := cL_turn) (maxL := 3) (by decide) rfl (Nat.le_of_ble_eq_true rfl) ?_
  intro X hR C E
  have C : kC X 3 RL cL_turn wsL_turn cy := C
  refine k_fr (fr2 := [(0, .ref (b 0)), (1, .int (nI j))]) ⟨[0, 1], rfl⟩ ?_
  refine k_aload_n (q := 1) C 0 dL_turn_0 rfl rfl ?_
  refine k_iload_n (q := 2) C 1 dL_turn_1 rfl rfl ?_
  refine k_callVI (n := 1) (q := 5) (pre := ([] : va_W)) (post := ([] : va_W)) (w2 := ((wXo b cy (a 0) r ((nx + 1) % 6) (min (sn + 1) 6) ln (svOf sk) (kpOf sk) ik bf ++ wRd r kd hg nu dg ng tk) ++ (wSky a cy n (lit ^^^ (1 <<< (nI j &&& 31))) h t s g kn lo lf nm ++ wOth sk cy (updS S nx (cLike (n, lit, h, t, s, g, kn, lo, lf, nm) (S nx)))))) (As := [.int (nI j)]) (rest := []) C (c_X3_turn cy a b r nx sn ln sk S ik bf kd hg nu dg ng tk n lit h t s g kn lo lf nm j hnx hsn hj) gL_turn_X3_turn rfl rfl rfl (by decide +kernel) (k_room hR (by decide)) ⟨Nat.zero_le _, Nat.zero_le _⟩ (ci := 3) rfl 0 rfl rfl rfl (Nat.le_of_ble_eq_true rfl) ((List.append_nil _).symm) (List.append_nil _) dL_turn_2 rfl ?_
  exact k_fin E dL_turn_5 (rfl) (rfl)
abbrev rm_L_set : Room := { frames := 6, cells := 0, slots := 0, locals := 138 }
theorem in0_L_set : ∀ w ∈ wsX00, w ∈ wsL_set := fun _ h => (List.mem_cons_of_mem _ (List.mem_append_left _ (List.mem_append_left _ (List.mem_append_right _ h))))
theorem in2_L_set : ∀ w ∈ wsX20, w ∈ wsL_set := fun _ h => (List.mem_cons_of_mem _ (List.mem_append_left _ (List.mem_append_left _ (List.mem_append_left _ (List.mem_append_right _ h)))))
theorem in3_L_set : ∀ w ∈ wsX30, w ∈ wsL_set := fun _ h => (List.mem_cons_of_mem _ (List.mem_append_left _ (List.mem_append_left _ (List.mem_append_left _ (List.mem_append_left _ (List.mem_append_right _ h))))))
set_option maxHeartbeats 4000000 in
set_option maxRecDepth 100000 in
theorem c_L_set (cy : Nat → ClassId) (a : Nat → Nat) (b : Nat → Nat) (r : Nat) (nx : Nat) (sn : Nat) (ln : Nat) (sk : Nat → Nat → Nat) (S : Nat → CK) (ik : Nat → Int32) (bf : Nat → Nat) (kd : Nat) (hg : Nat) (nu : Nat) (dg : Nat) (ng : Bool) (tk : Bool) (n : Nat) (lit : Int32) (h : Nat → Int32) (t : Nat → Int32) (s : Nat → Int32) (g : Nat → Int32) (kn : Nat) (lo : Int32) (lf : Int32) (nm : Nat → Int32) (j : Nat) (y : Int32)  (hnx : nx < 6) (hsn : sn ≤ 6) (hj : j < 4) (hy : (mLeast j ≤ y ∧ y ≤ mMost j)) : kIl yL_set wsL_set rm_L_set cy [.ref (b 0), .int (nI j), .int y] ((wXo b cy (a 0) r nx sn ln (svOf sk) (kpOf sk) ik bf ++ wRd r kd hg nu dg ng tk) ++ (wSky a cy n lit h t s g kn lo lf nm ++ wOth sk cy S)) (g j) ((wXo b cy (a 0) r ((nx + 1) % 6) (min (sn + 1) 6) ln (svOf sk) (kpOf sk) ik bf ++ wRd r kd hg nu dg ng tk) ++ (wSky a cy n lit h t s (upd g j y) kn lo lf nm ++ wOth sk cy (updS S nx (cLike (n, lit, h, t, s, g, kn, lo, lf, nm) (S nx))))) 0 0 := by
  refine kIl_of (cc := cL_set) (maxL := 4) (by decide) rfl (Nat.le_of_ble_eq_true rfl) ?_
  intro X hR C Z hst htb E
  have C : kC X 4 RL cL_set wsL_set cy := C
  refine k_fr (fr2 := [(0, .ref (b 0)), (1, .int (nI j)), (2, .int y)]) ⟨[0, 1, 2], rfl⟩ ?_
  refine k_aload_n (q := 1) C 0 dL_set_0 rfl rfl ?_
  refine k_iload_n (q := 2) C 1 dL_set_1 rfl rfl ?_
  refine k_iload_n (q := 3) C 2 dL_set_2 rfl rfl ?_
  refine k_callVIz (n := 2) (q := 6) (pre := ([] : va_W)) (post := ([] : va_W)) (w2 := ((wXo b cy (a 0) r ((nx + 1) % 6) (min (sn + 1) 6) ln (svOf sk) (kpOf sk) ik bf ++ wRd r kd hg nu dg ng tk) ++ (wSky a cy n lit h t s (upd g j y) kn lo lf nm ++ wOth sk cy (updS S nx (cLike (n, lit, h, t, s, g, kn, lo, lf, nm) (S nx)))))) (As := [.int (nI j), .int y]) (rest := []) C Z (c_X3_set cy a b r nx sn ln sk S ik bf kd hg nu dg ng tk n lit h t s g kn lo lf nm j y hnx hsn hj hy) gL_set_X3_set rfl rfl rfl (by decide +kernel) (k_room hR (by decide)) ⟨Nat.zero_le _, Nat.zero_le _⟩ (ci := 3) rfl 0 rfl rfl rfl (Nat.le_of_ble_eq_true rfl) ((List.append_nil _).symm) (List.append_nil _) dL_set_3 rfl ?_
  exact k_finL E (by omega) (by omega) dL_set_6 (rfl) (rfl)
abbrev rm_L_scan : Room := { frames := 6, cells := 0, slots := 0, locals := 137 }
theorem in0_L_scan : ∀ w ∈ wsX00, w ∈ wsL_scan := fun _ h => (List.mem_cons_of_mem _ (List.mem_append_left _ (List.mem_append_right _ h)))
theorem in2_L_scan : ∀ w ∈ wsX20, w ∈ wsL_scan := fun _ h => (List.mem_cons_of_mem _ (List.mem_append_left _ (List.mem_append_left _ (List.mem_append_right _ h))))
theorem in3_L_scan : ∀ w ∈ wsX30, w ∈ wsL_scan := fun _ h => (List.mem_cons_of_mem _ (List.mem_append_left _ (List.mem_append_left _ (List.mem_append_left _ (List.mem_append_right _ h)))))
set_option maxHeartbeats 4000000 in
set_option maxRecDepth 100000 in
theorem c_L_scan (cy : Nat → ClassId) (a : Nat → Nat) (b : Nat → Nat) (r : Nat) (nx : Nat) (sn : Nat) (ln : Nat) (sk : Nat → Nat → Nat) (S : Nat → CK) (ik : Nat → Int32) (bf : Nat → Nat) (kd : Nat) (hg : Nat) (nu : Nat) (dg : Nat) (ng : Bool) (tk : Bool) (n : Nat) (lit : Int32) (h : Nat → Int32) (t : Nat → Int32) (s : Nat → Int32) (g : Nat → Int32) (kn : Nat) (lo : Int32) (lf : Int32) (nm : Nat → Int32) (j : Nat) (p : Nat)  (hnx : nx < 6) (hsn : sn ≤ 6) (hn : n ≤ 6) (hj : j < 2) (hp : p < n) : kI yL_scan wsL_scan rm_L_scan cy [.ref (b 0), .int (nI j), .int (nI p)] ((wXo b cy (a 0) r nx sn ln (svOf sk) (kpOf sk) ik bf ++ wRd r kd hg nu dg ng tk) ++ (wSky a cy n lit h t s g kn lo lf nm ++ wOth sk cy S)) (mAbs (sDist h g p ((upd s j (iI (sTry g h s j p))) 0) ((upd s j (iI (sTry g h s j p))) 1))) ((wXo b cy (a 0) r ((nx + 1) % 6) (min (sn + 1) 6) ln (svOf sk) (kpOf sk) ik bf ++ wRd r kd hg nu dg ng tk) ++ (wSky a cy n lit h t (upd s j (iI (sTry g h s j p))) g kn lo lf nm ++ wOth sk cy (updS S nx (cLike (n, lit, h, t, s, g, kn, lo, lf, nm) (S nx))))) := by
  refine kI_ofH (cc := cL_scan) (maxL := 4) (by decide) rfl (Nat.le_of_ble_eq_true rfl) ?_
  intro X hR C E
  have C : kC X 4 RL cL_scan wsL_scan cy := C
  refine k_fr (fr2 := [(0, .ref (b 0)), (1, .int (nI j)), (2, .int (nI p))]) ⟨[0, 1, 2], rfl⟩ ?_
  refine k_aload_n (q := 1) C 0 dL_scan_0 rfl rfl ?_
  refine k_iload_n (q := 2) C 1 dL_scan_1 rfl rfl ?_
  refine k_iload_n (q := 3) C 2 dL_scan_2 rfl rfl ?_
  refine k_callVI (n := 2) (q := 6) (pre := ([] : va_W)) (post := ([] : va_W)) (w2 := ((wXo b cy (a 0) r ((nx + 1) % 6) (min (sn + 1) 6) ln (svOf sk) (kpOf sk) ik bf ++ wRd r kd hg nu dg ng tk) ++ (wSky a cy n lit h t (upd s j (iI (sTry g h s j p))) g kn lo lf nm ++ wOth sk cy (updS S nx (cLike (n, lit, h, t, s, g, kn, lo, lf, nm) (S nx)))))) (As := [.int (nI j), .int (nI p)]) (rest := []) C (c_X3_scan cy a b r nx sn ln sk S ik bf kd hg nu dg ng tk n lit h t s g kn lo lf nm j p hnx hsn hn hj hp) gL_scan_X3_scan rfl rfl rfl (by decide +kernel) (k_room hR (by decide)) ⟨Nat.zero_le _, Nat.zero_le _⟩ (ci := 3) rfl 0 rfl rfl rfl (Nat.le_of_ble_eq_true rfl) ((List.append_nil _).symm) (List.append_nil _) dL_scan_3 rfl ?_
  exact k_fin E dL_scan_6 (rfl) (rfl)
abbrev rmE_L_scan : Room := { frames := 7, cells := 1, slots := 6, locals := 137 }
set_option maxHeartbeats 4000000 in
set_option maxRecDepth 100000 in
theorem c_L_scan_e (cy : Nat → ClassId) (a : Nat → Nat) (b : Nat → Nat) (r : Nat) (nx : Nat) (sn : Nat) (ln : Nat) (sk : Nat → Nat → Nat) (S : Nat → CK) (ik : Nat → Int32) (bf : Nat → Nat) (kd : Nat) (hg : Nat) (nu : Nat) (dg : Nat) (ng : Bool) (tk : Bool) (n : Nat) (lit : Int32) (h : Nat → Int32) (t : Nat → Int32) (s : Nat → Int32) (g : Nat → Int32) (kn : Nat) (lo : Int32) (lf : Int32) (nm : Nat → Int32) (x : Int32) (y : Int32)  (hx : ¬ ((0 ≤ x ∧ x ≤ 1) ∧ (0 ≤ y ∧ y < nI n))) : kIl yL_scan wsL_scan rmE_L_scan cy [.ref (b 0), .int x, .int y] ((wXo b cy (a 0) r nx sn ln (svOf sk) (kpOf sk) ik bf ++ wRd r kd hg nu dg ng tk) ++ (wSky a cy n lit h t s g kn lo lf nm ++ wOth sk cy S)) (-200001) ((wXo b cy (a 0) r nx sn ln (svOf sk) (kpOf sk) ik bf ++ wRd r kd hg nu dg ng tk) ++ (wSky a cy n lit h t s g kn lo lf nm ++ wOth sk cy S)) 1 6 := by
  refine kIl_of (cc := cL_scan) (maxL := 4) (by decide) rfl (Nat.le_of_ble_eq_true rfl) ?_
  intro X hR C Z hst htb E
  have C : kC X 4 RL cL_scan wsL_scan cy := C
  refine k_fr (fr2 := [(0, .ref (b 0)), (1, .int x), (2, .int y)]) ⟨[0, 1, 2], rfl⟩ ?_
  refine k_aload_n (q := 1) C 0 dL_scan_0 rfl rfl ?_
  refine k_iload_n (q := 2) C 1 dL_scan_1 rfl rfl ?_
  refine k_iload_n (q := 3) C 2 dL_scan_2 rfl rfl ?_
  refine k_callVE (n := 2) (q := 7) (pre := ([] : va_W)) (post := ([] : va_W)) (w2 := ((wXo b cy (a 0) r nx sn ln (svOf sk) (kpOf sk) ik bf ++ wRd r kd hg nu dg ng tk) ++ (wSky a cy n lit h t s g kn lo lf nm ++ wOth sk cy S))) (As := [.int x, .int y]) (rest := []) C Z hst (c_X3_scan_e cy a b r nx sn ln (svOf sk) (kpOf sk) ik bf kd hg nu dg ng tk n lit h t s g kn lo lf nm (wOth sk cy S) x y hx) gL_scan_X3_scan rfl rfl rfl (by decide +kernel) (k_room hR (by decide)) (k_cells hR (by decide)) (ci := 3) rfl 0 rfl rfl rfl (Nat.le_of_ble_eq_true rfl) (rfl) (rfl) dL_scan_3 htb [] ⟨0, 6, 7, 26⟩ [] rfl (fun _ h => absurd h List.not_mem_nil) rfl (by decide) (List.mem_of_getElem? (i := 1) rfl) (List.mem_of_getElem? (i := 2) rfl) rfl (fun q9 => ?_)
  refine k_astore_n (q := 8) (fr2 := [(3, .ref q9), (0, .ref (b 0)), (1, .int x), (2, .int y)]) C dL_scan_7 (by decide) rfl rfl ?_
  refine k_ldc (q := 10) (v := -200001) C (List.mem_of_getElem? (i := 2) rfl) dL_scan_8 rfl ?_
  exact k_finL E (by omega) (by omega) dL_scan_10 (rfl) (rfl)
abbrev rm_L_undo : Room := { frames := 5, cells := 0, slots := 0, locals := 115 }
theorem in0_L_undo : ∀ w ∈ wsX00, w ∈ wsL_undo := fun _ h => (List.mem_cons_of_mem _ (List.mem_append_left _ (List.mem_append_right _ h)))
theorem in2_L_undo : ∀ w ∈ wsX20, w ∈ wsL_undo := fun _ h => (List.mem_cons_of_mem _ (List.mem_append_left _ (List.mem_append_left _ (List.mem_append_right _ h))))
theorem in3_L_undo : ∀ w ∈ wsX30, w ∈ wsL_undo := fun _ h => (List.mem_cons_of_mem _ (List.mem_append_left _ (List.mem_append_left _ (List.mem_append_left _ (List.mem_append_right _ h)))))
set_option maxHeartbeats 4000000 in
set_option maxRecDepth 100000 in
theorem c_L_undo (cy : Nat → ClassId) (a : Nat → Nat) (b : Nat → Nat) (r : Nat) (nx : Nat) (sn : Nat) (ln : Nat) (sk : Nat → Nat → Nat) (S : Nat → CK) (ik : Nat → Int32) (bf : Nat → Nat) (kd : Nat) (hg : Nat) (nu : Nat) (dg : Nat) (ng : Bool) (tk : Bool) (n : Nat) (lit : Int32) (h : Nat → Int32) (t : Nat → Int32) (s : Nat → Int32) (g : Nat → Int32) (kn : Nat) (lo : Int32) (lf : Int32) (nm : Nat → Int32)  (hnx : nx < 6) (hsn : sn ≤ 6) (h0 : 0 < sn) : kI yL_undo wsL_undo rm_L_undo cy [.ref (b 0)] ((wXo b cy (a 0) r nx sn ln (svOf sk) (kpOf sk) ik bf ++ wRd r kd hg nu dg ng tk) ++ (wSky a cy n lit h t s g kn lo lf nm ++ wOth sk cy S)) (nI (sn - 1)) ((wXo b cy (a 0) r ((nx + 6 - 1) % 6) (sn - 1) ln (svOf sk) (kpOf sk) ik bf ++ wRd r kd hg nu dg ng tk) ++ (wSky a cy (qN (S ((nx + 6 - 1) % 6))) (qLit (S ((nx + 6 - 1) % 6))) (va_cpy (qH (S ((nx + 6 - 1) % 6))) h 0 0 6) (va_cpy (qT (S ((nx + 6 - 1) % 6))) t 0 0 6) (va_cpy (qS (S ((nx + 6 - 1) % 6))) s 0 0 2) (va_cpy (qG (S ((nx + 6 - 1) % 6))) g 0 0 4) (qK (S ((nx + 6 - 1) % 6))) (qLo (S ((nx + 6 - 1) % 6))) (qLf (S ((nx + 6 - 1) % 6))) (va_cpy (qNm (S ((nx + 6 - 1) % 6))) nm 0 0 32) ++ wOth sk cy S)) := by
  refine kI_ofH (cc := cL_undo) (maxL := 2) (by decide) rfl (Nat.le_of_ble_eq_true rfl) ?_
  intro X hR C E
  have C : kC X 2 RL cL_undo wsL_undo cy := C
  refine k_fr (fr2 := [(0, .ref (b 0))]) ⟨[0], rfl⟩ ?_
  refine k_aload_n (q := 1) C 0 dL_undo_0 rfl rfl ?_
  refine k_callVI (n := 0) (q := 4) (pre := ([] : va_W)) (post := ([] : va_W)) (w2 := ((wXo b cy (a 0) r ((nx + 6 - 1) % 6) (sn - 1) ln (svOf sk) (kpOf sk) ik bf ++ wRd r kd hg nu dg ng tk) ++ (wSky a cy (qN (S ((nx + 6 - 1) % 6))) (qLit (S ((nx + 6 - 1) % 6))) (va_cpy (qH (S ((nx + 6 - 1) % 6))) h 0 0 6) (va_cpy (qT (S ((nx + 6 - 1) % 6))) t 0 0 6) (va_cpy (qS (S ((nx + 6 - 1) % 6))) s 0 0 2) (va_cpy (qG (S ((nx + 6 - 1) % 6))) g 0 0 4) (qK (S ((nx + 6 - 1) % 6))) (qLo (S ((nx + 6 - 1) % 6))) (qLf (S ((nx + 6 - 1) % 6))) (va_cpy (qNm (S ((nx + 6 - 1) % 6))) nm 0 0 32) ++ wOth sk cy S))) (As := []) (rest := []) C (c_X3_undo cy a b r nx sn ln sk S ik bf kd hg nu dg ng tk n lit h t s g kn lo lf nm hnx hsn h0) gL_undo_X3_undo rfl rfl rfl (by decide +kernel) (k_room hR (by decide)) ⟨Nat.zero_le _, Nat.zero_le _⟩ (ci := 3) rfl 0 rfl rfl rfl (Nat.le_of_ble_eq_true rfl) ((List.append_nil _).symm) (List.append_nil _) dL_undo_1 rfl ?_
  exact k_fin E dL_undo_4 (rfl) (rfl)
abbrev rm_L_layerOf : Room := { frames := 6, cells := 0, slots := 0, locals := 134 }
theorem in2_L_layerOf : ∀ w ∈ wsX20, w ∈ wsL_layerOf := fun _ h => (List.mem_cons_of_mem _ (List.mem_append_left _ (List.mem_append_left _ (List.mem_append_right _ h))))
theorem in3_L_layerOf : ∀ w ∈ wsX30, w ∈ wsL_layerOf := fun _ h => (List.mem_cons_of_mem _ (List.mem_append_left _ (List.mem_append_left _ (List.mem_append_left _ (List.mem_append_right _ h)))))
set_option maxHeartbeats 4000000 in
set_option maxRecDepth 100000 in
theorem c_L_layerOf (cy : Nat → ClassId) (a : Nat → Nat) (b : Nat → Nat) (r : Nat) (nx : Nat) (sn : Nat) (ln : Nat) (sk : Nat → Nat → Nat) (S : Nat → CK) (ik : Nat → Int32) (bf : Nat → Nat) (kd : Nat) (hg : Nat) (nu : Nat) (dg : Nat) (ng : Bool) (tk : Bool) (n : Nat) (lit : Int32) (h : Nat → Int32) (t : Nat → Int32) (s : Nat → Int32) (g : Nat → Int32) (kn : Nat) (lo : Int32) (lf : Int32) (nm : Nat → Int32) (p : Nat) (w : Nat)  (hn : n ≤ 6) (hp : p < n) (hw : w ≤ 3) : kI yL_layerOf wsL_layerOf rm_L_layerOf cy [.ref (b 0), .int (nI p), .int (nI w)] ((wXo b cy (a 0) r nx sn ln (svOf sk) (kpOf sk) ik bf ++ wRd r kd hg nu dg ng tk) ++ (wSky a cy n lit h t s g kn lo lf nm ++ wOth sk cy S)) (sLy lit h t s g p (nI w)) ((wXo b cy (a 0) r nx sn ln (svOf sk) (kpOf sk) ik bf ++ wRd r kd hg nu dg ng tk) ++ (wSky a cy n lit h t s g kn lo lf nm ++ wOth sk cy S)) := by
  refine kI_ofH (cc := cL_layerOf) (maxL := 4) (by decide) rfl (Nat.le_of_ble_eq_true rfl) ?_
  intro X hR C E
  have C : kC X 4 RL cL_layerOf wsL_layerOf cy := C
  refine k_fr (fr2 := [(0, .ref (b 0)), (1, .int (nI p)), (2, .int (nI w))]) ⟨[0, 1, 2], rfl⟩ ?_
  refine k_aload_n (q := 1) C 0 dL_layerOf_0 rfl rfl ?_
  refine k_iload_n (q := 2) C 1 dL_layerOf_1 rfl rfl ?_
  refine k_iload_n (q := 3) C 2 dL_layerOf_2 rfl rfl ?_
  refine k_callVI (n := 2) (q := 6) (pre := ([] : va_W)) (post := ([] : va_W)) (w2 := ((wXo b cy (a 0) r nx sn ln (svOf sk) (kpOf sk) ik bf ++ wRd r kd hg nu dg ng tk) ++ (wSky a cy n lit h t s g kn lo lf nm ++ wOth sk cy S))) (As := [.int (nI p), .int (nI w)]) (rest := []) C (c_X3_layerOf cy a b r nx sn ln (svOf sk) (kpOf sk) ik bf kd hg nu dg ng tk n lit h t s g kn lo lf nm (wOth sk cy S) p w hn hp hw) gL_layerOf_X3_layerOf rfl rfl rfl (by decide +kernel) (k_room hR (by decide)) ⟨Nat.zero_le _, Nat.zero_le _⟩ (ci := 3) rfl 0 rfl rfl rfl (Nat.le_of_ble_eq_true rfl) (rfl) (rfl) dL_layerOf_3 rfl ?_
  exact k_fin E dL_layerOf_6 (rfl) (rfl)
abbrev rmE_L_layerOf : Room := { frames := 7, cells := 1, slots := 6, locals := 134 }
set_option maxHeartbeats 4000000 in
set_option maxRecDepth 100000 in
theorem c_L_layerOf_e (cy : Nat → ClassId) (a : Nat → Nat) (b : Nat → Nat) (r : Nat) (nx : Nat) (sn : Nat) (ln : Nat) (sk : Nat → Nat → Nat) (S : Nat → CK) (ik : Nat → Int32) (bf : Nat → Nat) (kd : Nat) (hg : Nat) (nu : Nat) (dg : Nat) (ng : Bool) (tk : Bool) (n : Nat) (lit : Int32) (h : Nat → Int32) (t : Nat → Int32) (s : Nat → Int32) (g : Nat → Int32) (kn : Nat) (lo : Int32) (lf : Int32) (nm : Nat → Int32) (x : Int32) (y : Int32)  (hx : ¬ (0 ≤ x ∧ x < nI n)) : kIl yL_layerOf wsL_layerOf rmE_L_layerOf cy [.ref (b 0), .int x, .int y] ((wXo b cy (a 0) r nx sn ln (svOf sk) (kpOf sk) ik bf ++ wRd r kd hg nu dg ng tk) ++ (wSky a cy n lit h t s g kn lo lf nm ++ wOth sk cy S)) (-200001) ((wXo b cy (a 0) r nx sn ln (svOf sk) (kpOf sk) ik bf ++ wRd r kd hg nu dg ng tk) ++ (wSky a cy n lit h t s g kn lo lf nm ++ wOth sk cy S)) 1 6 := by
  refine kIl_of (cc := cL_layerOf) (maxL := 4) (by decide) rfl (Nat.le_of_ble_eq_true rfl) ?_
  intro X hR C Z hst htb E
  have C : kC X 4 RL cL_layerOf wsL_layerOf cy := C
  refine k_fr (fr2 := [(0, .ref (b 0)), (1, .int x), (2, .int y)]) ⟨[0, 1, 2], rfl⟩ ?_
  refine k_aload_n (q := 1) C 0 dL_layerOf_0 rfl rfl ?_
  refine k_iload_n (q := 2) C 1 dL_layerOf_1 rfl rfl ?_
  refine k_iload_n (q := 3) C 2 dL_layerOf_2 rfl rfl ?_
  refine k_callVE (n := 2) (q := 7) (pre := ([] : va_W)) (post := ([] : va_W)) (w2 := ((wXo b cy (a 0) r nx sn ln (svOf sk) (kpOf sk) ik bf ++ wRd r kd hg nu dg ng tk) ++ (wSky a cy n lit h t s g kn lo lf nm ++ wOth sk cy S))) (As := [.int x, .int y]) (rest := []) C Z hst (c_X3_layerOf_e cy a b r nx sn ln (svOf sk) (kpOf sk) ik bf kd hg nu dg ng tk n lit h t s g kn lo lf nm (wOth sk cy S) x y hx) gL_layerOf_X3_layerOf rfl rfl rfl (by decide +kernel) (k_room hR (by decide)) (k_cells hR (by decide)) (ci := 3) rfl 0 rfl rfl rfl (Nat.le_of_ble_eq_true rfl) (rfl) (rfl) dL_layerOf_3 htb [] ⟨0, 6, 7, 26⟩ [⟨0, 6, 11, 16⟩] rfl (fun _ h => absurd h List.not_mem_nil) rfl (by decide) (List.mem_of_getElem? (i := 1) rfl) (List.mem_of_getElem? (i := 2) rfl) rfl (fun q9 => ?_)
  refine k_astore_n (q := 8) (fr2 := [(3, .ref q9), (0, .ref (b 0)), (1, .int x), (2, .int y)]) C dL_layerOf_7 (by decide) rfl rfl ?_
  refine k_ldc (q := 10) (v := -200001) C (List.mem_of_getElem? (i := 3) rfl) dL_layerOf_8 rfl ?_
  exact k_finL E (by omega) (by omega) dL_layerOf_10 (rfl) (rfl)
abbrev rm_L_spot : Room := { frames := 4, cells := 0, slots := 0, locals := 96 }
theorem in2_L_spot : ∀ w ∈ wsX20, w ∈ wsL_spot := fun _ h => (List.mem_cons_of_mem _ (List.mem_append_left _ (List.mem_append_left _ (List.mem_append_right _ h))))
theorem in3_L_spot : ∀ w ∈ wsX30, w ∈ wsL_spot := fun _ h => (List.mem_cons_of_mem _ (List.mem_append_left _ (List.mem_append_left _ (List.mem_append_left _ (List.mem_append_right _ h)))))
set_option maxHeartbeats 4000000 in
set_option maxRecDepth 100000 in
theorem c_L_spot (cy : Nat → ClassId) (a : Nat → Nat) (b : Nat → Nat) (r : Nat) (nx : Nat) (sn : Nat) (ln : Nat) (sk : Nat → Nat → Nat) (S : Nat → CK) (ik : Nat → Int32) (bf : Nat → Nat) (kd : Nat) (hg : Nat) (nu : Nat) (dg : Nat) (ng : Bool) (tk : Bool) (n : Nat) (lit : Int32) (h : Nat → Int32) (t : Nat → Int32) (s : Nat → Int32) (g : Nat → Int32) (kn : Nat) (lo : Int32) (lf : Int32) (nm : Nat → Int32) (j : Nat) (p : Nat) (z : Int32)  (hn : n ≤ 6) (hj : j < 2) (hp : p < n) (hz : 0 ≤ z ∧ z ≤ 4) : kI yL_spot wsL_spot rm_L_spot cy [.ref (b 0), .int (nI j), .int (nI p), .int z] ((wXo b cy (a 0) r nx sn ln (svOf sk) (kpOf sk) ik bf ++ wRd r kd hg nu dg ng tk) ++ (wSky a cy n lit h t s g kn lo lf nm ++ wOth sk cy S)) (if (lit >>> (nI j &&& 31)) &&& 1 = 1 then sSpot h t s g j p z else -99999) ((wXo b cy (a 0) r nx sn ln (svOf sk) (kpOf sk) ik bf ++ wRd r kd hg nu dg ng tk) ++ (wSky a cy n lit h t s g kn lo lf nm ++ wOth sk cy S)) := by
  refine kI_ofH (cc := cL_spot) (maxL := 5) (by decide) rfl (Nat.le_of_ble_eq_true rfl) ?_
  intro X hR C E
  have C : kC X 5 RL cL_spot wsL_spot cy := C
  refine k_fr (fr2 := [(0, .ref (b 0)), (1, .int (nI j)), (2, .int (nI p)), (3, .int z)]) ⟨[0, 1, 2, 3], rfl⟩ ?_
  refine k_aload_n (q := 1) C 0 dL_spot_0 rfl rfl ?_
  refine k_iload_n (q := 2) C 1 dL_spot_1 rfl rfl ?_
  refine k_iload_n (q := 3) C 2 dL_spot_2 rfl rfl ?_
  refine k_iload_n (q := 4) C 3 dL_spot_3 rfl rfl ?_
  refine k_callVI (n := 3) (q := 7) (pre := ([] : va_W)) (post := ([] : va_W)) (w2 := ((wXo b cy (a 0) r nx sn ln (svOf sk) (kpOf sk) ik bf ++ wRd r kd hg nu dg ng tk) ++ (wSky a cy n lit h t s g kn lo lf nm ++ wOth sk cy S))) (As := [.int (nI j), .int (nI p), .int z]) (rest := []) C (c_X3_spot cy a b r nx sn ln (svOf sk) (kpOf sk) ik bf kd hg nu dg ng tk n lit h t s g kn lo lf nm (wOth sk cy S) j p z hn hj hp hz) gL_spot_X3_spot rfl rfl rfl (by decide +kernel) (k_room hR (by decide)) ⟨Nat.zero_le _, Nat.zero_le _⟩ (ci := 3) rfl 0 rfl rfl rfl (Nat.le_of_ble_eq_true rfl) (rfl) (rfl) dL_spot_4 rfl ?_
  exact k_fin E dL_spot_7 (rfl) (rfl)
abbrev rm_L_reading : Room := { frames := 5, cells := 0, slots := 0, locals := 121 }
theorem in2_L_reading : ∀ w ∈ wsX20, w ∈ wsL_reading := fun _ h => (List.mem_cons_of_mem _ (List.mem_append_left _ (List.mem_append_right _ h)))
theorem in3_L_reading : ∀ w ∈ wsX30, w ∈ wsL_reading := fun _ h => (List.mem_cons_of_mem _ (List.mem_append_left _ (List.mem_append_left _ (List.mem_append_right _ h))))
set_option maxHeartbeats 4000000 in
set_option maxRecDepth 100000 in
theorem c_L_reading (cy : Nat → ClassId) (a : Nat → Nat) (b : Nat → Nat) (r : Nat) (nx : Nat) (sn : Nat) (ln : Nat) (sk : Nat → Nat → Nat) (S : Nat → CK) (ik : Nat → Int32) (bf : Nat → Nat) (kd : Nat) (hg : Nat) (nu : Nat) (dg : Nat) (ng : Bool) (tk : Bool) (n : Nat) (lit : Int32) (h : Nat → Int32) (t : Nat → Int32) (s : Nat → Int32) (g : Nat → Int32) (kn : Nat) (lo : Int32) (lf : Int32) (nm : Nat → Int32) (x : Int32)  (hn : n ≤ 6) (hx : 0 ≤ x ∧ x ≤ 3) : kI yL_reading wsL_reading rm_L_reading cy [.ref (b 0), .int x] ((wXo b cy (a 0) r nx sn ln (svOf sk) (kpOf sk) ik bf ++ wRd r kd hg nu dg ng tk) ++ (wSky a cy n lit h t s g kn lo lf nm ++ wOth sk cy S)) (sRn lit h t s g n x) ((wXo b cy (a 0) r nx sn ln (svOf sk) (kpOf sk) ik bf ++ wRd r kd hg nu dg ng tk) ++ (wSky a cy n lit h t s g kn lo lf nm ++ wOth sk cy S)) := by
  refine kI_ofH (cc := cL_reading) (maxL := 3) (by decide) rfl (Nat.le_of_ble_eq_true rfl) ?_
  intro X hR C E
  have C : kC X 3 RL cL_reading wsL_reading cy := C
  refine k_fr (fr2 := [(0, .ref (b 0)), (1, .int x)]) ⟨[0, 1], rfl⟩ ?_
  refine k_aload_n (q := 1) C 0 dL_reading_0 rfl rfl ?_
  refine k_iload_n (q := 2) C 1 dL_reading_1 rfl rfl ?_
  refine k_callVI (n := 1) (q := 5) (pre := ([] : va_W)) (post := ([] : va_W)) (w2 := ((wXo b cy (a 0) r nx sn ln (svOf sk) (kpOf sk) ik bf ++ wRd r kd hg nu dg ng tk) ++ (wSky a cy n lit h t s g kn lo lf nm ++ wOth sk cy S))) (As := [.int x]) (rest := []) C (c_X3_reading cy a b r nx sn ln (svOf sk) (kpOf sk) ik bf kd hg nu dg ng tk n lit h t s g kn lo lf nm (wOth sk cy S) x hn hx) gL_reading_X3_reading rfl rfl rfl (by decide +kernel) (k_room hR (by decide)) ⟨Nat.zero_le _, Nat.zero_le _⟩ (ci := 3) rfl 0 rfl rfl rfl (Nat.le_of_ble_eq_true rfl) (rfl) (rfl) dL_reading_2 rfl ?_
  exact k_fin E dL_reading_5 (rfl) (rfl)
abbrev rm_L_night : Room := { frames := 2, cells := 0, slots := 0, locals := 44 }
theorem in0_L_night : ∀ w ∈ wsX00, w ∈ wsL_night := fun _ h => (List.mem_cons_of_mem _ (List.mem_append_left _ (List.mem_append_right _ h)))
theorem in2_L_night : ∀ w ∈ wsX20, w ∈ wsL_night := fun _ h => (List.mem_cons_of_mem _ (List.mem_append_left _ (List.mem_append_left _ (List.mem_append_right _ h))))
theorem in3_L_night : ∀ w ∈ wsX30, w ∈ wsL_night := fun _ h => (List.mem_cons_of_mem _ (List.mem_append_left _ (List.mem_append_left _ (List.mem_append_left _ (List.mem_append_right _ h)))))
set_option maxHeartbeats 4000000 in
set_option maxRecDepth 100000 in
theorem c_L_night (cy : Nat → ClassId) (a : Nat → Nat) (b : Nat → Nat) (r : Nat) (nx : Nat) (sn : Nat) (ln : Nat) (sk : Nat → Nat → Nat) (S : Nat → CK) (ik : Nat → Int32) (bf : Nat → Nat) (kd : Nat) (hg : Nat) (nu : Nat) (dg : Nat) (ng : Bool) (tk : Bool) (n : Nat) (lit : Int32) (h : Nat → Int32) (t : Nat → Int32) (s : Nat → Int32) (g : Nat → Int32) (kn : Nat) (lo : Int32) (lf : Int32) (nm : Nat → Int32) (j : Nat) (w : Nat)  (hk : kn ≤ 8) (hw : w ≤ 3) (hj : j < 2 ^ 31) : kI yL_night wsL_night rm_L_night cy [.ref (b 0), .int (nI j), .int (nI w)] ((wXo b cy (a 0) r nx sn ln (svOf sk) (kpOf sk) ik bf ++ wRd r kd hg nu dg ng tk) ++ (wSky a cy n lit h t s g kn lo lf nm ++ wOth sk cy S)) (sNight kn nm j w) ((wXo b cy (a 0) r nx sn ln (svOf sk) (kpOf sk) ik bf ++ wRd r kd hg nu dg ng tk) ++ (wSky a cy n lit h t s g kn lo lf nm ++ wOth sk cy S)) := by
  refine kI_ofH (cc := cL_night) (maxL := 4) (by decide) rfl (Nat.le_of_ble_eq_true rfl) ?_
  intro X hR C E
  have C : kC X 4 RL cL_night wsL_night cy := C
  refine k_fr (fr2 := [(0, .ref (b 0)), (1, .int (nI j)), (2, .int (nI w))]) ⟨[0, 1, 2], rfl⟩ ?_
  refine k_aload_n (q := 1) C 0 dL_night_0 rfl rfl ?_
  refine k_iload_n (q := 2) C 1 dL_night_1 rfl rfl ?_
  refine k_iload_n (q := 3) C 2 dL_night_2 rfl rfl ?_
  refine k_callVI (n := 2) (q := 6) (pre := ([] : va_W)) (post := ([] : va_W)) (w2 := ((wXo b cy (a 0) r nx sn ln (svOf sk) (kpOf sk) ik bf ++ wRd r kd hg nu dg ng tk) ++ (wSky a cy n lit h t s g kn lo lf nm ++ wOth sk cy S))) (As := [.int (nI j), .int (nI w)]) (rest := []) C (c_X3_night cy a b r nx sn ln (svOf sk) (kpOf sk) ik bf kd hg nu dg ng tk n lit h t s g kn lo lf nm (wOth sk cy S) j w hk hw hj) gL_night_X3_night rfl rfl rfl (by decide +kernel) (k_room hR (by decide)) ⟨Nat.zero_le _, Nat.zero_le _⟩ (ci := 3) rfl 0 rfl rfl rfl (Nat.le_of_ble_eq_true rfl) (rfl) (rfl) dL_night_3 rfl ?_
  exact k_fin E dL_night_6 (rfl) (rfl)
abbrev rm_L_count : Room := { frames := 7, cells := 0, slots := 0, locals := 155 }
theorem in0_L_count : ∀ w ∈ wsX00, w ∈ wsL_count := fun _ h => (List.mem_cons_of_mem _ (List.mem_append_left _ (List.mem_append_right _ h)))
theorem in2_L_count : ∀ w ∈ wsX20, w ∈ wsL_count := fun _ h => (List.mem_cons_of_mem _ (List.mem_append_left _ (List.mem_append_left _ (List.mem_append_right _ h))))
theorem in3_L_count : ∀ w ∈ wsX30, w ∈ wsL_count := fun _ h => (List.mem_cons_of_mem _ (List.mem_append_left _ (List.mem_append_left _ (List.mem_append_left _ (List.mem_append_right _ h)))))
set_option maxHeartbeats 4000000 in
set_option maxRecDepth 100000 in
theorem c_L_count (cy : Nat → ClassId) (a : Nat → Nat) (b : Nat → Nat) (r : Nat) (nx : Nat) (sn : Nat) (ln : Nat) (sk : Nat → Nat → Nat) (S : Nat → CK) (ik : Nat → Int32) (bf : Nat → Nat) (kd : Nat) (hg : Nat) (nu : Nat) (dg : Nat) (ng : Bool) (tk : Bool) (n : Nat) (lit : Int32) (h : Nat → Int32) (t : Nat → Int32) (s : Nat → Int32) (g : Nat → Int32) (kn : Nat) (lo : Int32) (lf : Int32) (nm : Nat → Int32) (w : Nat)  (hn : n ≤ 6) (hw : w ≤ 16) : kI yL_count wsL_count rm_L_count cy [.ref (b 0), .int (nI w)] ((wXo b cy (a 0) r nx sn ln (svOf sk) (kpOf sk) ik bf ++ wRd r kd hg nu dg ng tk) ++ (wSky a cy n lit h t s g kn lo lf nm ++ wOth sk cy S)) (xTc sn ln n lit h t s g kn lo lf w) ((wXo b cy (a 0) r nx sn ln (svOf sk) (kpOf sk) ik bf ++ wRd r kd hg nu dg ng tk) ++ (wSky a cy n lit h t s g kn lo lf nm ++ wOth sk cy S)) := by
  refine kI_ofH (cc := cL_count) (maxL := 3) (by decide) rfl (Nat.le_of_ble_eq_true rfl) ?_
  intro X hR C E
  have C : kC X 3 RL cL_count wsL_count cy := C
  refine k_fr (fr2 := [(0, .ref (b 0)), (1, .int (nI w))]) ⟨[0, 1], rfl⟩ ?_
  refine k_aload_n (q := 1) C 0 dL_count_0 rfl rfl ?_
  refine k_iload_n (q := 2) C 1 dL_count_1 rfl rfl ?_
  refine k_callVI (n := 1) (q := 5) (pre := ([] : va_W)) (post := ([] : va_W)) (w2 := ((wXo b cy (a 0) r nx sn ln (svOf sk) (kpOf sk) ik bf ++ wRd r kd hg nu dg ng tk) ++ (wSky a cy n lit h t s g kn lo lf nm ++ wOth sk cy S))) (As := [.int (nI w)]) (rest := []) C (c_X3_count cy a b r nx sn ln (svOf sk) (kpOf sk) ik bf kd hg nu dg ng tk n lit h t s g kn lo lf nm (wOth sk cy S) w hn hw) gL_count_X3_count rfl rfl rfl (by decide +kernel) (k_room hR (by decide)) ⟨Nat.zero_le _, Nat.zero_le _⟩ (ci := 3) rfl 0 rfl rfl rfl (Nat.le_of_ble_eq_true rfl) (rfl) (rfl) dL_count_2 rfl ?_
  exact k_fin E dL_count_5 (rfl) (rfl)
abbrev rm_L_nearest : Room := { frames := 4, cells := 0, slots := 0, locals := 103 }
theorem in2_L_nearest : ∀ w ∈ wsX20, w ∈ wsL_nearest := fun _ h => (List.mem_cons_of_mem _ (List.mem_append_left _ (List.mem_append_left _ (List.mem_append_right _ h))))
theorem in3_L_nearest : ∀ w ∈ wsX30, w ∈ wsL_nearest := fun _ h => (List.mem_cons_of_mem _ (List.mem_append_left _ (List.mem_append_left _ (List.mem_append_left _ (List.mem_append_right _ h)))))
set_option maxHeartbeats 4000000 in
set_option maxRecDepth 100000 in
theorem c_L_nearest (cy : Nat → ClassId) (a : Nat → Nat) (b : Nat → Nat) (r : Nat) (nx : Nat) (sn : Nat) (ln : Nat) (sk : Nat → Nat → Nat) (S : Nat → CK) (ik : Nat → Int32) (bf : Nat → Nat) (kd : Nat) (hg : Nat) (nu : Nat) (dg : Nat) (ng : Bool) (tk : Bool) (n : Nat) (lit : Int32) (h : Nat → Int32) (t : Nat → Int32) (s : Nat → Int32) (g : Nat → Int32) (kn : Nat) (lo : Int32) (lf : Int32) (nm : Nat → Int32) (j : Nat) (p : Nat) (z : Int32)  (hn : n ≤ 6) (hj : j < 2) (hp : p < n) (hz : z = 0 ∨ z = 1) (hh : 0 < h p) : kI yL_nearest wsL_nearest rm_L_nearest cy [.ref (b 0), .int (nI j), .int (nI p), .int z] ((wXo b cy (a 0) r nx sn ln (svOf sk) (kpOf sk) ik bf ++ wRd r kd hg nu dg ng tk) ++ (wSky a cy n lit h t s g kn lo lf nm ++ wOth sk cy S)) ((if z = 0 then iI (sTry g h s j p) else iI (sCmp g h s j p)) + 100) ((wXo b cy (a 0) r nx sn ln (svOf sk) (kpOf sk) ik bf ++ wRd r kd hg nu dg ng tk) ++ (wSky a cy n lit h t s g kn lo lf nm ++ wOth sk cy S)) := by
  refine kI_ofH (cc := cL_nearest) (maxL := 5) (by decide) rfl (Nat.le_of_ble_eq_true rfl) ?_
  intro X hR C E
  have C : kC X 5 RL cL_nearest wsL_nearest cy := C
  refine k_fr (fr2 := [(0, .ref (b 0)), (1, .int (nI j)), (2, .int (nI p)), (3, .int z)]) ⟨[0, 1, 2, 3], rfl⟩ ?_
  refine k_aload_n (q := 1) C 0 dL_nearest_0 rfl rfl ?_
  refine k_iload_n (q := 2) C 1 dL_nearest_1 rfl rfl ?_
  refine k_iload_n (q := 3) C 2 dL_nearest_2 rfl rfl ?_
  refine k_iload_n (q := 4) C 3 dL_nearest_3 rfl rfl ?_
  refine k_callVI (n := 3) (q := 7) (pre := ([] : va_W)) (post := ([] : va_W)) (w2 := ((wXo b cy (a 0) r nx sn ln (svOf sk) (kpOf sk) ik bf ++ wRd r kd hg nu dg ng tk) ++ (wSky a cy n lit h t s g kn lo lf nm ++ wOth sk cy S))) (As := [.int (nI j), .int (nI p), .int z]) (rest := []) C (c_X3_nearest cy a b r nx sn ln (svOf sk) (kpOf sk) ik bf kd hg nu dg ng tk n lit h t s g kn lo lf nm (wOth sk cy S) j p z hn hj hp hz hh) gL_nearest_X3_nearest rfl rfl rfl (by decide +kernel) (k_room hR (by decide)) ⟨Nat.zero_le _, Nat.zero_le _⟩ (ci := 3) rfl 0 rfl rfl rfl (Nat.le_of_ble_eq_true rfl) (rfl) (rfl) dL_nearest_4 rfl ?_
  exact k_fin E dL_nearest_7 (rfl) (rfl)
abbrev rm_L_ifScanned : Room := { frames := 6, cells := 0, slots := 0, locals := 146 }
theorem in2_L_ifScanned : ∀ w ∈ wsX20, w ∈ wsL_ifScanned := fun _ h => (List.mem_cons_of_mem _ (List.mem_append_left _ (List.mem_append_left _ (List.mem_append_right _ h))))
theorem in3_L_ifScanned : ∀ w ∈ wsX30, w ∈ wsL_ifScanned := fun _ h => (List.mem_cons_of_mem _ (List.mem_append_left _ (List.mem_append_left _ (List.mem_append_left _ (List.mem_append_right _ h)))))
set_option maxHeartbeats 4000000 in
set_option maxRecDepth 100000 in
theorem c_L_ifScanned (cy : Nat → ClassId) (a : Nat → Nat) (b : Nat → Nat) (r : Nat) (nx : Nat) (sn : Nat) (ln : Nat) (sk : Nat → Nat → Nat) (S : Nat → CK) (ik : Nat → Int32) (bf : Nat → Nat) (kd : Nat) (hg : Nat) (nu : Nat) (dg : Nat) (ng : Bool) (tk : Bool) (n : Nat) (lit : Int32) (h : Nat → Int32) (t : Nat → Int32) (s : Nat → Int32) (g : Nat → Int32) (kn : Nat) (lo : Int32) (lf : Int32) (nm : Nat → Int32) (j : Nat) (w : Nat)  (hn : n ≤ 6) (hj : j < 2) (hw : w ≤ 3) : kI yL_ifScanned wsL_ifScanned rm_L_ifScanned cy [.ref (b 0), .int (nI j), .int (nI w)] ((wXo b cy (a 0) r nx sn ln (svOf sk) (kpOf sk) ik bf ++ wRd r kd hg nu dg ng tk) ++ (wSky a cy n lit h t s g kn lo lf nm ++ wOth sk cy S)) (sIf lit h t s g n j w) ((wXo b cy (a 0) r nx sn ln (svOf sk) (kpOf sk) ik bf ++ wRd r kd hg nu dg ng tk) ++ (wSky a cy n lit h t s g kn lo lf nm ++ wOth sk cy S)) := by
  refine kI_ofH (cc := cL_ifScanned) (maxL := 4) (by decide) rfl (Nat.le_of_ble_eq_true rfl) ?_
  intro X hR C E
  have C : kC X 4 RL cL_ifScanned wsL_ifScanned cy := C
  refine k_fr (fr2 := [(0, .ref (b 0)), (1, .int (nI j)), (2, .int (nI w))]) ⟨[0, 1, 2], rfl⟩ ?_
  refine k_aload_n (q := 1) C 0 dL_ifScanned_0 rfl rfl ?_
  refine k_iload_n (q := 2) C 1 dL_ifScanned_1 rfl rfl ?_
  refine k_iload_n (q := 3) C 2 dL_ifScanned_2 rfl rfl ?_
  refine k_callVI (n := 2) (q := 6) (pre := ([] : va_W)) (post := ([] : va_W)) (w2 := ((wXo b cy (a 0) r nx sn ln (svOf sk) (kpOf sk) ik bf ++ wRd r kd hg nu dg ng tk) ++ (wSky a cy n lit h t s g kn lo lf nm ++ wOth sk cy S))) (As := [.int (nI j), .int (nI w)]) (rest := []) C (c_X3_ifScanned cy a b r nx sn ln (svOf sk) (kpOf sk) ik bf kd hg nu dg ng tk n lit h t s g kn lo lf nm (wOth sk cy S) j w hn hj hw) gL_ifScanned_X3_ifScanned rfl rfl rfl (by decide +kernel) (k_room hR (by decide)) ⟨Nat.zero_le _, Nat.zero_le _⟩ (ci := 3) rfl 0 rfl rfl rfl (Nat.le_of_ble_eq_true rfl) (rfl) (rfl) dL_ifScanned_3 rfl ?_
  exact k_fin E dL_ifScanned_6 (rfl) (rfl)
