abbrev rm_X3_layer : Room := { frames := 5, cells := 0, slots := 0, locals := 115 }
theorem in0_X3_layer : ∀ w ∈ wsX00, w ∈ wsX3_layer := fun _ h => (List.mem_cons_of_mem _ (List.mem_append_left _ (List.mem_append_left _ (List.mem_append_right _ h))))
theorem in2_X3_layer : ∀ w ∈ wsX20, w ∈ wsX3_layer := fun _ h => (List.mem_cons_of_mem _ (List.mem_append_left _ (List.mem_append_left _ (List.mem_append_left _ (List.mem_append_right _ h)))))
theorem in3_X3_layer : ∀ w ∈ wsX30, w ∈ wsX3_layer := fun _ h => (List.mem_cons_of_mem _ (List.mem_append_left _ (List.mem_append_left _ (List.mem_append_left _ (List.mem_append_left _ (List.mem_append_right _ h))))))
set_option maxHeartbeats 4000000 in
set_option maxRecDepth 100000 in
theorem c_X3_layer (cy : Nat → ClassId) (a : Nat → Nat) (b : Nat → Nat) (r : Nat) (nx : Nat) (sn : Nat) (ln : Nat) (sk : Nat → Nat → Nat) (S : Nat → CK) (ik : Nat → Int32) (bf : Nat → Nat) (kd : Nat) (hg : Nat) (nu : Nat) (dg : Nat) (ng : Bool) (tk : Bool) (n : Nat) (lit : Int32) (h : Nat → Int32) (t : Nat → Int32) (s : Nat → Int32) (g : Nat → Int32) (kn : Nat) (lo : Int32) (lf : Int32) (nm : Nat → Int32) (x : Int32) (y : Int32)  (hnx : nx < 6) (hsn : sn ≤ 6) (hx : 50 ≤ x ∧ x ≤ 3000) (hy : 1 ≤ y ∧ y ≤ 100) (ha : sAny h x n = false) (hn : n < 6) : kI yX3_layer wsX3_layer rm_X3_layer cy [.ref (b 0), .int x, .int y] ((wXo b cy (a 0) r nx sn ln (svOf sk) (kpOf sk) ik bf ++ wRd r kd hg nu dg ng tk) ++ (wSky a cy n lit h t s g kn lo lf nm ++ wOth sk cy S)) (nI (sPos h x n)) ((wXo b cy (a 0) r ((nx + 1) % 6) (min (sn + 1) 6) ln (svOf sk) (kpOf sk) ik bf ++ wRd r kd hg nu dg ng tk) ++ (wSky a cy (n + 1) lit (sIns h n (sPos h x n) x) (sIns t n (sPos h x n) y) s g kn lo lf nm ++ wOth sk cy (updS S nx (cLike (n, lit, h, t, s, g, kn, lo, lf, nm) (S nx))))) := by
  refine kI_of (cc := cX3_layer) (maxL := 3) (rt := .int) (by decide) rfl (rfl) (Nat.le_of_ble_eq_true rfl) ?_
  intro X hR C E
  have C : kC X 3 RX3 cX3_layer wsX3_layer cy := C
  refine k_fr (fr2 := [(0, .ref (b 0)), (1, .int x), (2, .int y)]) ⟨[0, 1, 2], rfl⟩ ?_
  refine k_iload_n (q := 1) C 1 dX3_layer_0 rfl rfl ?_
  refine k_bipush (q := 3) (v := 50) C dX3_layer_1 (by decide +kernel) rfl ?_
  refine k_icmp_lt (tgt := 20) (q := 6) C dX3_layer_3 (by decide) rfl ?_ ?_
  · exact fun c_3 => absurd c_3 (Int32.not_lt.mpr hx.1)
  · intro c_3
    refine k_iload_n (q := 7) C 1 dX3_layer_6 rfl rfl ?_
    refine k_sipush (q := 10) (v := 3000) C dX3_layer_7 (by decide +kernel) rfl ?_
    refine k_icmp_gt (tgt := 20) (q := 13) C dX3_layer_10 (by decide) rfl ?_ ?_
    · exact fun c_10 => absurd c_10 (Int32.not_lt.mpr hx.2)
    · intro c_10
      refine k_iload_n (q := 14) C 2 dX3_layer_13 rfl rfl ?_
      refine k_callSI (n := 1) (q := 17) (pre := ([] : va_W)) (post := ((wXo b cy (a 0) r nx sn ln (svOf sk) (kpOf sk) ik bf ++ wRd r kd hg nu dg ng tk) ++ (wSky a cy n lit h t s g kn lo lf nm ++ wOth sk cy S))) (w2 := ((wXo b cy (a 0) r nx sn ln (svOf sk) (kpOf sk) ik bf ++ wRd r kd hg nu dg ng tk) ++ (wSky a cy n lit h t s g kn lo lf nm ++ wOth sk cy S))) (As := [.int y]) (rest := []) C (c_X3_isThickness y) gX3_layer_X3_isThickness rfl rfl rfl (by decide +kernel) (k_room hR (by decide)) ⟨Nat.zero_le _, Nat.zero_le _⟩  rfl rfl (Nat.le_of_ble_eq_true rfl) (rfl) (rfl) dX3_layer_14 rfl ?_
      refine k_ifB_ne (tgt := 30) (q := 20) C dX3_layer_17 (by decide) rfl ?_ ?_
      · intro c_17
        refine k_aload_n (q := 31) C 0 dX3_layer_30 rfl rfl ?_
        refine k_get (q := 34) (ci := 3) (v := .ref (a 0)) C 0 0 in3_X3_layer rfl (List.mem_of_getElem? (i := 5) rfl) rfl rfl (by decide) rfl dX3_layer_31 rfl ?_
        refine k_iload_n (q := 35) C 1 dX3_layer_34 rfl rfl ?_
        refine k_callVI (n := 1) (q := 38) (pre := (wXo b cy (a 0) r nx sn ln (svOf sk) (kpOf sk) ik bf ++ wRd r kd hg nu dg ng tk)) (post := (wOth sk cy S)) (w2 := ((wXo b cy (a 0) r nx sn ln (svOf sk) (kpOf sk) ik bf ++ wRd r kd hg nu dg ng tk) ++ (wSky a cy n lit h t s g kn lo lf nm ++ wOth sk cy S))) (As := [.int x]) (rest := []) C (c_X2_takesLayer cy a n lit h t s g kn lo lf nm x (by omega)) gX3_layer_X2_takesLayer rfl rfl rfl (by decide +kernel) (k_room hR (by decide)) ⟨Nat.zero_le _, Nat.zero_le _⟩ (ci := 2) rfl 0 rfl rfl rfl (Nat.le_of_ble_eq_true rfl) (rfl) (rfl) dX3_layer_35 rfl ?_
        refine k_ifB_ne (tgt := 51) (q := 41) C dX3_layer_38 (by decide) rfl ?_ ?_
        · intro c_38
          refine k_aload_n (q := 52) C 0 dX3_layer_51 rfl rfl ?_
          refine k_callVV (n := 0) (q := 55) (pre := ([] : va_W)) (post := ([] : va_W)) (w2 := ((wXo b cy (a 0) r ((nx + 1) % 6) (min (sn + 1) 6) ln (svOf sk) (kpOf sk) ik bf ++ wRd r kd hg nu dg ng tk) ++ (wSky a cy n lit h t s g kn lo lf nm ++ wOth sk cy (updS S nx (cLike (n, lit, h, t, s, g, kn, lo, lf, nm) (S nx)))))) (As := []) (rest := []) C (c_X3_saveState cy a b r nx sn ln sk S ik bf kd hg nu dg ng tk n lit h t s g kn lo lf nm hnx hsn) gX3_layer_X3_saveState rfl rfl rfl (by decide +kernel) (k_room hR (by decide)) ⟨Nat.zero_le _, Nat.zero_le _⟩ (ci := 3) rfl 0 rfl rfl rfl (Nat.le_of_ble_eq_true rfl) ((List.append_nil _).symm) (List.append_nil _) dX3_layer_52 rfl ?_
          refine k_aload_n (q := 56) C 0 dX3_layer_55 rfl rfl ?_
          refine k_get (q := 59) (ci := 3) (v := .ref (a 0)) C 0 0 in3_X3_layer rfl (List.mem_of_getElem? (i := 5) rfl) rfl rfl (by decide) rfl dX3_layer_56 rfl ?_
          refine k_iload_n (q := 60) C 1 dX3_layer_59 rfl rfl ?_
          refine k_iload_n (q := 61) C 2 dX3_layer_60 rfl rfl ?_
          refine k_callVI (n := 2) (q := 64) (pre := (wXo b cy (a 0) r ((nx + 1) % 6) (min (sn + 1) 6) ln (svOf sk) (kpOf sk) ik bf ++ wRd r kd hg nu dg ng tk)) (post := (wOth sk cy (updS S nx (cLike (n, lit, h, t, s, g, kn, lo, lf, nm) (S nx))))) (w2 := ((wXo b cy (a 0) r ((nx + 1) % 6) (min (sn + 1) 6) ln (svOf sk) (kpOf sk) ik bf ++ wRd r kd hg nu dg ng tk) ++ (wSky a cy (n + 1) lit (sIns h n (sPos h x n) x) (sIns t n (sPos h x n) y) s g kn lo lf nm ++ wOth sk cy (updS S nx (cLike (n, lit, h, t, s, g, kn, lo, lf, nm) (S nx)))))) (As := [.int x, .int y]) (rest := []) C (c_X2_addLayer cy a n lit h t s g kn lo lf nm x y (by omega)) gX3_layer_X2_addLayer rfl rfl rfl (by decide +kernel) (k_room hR (by decide)) ⟨Nat.zero_le _, Nat.zero_le _⟩ (ci := 2) rfl 0 rfl rfl rfl (Nat.le_of_ble_eq_true rfl) (rfl) (rfl) dX3_layer_61 rfl ?_
          exact k_fin E dX3_layer_64 (rfl) (rfl)
        · exact fun c_38 => absurd ⟨ha, hn⟩ c_38
      · exact fun c_17 => absurd hy c_17
abbrev rm_X3_clear : Room := { frames := 5, cells := 0, slots := 0, locals := 115 }
theorem in0_X3_clear : ∀ w ∈ wsX00, w ∈ wsX3_clear := fun _ h => (List.mem_cons_of_mem _ (List.mem_append_left _ (List.mem_append_right _ h)))
theorem in2_X3_clear : ∀ w ∈ wsX20, w ∈ wsX3_clear := fun _ h => (List.mem_cons_of_mem _ (List.mem_append_left _ (List.mem_append_left _ (List.mem_append_right _ h))))
theorem in3_X3_clear : ∀ w ∈ wsX30, w ∈ wsX3_clear := fun _ h => (List.mem_cons_of_mem _ (List.mem_append_left _ (List.mem_append_left _ (List.mem_append_left _ (List.mem_append_right _ h)))))
set_option maxHeartbeats 4000000 in
set_option maxRecDepth 100000 in
theorem c_X3_clear (cy : Nat → ClassId) (a : Nat → Nat) (b : Nat → Nat) (r : Nat) (nx : Nat) (sn : Nat) (ln : Nat) (sk : Nat → Nat → Nat) (S : Nat → CK) (ik : Nat → Int32) (bf : Nat → Nat) (kd : Nat) (hg : Nat) (nu : Nat) (dg : Nat) (ng : Bool) (tk : Bool) (n : Nat) (lit : Int32) (h : Nat → Int32) (t : Nat → Int32) (s : Nat → Int32) (g : Nat → Int32) (kn : Nat) (lo : Int32) (lf : Int32) (nm : Nat → Int32) (p : Nat)  (hnx : nx < 6) (hsn : sn ≤ 6) (hn : n ≤ 6) (hp : p < n) : kI yX3_clear wsX3_clear rm_X3_clear cy [.ref (b 0), .int (nI p)] ((wXo b cy (a 0) r nx sn ln (svOf sk) (kpOf sk) ik bf ++ wRd r kd hg nu dg ng tk) ++ (wSky a cy n lit h t s g kn lo lf nm ++ wOth sk cy S)) (h p) ((wXo b cy (a 0) r ((nx + 1) % 6) (min (sn + 1) 6) ln (svOf sk) (kpOf sk) ik bf ++ wRd r kd hg nu dg ng tk) ++ (wSky a cy (n - 1) lit (sDn h p n) (sDn t p n) s g kn lo lf nm ++ wOth sk cy (updS S nx (cLike (n, lit, h, t, s, g, kn, lo, lf, nm) (S nx))))) := by
  refine kI_of (cc := cX3_clear) (maxL := 2) (rt := .int) (by decide) rfl (rfl) (Nat.le_of_ble_eq_true rfl) ?_
  intro X hR C E
  have C : kC X 2 RX3 cX3_clear wsX3_clear cy := C
  refine k_fr (fr2 := [(0, .ref (b 0)), (1, .int (nI p))]) ⟨[0, 1], rfl⟩ ?_
  refine k_aload_n (q := 1) C 0 dX3_clear_0 rfl rfl ?_
  refine k_get (q := 4) (ci := 3) (v := .ref (a 0)) C 0 0 in3_X3_clear rfl (List.mem_of_getElem? (i := 3) rfl) rfl rfl (by decide) rfl dX3_clear_1 rfl ?_
  refine k_iload_n (q := 5) C 1 dX3_clear_4 rfl rfl ?_
  refine k_callVI (n := 1) (q := 8) (pre := (wXo b cy (a 0) r nx sn ln (svOf sk) (kpOf sk) ik bf ++ wRd r kd hg nu dg ng tk)) (post := (wOth sk cy S)) (w2 := ((wXo b cy (a 0) r nx sn ln (svOf sk) (kpOf sk) ik bf ++ wRd r kd hg nu dg ng tk) ++ (wSky a cy n lit h t s g kn lo lf nm ++ wOth sk cy S))) (As := [.int (nI p)]) (rest := []) C (c_X2_hasLayer cy a n lit h t s g kn lo lf nm (nI p)) gX3_clear_X2_hasLayer rfl rfl rfl (by decide +kernel) (k_room hR (by decide)) ⟨Nat.zero_le _, Nat.zero_le _⟩ (ci := 2) rfl 0 rfl rfl rfl (Nat.le_of_ble_eq_true rfl) (rfl) (rfl) dX3_clear_5 rfl ?_
  refine k_ifB_ne (tgt := 21) (q := 11) C dX3_clear_8 (by decide) rfl ?_ ?_
  · intro c_8
    refine k_aload_n (q := 22) C 0 dX3_clear_21 rfl rfl ?_
    refine k_callVV (n := 0) (q := 25) (pre := ([] : va_W)) (post := ([] : va_W)) (w2 := ((wXo b cy (a 0) r ((nx + 1) % 6) (min (sn + 1) 6) ln (svOf sk) (kpOf sk) ik bf ++ wRd r kd hg nu dg ng tk) ++ (wSky a cy n lit h t s g kn lo lf nm ++ wOth sk cy (updS S nx (cLike (n, lit, h, t, s, g, kn, lo, lf, nm) (S nx)))))) (As := []) (rest := []) C (c_X3_saveState cy a b r nx sn ln sk S ik bf kd hg nu dg ng tk n lit h t s g kn lo lf nm hnx hsn) gX3_clear_X3_saveState rfl rfl rfl (by decide +kernel) (k_room hR (by decide)) ⟨Nat.zero_le _, Nat.zero_le _⟩ (ci := 3) rfl 0 rfl rfl rfl (Nat.le_of_ble_eq_true rfl) ((List.append_nil _).symm) (List.append_nil _) dX3_clear_22 rfl ?_
    refine k_aload_n (q := 26) C 0 dX3_clear_25 rfl rfl ?_
    refine k_get (q := 29) (ci := 3) (v := .ref (a 0)) C 0 0 in3_X3_clear rfl (List.mem_of_getElem? (i := 3) rfl) rfl rfl (by decide) rfl dX3_clear_26 rfl ?_
    refine k_iload_n (q := 30) C 1 dX3_clear_29 rfl rfl ?_
    refine k_callVI (n := 1) (q := 33) (pre := (wXo b cy (a 0) r ((nx + 1) % 6) (min (sn + 1) 6) ln (svOf sk) (kpOf sk) ik bf ++ wRd r kd hg nu dg ng tk)) (post := (wOth sk cy (updS S nx (cLike (n, lit, h, t, s, g, kn, lo, lf, nm) (S nx))))) (w2 := ((wXo b cy (a 0) r ((nx + 1) % 6) (min (sn + 1) 6) ln (svOf sk) (kpOf sk) ik bf ++ wRd r kd hg nu dg ng tk) ++ (wSky a cy (n - 1) lit (sDn h p n) (sDn t p n) s g kn lo lf nm ++ wOth sk cy (updS S nx (cLike (n, lit, h, t, s, g, kn, lo, lf, nm) (S nx)))))) (As := [.int (nI p)]) (rest := []) C (c_X2_removeLayer cy a n lit h t s g kn lo lf nm p (by omega) (by omega)) gX3_clear_X2_removeLayer rfl rfl rfl (by decide +kernel) (k_room hR (by decide)) ⟨Nat.zero_le _, Nat.zero_le _⟩ (ci := 2) rfl 0 rfl rfl rfl (Nat.le_of_ble_eq_true rfl) (rfl) (rfl) dX3_clear_30 rfl ?_
    exact k_fin E dX3_clear_33 (rfl) (rfl)
  · exact fun c_8 => absurd ⟨nI_pos' (by omega), nI_lt hp (by omega)⟩ c_8
abbrev rm_X3_clearThin : Room := { frames := 5, cells := 0, slots := 0, locals := 115 }
theorem in0_X3_clearThin : ∀ w ∈ wsX00, w ∈ wsX3_clearThin := fun _ h => (List.mem_cons_of_mem _ (List.mem_append_left _ (List.mem_append_right _ h)))
theorem in2_X3_clearThin : ∀ w ∈ wsX20, w ∈ wsX3_clearThin := fun _ h => (List.mem_cons_of_mem _ (List.mem_append_left _ (List.mem_append_left _ (List.mem_append_right _ h))))
theorem in3_X3_clearThin : ∀ w ∈ wsX30, w ∈ wsX3_clearThin := fun _ h => (List.mem_cons_of_mem _ (List.mem_append_left _ (List.mem_append_left _ (List.mem_append_left _ (List.mem_append_right _ h)))))
set_option maxHeartbeats 4000000 in
set_option maxRecDepth 100000 in
theorem c_X3_clearThin (cy : Nat → ClassId) (a : Nat → Nat) (b : Nat → Nat) (r : Nat) (nx : Nat) (sn : Nat) (ln : Nat) (sk : Nat → Nat → Nat) (S : Nat → CK) (ik : Nat → Int32) (bf : Nat → Nat) (kd : Nat) (hg : Nat) (nu : Nat) (dg : Nat) (ng : Bool) (tk : Bool) (n : Nat) (lit : Int32) (h : Nat → Int32) (t : Nat → Int32) (s : Nat → Int32) (g : Nat → Int32) (kn : Nat) (lo : Int32) (lf : Int32) (nm : Nat → Int32) (x : Int32)  (hnx : nx < 6) (hsn : sn ≤ 6) (hn : n ≤ 6) (hx : 1 ≤ x ∧ x ≤ 100) : kI yX3_clearThin wsX3_clearThin rm_X3_clearThin cy [.ref (b 0), .int x] ((wXo b cy (a 0) r nx sn ln (svOf sk) (kpOf sk) ik bf ++ wRd r kd hg nu dg ng tk) ++ (wSky a cy n lit h t s g kn lo lf nm ++ wOth sk cy S)) (nI (n - sKeep t x n)) ((wXo b cy (a 0) r ((nx + 1) % 6) (min (sn + 1) 6) ln (svOf sk) (kpOf sk) ik bf ++ wRd r kd hg nu dg ng tk) ++ (wSky a cy (sKeep t x n) lit (sPack t x h n) (sPack t x t n) s g kn lo lf nm ++ wOth sk cy (updS S nx (cLike (n, lit, h, t, s, g, kn, lo, lf, nm) (S nx))))) := by
  refine kI_of (cc := cX3_clearThin) (maxL := 2) (rt := .int) (by decide) rfl (rfl) (Nat.le_of_ble_eq_true rfl) ?_
  intro X hR C E
  have C : kC X 2 RX3 cX3_clearThin wsX3_clearThin cy := C
  refine k_fr (fr2 := [(0, .ref (b 0)), (1, .int x)]) ⟨[0, 1], rfl⟩ ?_
  refine k_iload_n (q := 1) C 1 dX3_clearThin_0 rfl rfl ?_
  refine k_callSI (n := 1) (q := 4) (pre := ([] : va_W)) (post := ((wXo b cy (a 0) r nx sn ln (svOf sk) (kpOf sk) ik bf ++ wRd r kd hg nu dg ng tk) ++ (wSky a cy n lit h t s g kn lo lf nm ++ wOth sk cy S))) (w2 := ((wXo b cy (a 0) r nx sn ln (svOf sk) (kpOf sk) ik bf ++ wRd r kd hg nu dg ng tk) ++ (wSky a cy n lit h t s g kn lo lf nm ++ wOth sk cy S))) (As := [.int x]) (rest := []) C (c_X3_isThickness x) gX3_clearThin_X3_isThickness rfl rfl rfl (by decide +kernel) (k_room hR (by decide)) ⟨Nat.zero_le _, Nat.zero_le _⟩  rfl rfl (Nat.le_of_ble_eq_true rfl) (rfl) (rfl) dX3_clearThin_1 rfl ?_
  refine k_ifB_ne (tgt := 17) (q := 7) C dX3_clearThin_4 (by decide) rfl ?_ ?_
  · intro c_4
    refine k_aload_n (q := 18) C 0 dX3_clearThin_17 rfl rfl ?_
    refine k_callVV (n := 0) (q := 21) (pre := ([] : va_W)) (post := ([] : va_W)) (w2 := ((wXo b cy (a 0) r ((nx + 1) % 6) (min (sn + 1) 6) ln (svOf sk) (kpOf sk) ik bf ++ wRd r kd hg nu dg ng tk) ++ (wSky a cy n lit h t s g kn lo lf nm ++ wOth sk cy (updS S nx (cLike (n, lit, h, t, s, g, kn, lo, lf, nm) (S nx)))))) (As := []) (rest := []) C (c_X3_saveState cy a b r nx sn ln sk S ik bf kd hg nu dg ng tk n lit h t s g kn lo lf nm hnx hsn) gX3_clearThin_X3_saveState rfl rfl rfl (by decide +kernel) (k_room hR (by decide)) ⟨Nat.zero_le _, Nat.zero_le _⟩ (ci := 3) rfl 0 rfl rfl rfl (Nat.le_of_ble_eq_true rfl) ((List.append_nil _).symm) (List.append_nil _) dX3_clearThin_18 rfl ?_
    refine k_aload_n (q := 22) C 0 dX3_clearThin_21 rfl rfl ?_
    refine k_get (q := 25) (ci := 3) (v := .ref (a 0)) C 0 0 in3_X3_clearThin rfl (List.mem_of_getElem? (i := 3) rfl) rfl rfl (by decide) rfl dX3_clearThin_22 rfl ?_
    refine k_iload_n (q := 26) C 1 dX3_clearThin_25 rfl rfl ?_
    refine k_callVI (n := 1) (q := 29) (pre := (wXo b cy (a 0) r ((nx + 1) % 6) (min (sn + 1) 6) ln (svOf sk) (kpOf sk) ik bf ++ wRd r kd hg nu dg ng tk)) (post := (wOth sk cy (updS S nx (cLike (n, lit, h, t, s, g, kn, lo, lf, nm) (S nx))))) (w2 := ((wXo b cy (a 0) r ((nx + 1) % 6) (min (sn + 1) 6) ln (svOf sk) (kpOf sk) ik bf ++ wRd r kd hg nu dg ng tk) ++ (wSky a cy (sKeep t x n) lit (sPack t x h n) (sPack t x t n) s g kn lo lf nm ++ wOth sk cy (updS S nx (cLike (n, lit, h, t, s, g, kn, lo, lf, nm) (S nx)))))) (As := [.int x]) (rest := []) C (c_X2_removeThinLayers cy a n lit h t s g kn lo lf nm x (by omega)) gX3_clearThin_X2_removeThinLayers rfl rfl rfl (by decide +kernel) (k_room hR (by decide)) ⟨Nat.zero_le _, Nat.zero_le _⟩ (ci := 2) rfl 0 rfl rfl rfl (Nat.le_of_ble_eq_true rfl) (rfl) (rfl) dX3_clearThin_26 rfl ?_
    exact k_fin E dX3_clearThin_29 (rfl) (rfl)
  · exact fun c_4 => absurd hx c_4
abbrev rm_X3_aim : Room := { frames := 5, cells := 0, slots := 0, locals := 115 }
theorem in0_X3_aim : ∀ w ∈ wsX00, w ∈ wsX3_aim := fun _ h => (List.mem_cons_of_mem _ (List.mem_append_left _ (List.mem_append_left _ (List.mem_append_right _ h))))
theorem in2_X3_aim : ∀ w ∈ wsX20, w ∈ wsX3_aim := fun _ h => (List.mem_cons_of_mem _ (List.mem_append_left _ (List.mem_append_left _ (List.mem_append_left _ (List.mem_append_right _ h)))))
theorem in3_X3_aim : ∀ w ∈ wsX30, w ∈ wsX3_aim := fun _ h => (List.mem_cons_of_mem _ (List.mem_append_left _ (List.mem_append_left _ (List.mem_append_left _ (List.mem_append_left _ (List.mem_append_right _ h))))))
set_option maxHeartbeats 4000000 in
set_option maxRecDepth 100000 in
theorem c_X3_aim (cy : Nat → ClassId) (a : Nat → Nat) (b : Nat → Nat) (r : Nat) (nx : Nat) (sn : Nat) (ln : Nat) (sk : Nat → Nat → Nat) (S : Nat → CK) (ik : Nat → Int32) (bf : Nat → Nat) (kd : Nat) (hg : Nat) (nu : Nat) (dg : Nat) (ng : Bool) (tk : Bool) (n : Nat) (lit : Int32) (h : Nat → Int32) (t : Nat → Int32) (s : Nat → Int32) (g : Nat → Int32) (kn : Nat) (lo : Int32) (lf : Int32) (nm : Nat → Int32) (j : Nat) (y : Int32)  (hnx : nx < 6) (hsn : sn ≤ 6) (hj : j < 2) (hy : -30 ≤ y ∧ y ≤ 30) : kI yX3_aim wsX3_aim rm_X3_aim cy [.ref (b 0), .int (nI j), .int y] ((wXo b cy (a 0) r nx sn ln (svOf sk) (kpOf sk) ik bf ++ wRd r kd hg nu dg ng tk) ++ (wSky a cy n lit h t s g kn lo lf nm ++ wOth sk cy S)) (s j) ((wXo b cy (a 0) r ((nx + 1) % 6) (min (sn + 1) 6) ln (svOf sk) (kpOf sk) ik bf ++ wRd r kd hg nu dg ng tk) ++ (wSky a cy n lit h t (upd s j y) g kn lo lf nm ++ wOth sk cy (updS S nx (cLike (n, lit, h, t, s, g, kn, lo, lf, nm) (S nx))))) := by
  refine kI_of (cc := cX3_aim) (maxL := 3) (rt := .int) (by decide) rfl (rfl) (Nat.le_of_ble_eq_true rfl) ?_
  intro X hR C E
  have C : kC X 3 RX3 cX3_aim wsX3_aim cy := C
  refine k_fr (fr2 := [(0, .ref (b 0)), (1, .int (nI j)), (2, .int y)]) ⟨[0, 1, 2], rfl⟩ ?_
  refine k_iload_n (q := 1) C 1 dX3_aim_0 rfl rfl ?_
  refine k_callSI (n := 1) (q := 4) (pre := ([] : va_W)) (post := ((wXo b cy (a 0) r nx sn ln (svOf sk) (kpOf sk) ik bf ++ wRd r kd hg nu dg ng tk) ++ (wSky a cy n lit h t s g kn lo lf nm ++ wOth sk cy S))) (w2 := ((wXo b cy (a 0) r nx sn ln (svOf sk) (kpOf sk) ik bf ++ wRd r kd hg nu dg ng tk) ++ (wSky a cy n lit h t s g kn lo lf nm ++ wOth sk cy S))) (As := [.int (nI j)]) (rest := []) C (c_X3_isLight (nI j)) gX3_aim_X3_isLight rfl rfl rfl (by decide +kernel) (k_room hR (by decide)) ⟨Nat.zero_le _, Nat.zero_le _⟩  rfl rfl (Nat.le_of_ble_eq_true rfl) (rfl) (rfl) dX3_aim_1 rfl ?_
  refine k_ifB_ne (tgt := 17) (q := 7) C dX3_aim_4 (by decide) rfl ?_ ?_
  · intro c_4
    refine k_iload_n (q := 18) C 2 dX3_aim_17 rfl rfl ?_
    refine k_bipush (q := 20) (v := -30) C dX3_aim_18 (by decide +kernel) rfl ?_
    refine k_icmp_lt (tgt := 29) (q := 23) C dX3_aim_20 (by decide) rfl ?_ ?_
    · exact fun c_20 => absurd c_20 (Int32.not_lt.mpr hy.1)
    · intro c_20
      refine k_iload_n (q := 24) C 2 dX3_aim_23 rfl rfl ?_
      refine k_bipush (q := 26) (v := 30) C dX3_aim_24 (by decide +kernel) rfl ?_
      refine k_icmp_le (tgt := 39) (q := 29) C dX3_aim_26 (by decide) rfl ?_ ?_
      · intro c_26
        refine k_aload_n (q := 40) C 0 dX3_aim_39 rfl rfl ?_
        refine k_callVV (n := 0) (q := 43) (pre := ([] : va_W)) (post := ([] : va_W)) (w2 := ((wXo b cy (a 0) r ((nx + 1) % 6) (min (sn + 1) 6) ln (svOf sk) (kpOf sk) ik bf ++ wRd r kd hg nu dg ng tk) ++ (wSky a cy n lit h t s g kn lo lf nm ++ wOth sk cy (updS S nx (cLike (n, lit, h, t, s, g, kn, lo, lf, nm) (S nx)))))) (As := []) (rest := []) C (c_X3_saveState cy a b r nx sn ln sk S ik bf kd hg nu dg ng tk n lit h t s g kn lo lf nm hnx hsn) gX3_aim_X3_saveState rfl rfl rfl (by decide +kernel) (k_room hR (by decide)) ⟨Nat.zero_le _, Nat.zero_le _⟩ (ci := 3) rfl 0 rfl rfl rfl (Nat.le_of_ble_eq_true rfl) ((List.append_nil _).symm) (List.append_nil _) dX3_aim_40 rfl ?_
        refine k_aload_n (q := 44) C 0 dX3_aim_43 rfl rfl ?_
        refine k_get (q := 47) (ci := 3) (v := .ref (a 0)) C 0 0 in3_X3_aim rfl (List.mem_of_getElem? (i := 5) rfl) rfl rfl (by decide) rfl dX3_aim_44 rfl ?_
        refine k_iload_n (q := 48) C 1 dX3_aim_47 rfl rfl ?_
        refine k_iload_n (q := 49) C 2 dX3_aim_48 rfl rfl ?_
        refine k_callVI (n := 2) (q := 52) (pre := (wXo b cy (a 0) r ((nx + 1) % 6) (min (sn + 1) 6) ln (svOf sk) (kpOf sk) ik bf ++ wRd r kd hg nu dg ng tk)) (post := (wOth sk cy (updS S nx (cLike (n, lit, h, t, s, g, kn, lo, lf, nm) (S nx))))) (w2 := ((wXo b cy (a 0) r ((nx + 1) % 6) (min (sn + 1) 6) ln (svOf sk) (kpOf sk) ik bf ++ wRd r kd hg nu dg ng tk) ++ (wSky a cy n lit h t (upd s j y) g kn lo lf nm ++ wOth sk cy (updS S nx (cLike (n, lit, h, t, s, g, kn, lo, lf, nm) (S nx)))))) (As := [.int (nI j), .int y]) (rest := []) C (c_X2_giveSlope cy a n lit h t s g kn lo lf nm j y (by omega)) gX3_aim_X2_giveSlope rfl rfl rfl (by decide +kernel) (k_room hR (by decide)) ⟨Nat.zero_le _, Nat.zero_le _⟩ (ci := 2) rfl 0 rfl rfl rfl (Nat.le_of_ble_eq_true rfl) (rfl) (rfl) dX3_aim_49 rfl ?_
        exact k_fin E dX3_aim_52 (rfl) (rfl)
      · exact fun c_26 => absurd hy.2 c_26
  · exact fun c_4 => absurd (mSlot hj) c_4
abbrev rm_X3_turn : Room := { frames := 5, cells := 0, slots := 0, locals := 115 }
theorem in0_X3_turn : ∀ w ∈ wsX00, w ∈ wsX3_turn := fun _ h => (List.mem_cons_of_mem _ (List.mem_append_left _ (List.mem_append_right _ h)))
theorem in2_X3_turn : ∀ w ∈ wsX20, w ∈ wsX3_turn := fun _ h => (List.mem_cons_of_mem _ (List.mem_append_left _ (List.mem_append_left _ (List.mem_append_right _ h))))
theorem in3_X3_turn : ∀ w ∈ wsX30, w ∈ wsX3_turn := fun _ h => (List.mem_cons_of_mem _ (List.mem_append_left _ (List.mem_append_left _ (List.mem_append_left _ (List.mem_append_right _ h)))))
set_option maxHeartbeats 4000000 in
set_option maxRecDepth 100000 in
theorem c_X3_turn (cy : Nat → ClassId) (a : Nat → Nat) (b : Nat → Nat) (r : Nat) (nx : Nat) (sn : Nat) (ln : Nat) (sk : Nat → Nat → Nat) (S : Nat → CK) (ik : Nat → Int32) (bf : Nat → Nat) (kd : Nat) (hg : Nat) (nu : Nat) (dg : Nat) (ng : Bool) (tk : Bool) (n : Nat) (lit : Int32) (h : Nat → Int32) (t : Nat → Int32) (s : Nat → Int32) (g : Nat → Int32) (kn : Nat) (lo : Int32) (lf : Int32) (nm : Nat → Int32) (j : Nat)  (hnx : nx < 6) (hsn : sn ≤ 6) (hj : j < 2) : kI yX3_turn wsX3_turn rm_X3_turn cy [.ref (b 0), .int (nI j)] ((wXo b cy (a 0) r nx sn ln (svOf sk) (kpOf sk) ik bf ++ wRd r kd hg nu dg ng tk) ++ (wSky a cy n lit h t s g kn lo lf nm ++ wOth sk cy S)) (bI (((lit ^^^ (1 <<< (nI j &&& 31))) >>> (nI j &&& 31)) &&& 1 = 1)) ((wXo b cy (a 0) r ((nx + 1) % 6) (min (sn + 1) 6) ln (svOf sk) (kpOf sk) ik bf ++ wRd r kd hg nu dg ng tk) ++ (wSky a cy n (lit ^^^ (1 <<< (nI j &&& 31))) h t s g kn lo lf nm ++ wOth sk cy (updS S nx (cLike (n, lit, h, t, s, g, kn, lo, lf, nm) (S nx))))) := by
  refine kI_of (cc := cX3_turn) (maxL := 2) (rt := .int) (by decide) rfl (rfl) (Nat.le_of_ble_eq_true rfl) ?_
  intro X hR C E
  have C : kC X 2 RX3 cX3_turn wsX3_turn cy := C
  refine k_fr (fr2 := [(0, .ref (b 0)), (1, .int (nI j))]) ⟨[0, 1], rfl⟩ ?_
  refine k_iload_n (q := 1) C 1 dX3_turn_0 rfl rfl ?_
  refine k_callSI (n := 1) (q := 4) (pre := ([] : va_W)) (post := ((wXo b cy (a 0) r nx sn ln (svOf sk) (kpOf sk) ik bf ++ wRd r kd hg nu dg ng tk) ++ (wSky a cy n lit h t s g kn lo lf nm ++ wOth sk cy S))) (w2 := ((wXo b cy (a 0) r nx sn ln (svOf sk) (kpOf sk) ik bf ++ wRd r kd hg nu dg ng tk) ++ (wSky a cy n lit h t s g kn lo lf nm ++ wOth sk cy S))) (As := [.int (nI j)]) (rest := []) C (c_X3_isLight (nI j)) gX3_turn_X3_isLight rfl rfl rfl (by decide +kernel) (k_room hR (by decide)) ⟨Nat.zero_le _, Nat.zero_le _⟩  rfl rfl (Nat.le_of_ble_eq_true rfl) (rfl) (rfl) dX3_turn_1 rfl ?_
  refine k_ifB_ne (tgt := 17) (q := 7) C dX3_turn_4 (by decide) rfl ?_ ?_
  · intro c_4
    refine k_aload_n (q := 18) C 0 dX3_turn_17 rfl rfl ?_
    refine k_callVV (n := 0) (q := 21) (pre := ([] : va_W)) (post := ([] : va_W)) (w2 := ((wXo b cy (a 0) r ((nx + 1) % 6) (min (sn + 1) 6) ln (svOf sk) (kpOf sk) ik bf ++ wRd r kd hg nu dg ng tk) ++ (wSky a cy n lit h t s g kn lo lf nm ++ wOth sk cy (updS S nx (cLike (n, lit, h, t, s, g, kn, lo, lf, nm) (S nx)))))) (As := []) (rest := []) C (c_X3_saveState cy a b r nx sn ln sk S ik bf kd hg nu dg ng tk n lit h t s g kn lo lf nm hnx hsn) gX3_turn_X3_saveState rfl rfl rfl (by decide +kernel) (k_room hR (by decide)) ⟨Nat.zero_le _, Nat.zero_le _⟩ (ci := 3) rfl 0 rfl rfl rfl (Nat.le_of_ble_eq_true rfl) ((List.append_nil _).symm) (List.append_nil _) dX3_turn_18 rfl ?_
    refine k_aload_n (q := 22) C 0 dX3_turn_21 rfl rfl ?_
    refine k_get (q := 25) (ci := 3) (v := .ref (a 0)) C 0 0 in3_X3_turn rfl (List.mem_of_getElem? (i := 3) rfl) rfl rfl (by decide) rfl dX3_turn_22 rfl ?_
    refine k_iload_n (q := 26) C 1 dX3_turn_25 rfl rfl ?_
    refine k_callVI (n := 1) (q := 29) (pre := (wXo b cy (a 0) r ((nx + 1) % 6) (min (sn + 1) 6) ln (svOf sk) (kpOf sk) ik bf ++ wRd r kd hg nu dg ng tk)) (post := (wOth sk cy (updS S nx (cLike (n, lit, h, t, s, g, kn, lo, lf, nm) (S nx))))) (w2 := ((wXo b cy (a 0) r ((nx + 1) % 6) (min (sn + 1) 6) ln (svOf sk) (kpOf sk) ik bf ++ wRd r kd hg nu dg ng tk) ++ (wSky a cy n (lit ^^^ (1 <<< (nI j &&& 31))) h t s g kn lo lf nm ++ wOth sk cy (updS S nx (cLike (n, lit, h, t, s, g, kn, lo, lf, nm) (S nx)))))) (As := [.int (nI j)]) (rest := []) C (c_X2_switchLight cy a n lit h t s g kn lo lf nm j) gX3_turn_X2_switchLight rfl rfl rfl (by decide +kernel) (k_room hR (by decide)) ⟨Nat.zero_le _, Nat.zero_le _⟩ (ci := 2) rfl 0 rfl rfl rfl (Nat.le_of_ble_eq_true rfl) (rfl) (rfl) dX3_turn_26 rfl ?_
    exact k_fin E dX3_turn_29 (rfl) (rfl)
  · exact fun c_4 => absurd (mSlot hj) c_4
abbrev rm_X3_scan : Room := { frames := 5, cells := 0, slots := 0, locals := 115 }
theorem in0_X3_scan : ∀ w ∈ wsX00, w ∈ wsX3_scan := fun _ h => (List.mem_cons_of_mem _ (List.mem_append_left _ (List.mem_append_right _ h)))
theorem in2_X3_scan : ∀ w ∈ wsX20, w ∈ wsX3_scan := fun _ h => (List.mem_cons_of_mem _ (List.mem_append_left _ (List.mem_append_left _ (List.mem_append_right _ h))))
theorem in3_X3_scan : ∀ w ∈ wsX30, w ∈ wsX3_scan := fun _ h => (List.mem_cons_of_mem _ (List.mem_append_left _ (List.mem_append_left _ (List.mem_append_left _ (List.mem_append_right _ h)))))
set_option maxHeartbeats 4000000 in
set_option maxRecDepth 100000 in
theorem c_X3_scan (cy : Nat → ClassId) (a : Nat → Nat) (b : Nat → Nat) (r : Nat) (nx : Nat) (sn : Nat) (ln : Nat) (sk : Nat → Nat → Nat) (S : Nat → CK) (ik : Nat → Int32) (bf : Nat → Nat) (kd : Nat) (hg : Nat) (nu : Nat) (dg : Nat) (ng : Bool) (tk : Bool) (n : Nat) (lit : Int32) (h : Nat → Int32) (t : Nat → Int32) (s : Nat → Int32) (g : Nat → Int32) (kn : Nat) (lo : Int32) (lf : Int32) (nm : Nat → Int32) (j : Nat) (p : Nat)  (hnx : nx < 6) (hsn : sn ≤ 6) (hn : n ≤ 6) (hj : j < 2) (hp : p < n) : kI yX3_scan wsX3_scan rm_X3_scan cy [.ref (b 0), .int (nI j), .int (nI p)] ((wXo b cy (a 0) r nx sn ln (svOf sk) (kpOf sk) ik bf ++ wRd r kd hg nu dg ng tk) ++ (wSky a cy n lit h t s g kn lo lf nm ++ wOth sk cy S)) (mAbs (sDist h g p ((upd s j (iI (sTry g h s j p))) 0) ((upd s j (iI (sTry g h s j p))) 1))) ((wXo b cy (a 0) r ((nx + 1) % 6) (min (sn + 1) 6) ln (svOf sk) (kpOf sk) ik bf ++ wRd r kd hg nu dg ng tk) ++ (wSky a cy n lit h t (upd s j (iI (sTry g h s j p))) g kn lo lf nm ++ wOth sk cy (updS S nx (cLike (n, lit, h, t, s, g, kn, lo, lf, nm) (S nx))))) := by
  refine kI_of (cc := cX3_scan) (maxL := 3) (rt := .int) (by decide) rfl (rfl) (Nat.le_of_ble_eq_true rfl) ?_
  intro X hR C E
  have C : kC X 3 RX3 cX3_scan wsX3_scan cy := C
  refine k_fr (fr2 := [(0, .ref (b 0)), (1, .int (nI j)), (2, .int (nI p))]) ⟨[0, 1, 2], rfl⟩ ?_
  refine k_iload_n (q := 1) C 1 dX3_scan_0 rfl rfl ?_
  refine k_callSI (n := 1) (q := 4) (pre := ([] : va_W)) (post := ((wXo b cy (a 0) r nx sn ln (svOf sk) (kpOf sk) ik bf ++ wRd r kd hg nu dg ng tk) ++ (wSky a cy n lit h t s g kn lo lf nm ++ wOth sk cy S))) (w2 := ((wXo b cy (a 0) r nx sn ln (svOf sk) (kpOf sk) ik bf ++ wRd r kd hg nu dg ng tk) ++ (wSky a cy n lit h t s g kn lo lf nm ++ wOth sk cy S))) (As := [.int (nI j)]) (rest := []) C (c_X3_isLight (nI j)) gX3_scan_X3_isLight rfl rfl rfl (by decide +kernel) (k_room hR (by decide)) ⟨Nat.zero_le _, Nat.zero_le _⟩  rfl rfl (Nat.le_of_ble_eq_true rfl) (rfl) (rfl) dX3_scan_1 rfl ?_
  refine k_ifB_eq (tgt := 18) (q := 7) C dX3_scan_4 (by decide) rfl ?_ ?_
  · exact fun c_4 => absurd (mSlot hj) c_4
  · intro c_4
    refine k_aload_n (q := 8) C 0 dX3_scan_7 rfl rfl ?_
    refine k_get (q := 11) (ci := 3) (v := .ref (a 0)) C 0 0 in3_X3_scan rfl (List.mem_of_getElem? (i := 3) rfl) rfl rfl (by decide) rfl dX3_scan_8 rfl ?_
    refine k_iload_n (q := 12) C 2 dX3_scan_11 rfl rfl ?_
    refine k_callVI (n := 1) (q := 15) (pre := (wXo b cy (a 0) r nx sn ln (svOf sk) (kpOf sk) ik bf ++ wRd r kd hg nu dg ng tk)) (post := (wOth sk cy S)) (w2 := ((wXo b cy (a 0) r nx sn ln (svOf sk) (kpOf sk) ik bf ++ wRd r kd hg nu dg ng tk) ++ (wSky a cy n lit h t s g kn lo lf nm ++ wOth sk cy S))) (As := [.int (nI p)]) (rest := []) C (c_X2_hasLayer cy a n lit h t s g kn lo lf nm (nI p)) gX3_scan_X2_hasLayer rfl rfl rfl (by decide +kernel) (k_room hR (by decide)) ⟨Nat.zero_le _, Nat.zero_le _⟩ (ci := 2) rfl 0 rfl rfl rfl (Nat.le_of_ble_eq_true rfl) (rfl) (rfl) dX3_scan_12 rfl ?_
    refine k_ifB_ne (tgt := 28) (q := 18) C dX3_scan_15 (by decide) rfl ?_ ?_
    · intro c_15
      refine k_aload_n (q := 29) C 0 dX3_scan_28 rfl rfl ?_
      refine k_callVV (n := 0) (q := 32) (pre := ([] : va_W)) (post := ([] : va_W)) (w2 := ((wXo b cy (a 0) r ((nx + 1) % 6) (min (sn + 1) 6) ln (svOf sk) (kpOf sk) ik bf ++ wRd r kd hg nu dg ng tk) ++ (wSky a cy n lit h t s g kn lo lf nm ++ wOth sk cy (updS S nx (cLike (n, lit, h, t, s, g, kn, lo, lf, nm) (S nx)))))) (As := []) (rest := []) C (c_X3_saveState cy a b r nx sn ln sk S ik bf kd hg nu dg ng tk n lit h t s g kn lo lf nm hnx hsn) gX3_scan_X3_saveState rfl rfl rfl (by decide +kernel) (k_room hR (by decide)) ⟨Nat.zero_le _, Nat.zero_le _⟩ (ci := 3) rfl 0 rfl rfl rfl (Nat.le_of_ble_eq_true rfl) ((List.append_nil _).symm) (List.append_nil _) dX3_scan_29 rfl ?_
      refine k_aload_n (q := 33) C 0 dX3_scan_32 rfl rfl ?_
      refine k_get (q := 36) (ci := 3) (v := .ref (a 0)) C 0 0 in3_X3_scan rfl (List.mem_of_getElem? (i := 3) rfl) rfl rfl (by decide) rfl dX3_scan_33 rfl ?_
      refine k_iload_n (q := 37) C 1 dX3_scan_36 rfl rfl ?_
      refine k_aload_n (q := 38) C 0 dX3_scan_37 rfl rfl ?_
      refine k_get (q := 41) (ci := 3) (v := .ref (a 0)) C 0 0 in3_X3_scan rfl (List.mem_of_getElem? (i := 3) rfl) rfl rfl (by decide) rfl dX3_scan_38 rfl ?_
      refine k_iload_n (q := 42) C 1 dX3_scan_41 rfl rfl ?_
      refine k_iload_n (q := 43) C 2 dX3_scan_42 rfl rfl ?_
      refine k_callVI (n := 2) (q := 46) (pre := (wXo b cy (a 0) r ((nx + 1) % 6) (min (sn + 1) 6) ln (svOf sk) (kpOf sk) ik bf ++ wRd r kd hg nu dg ng tk)) (post := (wOth sk cy (updS S nx (cLike (n, lit, h, t, s, g, kn, lo, lf, nm) (S nx))))) (w2 := ((wXo b cy (a 0) r ((nx + 1) % 6) (min (sn + 1) 6) ln (svOf sk) (kpOf sk) ik bf ++ wRd r kd hg nu dg ng tk) ++ (wSky a cy n lit h t s g kn lo lf nm ++ wOth sk cy (updS S nx (cLike (n, lit, h, t, s, g, kn, lo, lf, nm) (S nx)))))) (As := [.int (nI j), .int (nI p)]) (rest := [.int (nI j), .ref (a 0)]) C (c_X2_slopeFoundByTrying cy a n lit h t s g kn lo lf nm j p (by omega) (by omega)) gX3_scan_X2_slopeFoundByTrying rfl rfl rfl (by decide +kernel) (k_room hR (by decide)) ⟨Nat.zero_le _, Nat.zero_le _⟩ (ci := 2) rfl 0 rfl rfl rfl (Nat.le_of_ble_eq_true rfl) (rfl) (rfl) dX3_scan_43 rfl ?_
      refine k_callVI (n := 2) (q := 49) (pre := (wXo b cy (a 0) r ((nx + 1) % 6) (min (sn + 1) 6) ln (svOf sk) (kpOf sk) ik bf ++ wRd r kd hg nu dg ng tk)) (post := (wOth sk cy (updS S nx (cLike (n, lit, h, t, s, g, kn, lo, lf, nm) (S nx))))) (w2 := ((wXo b cy (a 0) r ((nx + 1) % 6) (min (sn + 1) 6) ln (svOf sk) (kpOf sk) ik bf ++ wRd r kd hg nu dg ng tk) ++ (wSky a cy n lit h t (upd s j (iI (sTry g h s j p))) g kn lo lf nm ++ wOth sk cy (updS S nx (cLike (n, lit, h, t, s, g, kn, lo, lf, nm) (S nx)))))) (As := [.int (nI j), .int (iI (sTry g h s j p))]) (rest := []) C (c_X2_giveSlope cy a n lit h t s g kn lo lf nm j (iI (sTry g h s j p)) (by omega)) gX3_scan_X2_giveSlope rfl rfl rfl (by decide +kernel) (k_room hR (by decide)) ⟨Nat.zero_le _, Nat.zero_le _⟩ (ci := 2) rfl 0 rfl rfl rfl (Nat.le_of_ble_eq_true rfl) (rfl) (rfl) dX3_scan_46 rfl ?_
      refine k_pop (q := 50) C dX3_scan_49 rfl rfl ?_
      refine k_aload_n (q := 51) C 0 dX3_scan_50 rfl rfl ?_
      refine k_get (q := 54) (ci := 3) (v := .ref (a 0)) C 0 0 in3_X3_scan rfl (List.mem_of_getElem? (i := 3) rfl) rfl rfl (by decide) rfl dX3_scan_51 rfl ?_
      refine k_iload_n (q := 55) C 2 dX3_scan_54 rfl rfl ?_
      refine k_callVI (n := 1) (q := 58) (pre := (wXo b cy (a 0) r ((nx + 1) % 6) (min (sn + 1) 6) ln (svOf sk) (kpOf sk) ik bf ++ wRd r kd hg nu dg ng tk)) (post := (wOth sk cy (updS S nx (cLike (n, lit, h, t, s, g, kn, lo, lf, nm) (S nx))))) (w2 := ((wXo b cy (a 0) r ((nx + 1) % 6) (min (sn + 1) 6) ln (svOf sk) (kpOf sk) ik bf ++ wRd r kd hg nu dg ng tk) ++ (wSky a cy n lit h t (upd s j (iI (sTry g h s j p))) g kn lo lf nm ++ wOth sk cy (updS S nx (cLike (n, lit, h, t, s, g, kn, lo, lf, nm) (S nx)))))) (As := [.int (nI p)]) (rest := []) C (c_X2_distance cy a n lit h t (upd s j (iI (sTry g h s j p))) g kn lo lf nm p (by omega)) gX3_scan_X2_distance rfl rfl rfl (by decide +kernel) (k_room hR (by decide)) ⟨Nat.zero_le _, Nat.zero_le _⟩ (ci := 2) rfl 0 rfl rfl rfl (Nat.le_of_ble_eq_true rfl) (rfl) (rfl) dX3_scan_55 rfl ?_
      refine k_mabs (q := 61) C (List.mem_of_getElem? (i := 4) rfl) (List.mem_of_getElem? (i := 5) rfl) (List.mem_of_getElem? (i := 6) rfl) (List.mem_of_getElem? (i := 7) rfl) (k_roomM hR (by decide)) (Nat.le_of_ble_eq_true rfl) dX3_scan_58 rfl ?_
      exact k_fin E dX3_scan_61 (rfl) (rfl)
    · exact fun c_15 => absurd ⟨nI_pos' (by omega), nI_lt hp (by omega)⟩ c_15
abbrev rm_X3_undo : Room := { frames := 4, cells := 0, slots := 0, locals := 95 }
theorem in0_X3_undo : ∀ w ∈ wsX00, w ∈ wsX3_undo := fun _ h => (List.mem_cons_of_mem _ (List.mem_append_left _ (List.mem_append_right _ h)))
theorem in2_X3_undo : ∀ w ∈ wsX20, w ∈ wsX3_undo := fun _ h => (List.mem_cons_of_mem _ (List.mem_append_left _ (List.mem_append_left _ (List.mem_append_right _ h))))
theorem in3_X3_undo : ∀ w ∈ wsX30, w ∈ wsX3_undo := fun _ h => (List.mem_cons_of_mem _ (List.mem_append_left _ (List.mem_append_left _ (List.mem_append_left _ (List.mem_append_right _ h)))))
set_option maxHeartbeats 4000000 in
set_option maxRecDepth 100000 in
theorem c_X3_undo (cy : Nat → ClassId) (a : Nat → Nat) (b : Nat → Nat) (r : Nat) (nx : Nat) (sn : Nat) (ln : Nat) (sk : Nat → Nat → Nat) (S : Nat → CK) (ik : Nat → Int32) (bf : Nat → Nat) (kd : Nat) (hg : Nat) (nu : Nat) (dg : Nat) (ng : Bool) (tk : Bool) (n : Nat) (lit : Int32) (h : Nat → Int32) (t : Nat → Int32) (s : Nat → Int32) (g : Nat → Int32) (kn : Nat) (lo : Int32) (lf : Int32) (nm : Nat → Int32)  (hnx : nx < 6) (hsn : sn ≤ 6) (h0 : 0 < sn) : kI yX3_undo wsX3_undo rm_X3_undo cy [.ref (b 0)] ((wXo b cy (a 0) r nx sn ln (svOf sk) (kpOf sk) ik bf ++ wRd r kd hg nu dg ng tk) ++ (wSky a cy n lit h t s g kn lo lf nm ++ wOth sk cy S)) (nI (sn - 1)) ((wXo b cy (a 0) r ((nx + 6 - 1) % 6) (sn - 1) ln (svOf sk) (kpOf sk) ik bf ++ wRd r kd hg nu dg ng tk) ++ (wSky a cy (qN (S ((nx + 6 - 1) % 6))) (qLit (S ((nx + 6 - 1) % 6))) (va_cpy (qH (S ((nx + 6 - 1) % 6))) h 0 0 6) (va_cpy (qT (S ((nx + 6 - 1) % 6))) t 0 0 6) (va_cpy (qS (S ((nx + 6 - 1) % 6))) s 0 0 2) (va_cpy (qG (S ((nx + 6 - 1) % 6))) g 0 0 4) (qK (S ((nx + 6 - 1) % 6))) (qLo (S ((nx + 6 - 1) % 6))) (qLf (S ((nx + 6 - 1) % 6))) (va_cpy (qNm (S ((nx + 6 - 1) % 6))) nm 0 0 32) ++ wOth sk cy S)) := by
  refine kI_of (cc := cX3_undo) (maxL := 1) (rt := .int) (by decide) rfl (rfl) (Nat.le_of_ble_eq_true rfl) ?_
  intro X hR C E
  have C : kC X 1 RX3 cX3_undo wsX3_undo cy := C
  refine k_fr (fr2 := [(0, .ref (b 0))]) ⟨[0], rfl⟩ ?_
  refine k_aload_n (q := 1) C 0 dX3_undo_0 rfl rfl ?_
  refine k_get (q := 4) (ci := 3) (v := .int (nI sn)) C 0 3 in3_X3_undo rfl (List.mem_of_getElem? (i := 3) rfl) rfl rfl (by decide) rfl dX3_undo_1 rfl ?_
  refine k_nif_gt (a := sn)  (tgt := 17) (q := 7) C dX3_undo_4 (by decide) rfl (by omega) ?_ ?_
  · intro c_4
    refine k_aload_n (q := 18) C 0 dX3_undo_17 rfl rfl ?_
    refine k_aload_n (q := 19) C 0 dX3_undo_18 rfl rfl ?_
    refine k_get (q := 22) (ci := 3) (v := .int (nI nx)) C 0 2 in3_X3_undo rfl (List.mem_of_getElem? (i := 4) rfl) rfl rfl (by decide) rfl dX3_undo_19 rfl ?_
    refine k_bipush (q := 24) (v := 6) C dX3_undo_22 (by decide +kernel) rfl ?_
    refine k_iadd (q := 25) C dX3_undo_24 rfl ?_
    refine k_st (st2 := (.int (nI (nx + 6)) :: _)) (congrArg (fun z => Value.int z :: _) (show (nI nx) + 6 = nI (nx + 6) from nI_add nx 6)) ?_
    refine k_iconst (q := 26) (v := 1) C dX3_undo_25 (by decide) rfl ?_
    refine k_isub (q := 27) C dX3_undo_26 rfl ?_
    refine k_st (st2 := (.int (nI (nx + 6 - 1)) :: _)) (congrArg (fun z => Value.int z :: _) (show (nI (nx + 6)) - 1 = nI (nx + 6 - 1) from pk_sub (a := nx + 6) (b := 1) (by omega))) ?_
    refine k_bipush (q := 29) (v := 6) C dX3_undo_27 (by decide +kernel) rfl ?_
    refine k_irem (q := 30) C dX3_undo_29 (by decide) rfl ?_
    refine k_st (st2 := (.int (nI ((nx + 6 - 1) % 6)) :: _)) (congrArg (fun z => Value.int z :: _) (show (nI (nx + 6 - 1)) - (nI (nx + 6 - 1)) / 6 * 6 = nI ((nx + 6 - 1) % 6) from nI_rem6 (by omega))) ?_
    refine k_put (q := 33) (ci := 3) (v := .int (nI ((nx + 6 - 1) % 6))) (w2 := ((wXo b cy (a 0) r ((nx + 6 - 1) % 6) sn ln (svOf sk) (kpOf sk) ik bf ++ wRd r kd hg nu dg ng tk) ++ (wSky a cy n lit h t s g kn lo lf nm ++ wOth sk cy S))) C 0 2 in3_X3_undo rfl (List.mem_of_getElem? (i := 4) rfl) rfl tyX3 tyX3_ok nmX3 rfl (rfl) (rfl) rfl (by decide) (Nat.le_of_ble_eq_true rfl) (rfl) dX3_undo_30 rfl ?_
    refine k_aload_n (q := 34) C 0 dX3_undo_33 rfl rfl ?_
    refine k_dup (q := 35) C dX3_undo_34 rfl rfl ?_
    refine k_get (q := 38) (ci := 3) (v := .int (nI sn)) C 0 3 in3_X3_undo rfl (List.mem_of_getElem? (i := 3) rfl) rfl rfl (by decide) rfl dX3_undo_35 rfl ?_
    refine k_iconst (q := 39) (v := 1) C dX3_undo_38 (by decide) rfl ?_
    refine k_isub (q := 40) C dX3_undo_39 rfl ?_
    refine k_st (st2 := (.int (nI (sn - 1)) :: _)) (congrArg (fun z => Value.int z :: _) (show (nI sn) - 1 = nI (sn - 1) from pk_sub (a := sn) (b := 1) (by omega))) ?_
    refine k_put (q := 43) (ci := 3) (v := .int (nI (sn - 1))) (w2 := ((wXo b cy (a 0) r ((nx + 6 - 1) % 6) (sn - 1) ln (svOf sk) (kpOf sk) ik bf ++ wRd r kd hg nu dg ng tk) ++ (wSky a cy n lit h t s g kn lo lf nm ++ wOth sk cy S))) C 0 3 in3_X3_undo rfl (List.mem_of_getElem? (i := 3) rfl) rfl tyX3 tyX3_ok nmX3 rfl (rfl) (rfl) rfl (by decide) (Nat.le_of_ble_eq_true rfl) (rfl) dX3_undo_40 rfl ?_
    refine k_aload_n (q := 44) C 0 dX3_undo_43 rfl rfl ?_
    refine k_get (q := 47) (ci := 3) (v := .ref (b 1)) C 0 1 in3_X3_undo rfl (List.mem_of_getElem? (i := 5) rfl) rfl rfl (by decide) rfl dX3_undo_44 rfl ?_
    refine k_aload_n (q := 48) C 0 dX3_undo_47 rfl rfl ?_
    refine k_get (q := 51) (ci := 3) (v := .int (nI ((nx + 6 - 1) % 6))) C 0 2 in3_X3_undo rfl (List.mem_of_getElem? (i := 4) rfl) rfl rfl (by decide) rfl dX3_undo_48 rfl ?_
    refine k_aald (q := 52) (v := .ref (sk ((nx + 6 - 1) % 6) 0)) C 1 rfl (vp_in_nI (n := (nx + 6 - 1) % 6) (by omega) (by decide)) (by rw [nI_clamp (n := (nx + 6 - 1) % 6) (by omega)]; exact sv_rf (by omega)) dX3_undo_51 rfl ?_
    refine k_aload_n (q := 53) C 0 dX3_undo_52 rfl rfl ?_
    refine k_get (q := 56) (ci := 3) (v := .ref (a 0)) C 0 0 in3_X3_undo rfl (List.mem_of_getElem? (i := 6) rfl) rfl rfl (by decide) rfl dX3_undo_53 rfl ?_
    refine k_perm (w2 := (wXo b cy (a 0) r ((nx + 6 - 1) % 6) (sn - 1) ln (svOf sk) (kpOf sk) ik bf ++ wRd r kd hg nu dg ng tk) ++ ((wSk2 (sk ((nx + 6 - 1) % 6)) a cy (S ((nx + 6 - 1) % 6)) ((n, lit, h, t, s, g, kn, lo, lf, nm) : CK)) ++ (wOthE sk cy S ((nx + 6 - 1) % 6)))) (oth_out2 (a := a) (S := S) (k := ((nx + 6 - 1) % 6)) (x := ((n, lit, h, t, s, g, kn, lo, lf, nm) : CK)) (by omega)) ?_
    refine k_callSV (n := 2) (q := 59) (pre := (wXo b cy (a 0) r ((nx + 6 - 1) % 6) (sn - 1) ln (svOf sk) (kpOf sk) ik bf ++ wRd r kd hg nu dg ng tk)) (mid := (wSk2 (sk ((nx + 6 - 1) % 6)) a cy (S ((nx + 6 - 1) % 6)) ((n, lit, h, t, s, g, kn, lo, lf, nm) : CK))) (mid1 := (wSk2 (sk ((nx + 6 - 1) % 6)) a cy (S ((nx + 6 - 1) % 6)) (cLike (S ((nx + 6 - 1) % 6)) ((n, lit, h, t, s, g, kn, lo, lf, nm) : CK)))) (post := (wOthE sk cy S ((nx + 6 - 1) % 6))) (w2 := (wXo b cy (a 0) r ((nx + 6 - 1) % 6) (sn - 1) ln (svOf sk) (kpOf sk) ik bf ++ wRd r kd hg nu dg ng tk) ++ ((wSk2 (sk ((nx + 6 - 1) % 6)) a cy (S ((nx + 6 - 1) % 6)) (cLike (S ((nx + 6 - 1) % 6)) ((n, lit, h, t, s, g, kn, lo, lf, nm) : CK))) ++ (wOthE sk cy S ((nx + 6 - 1) % 6)))) (As := [.ref ((sk ((nx + 6 - 1) % 6)) 0), .ref (a 0)]) (rest := []) C (c_X3_copySky cy (sk ((nx + 6 - 1) % 6)) a (qN (S ((nx + 6 - 1) % 6))) (qLit (S ((nx + 6 - 1) % 6))) (qH (S ((nx + 6 - 1) % 6))) (qT (S ((nx + 6 - 1) % 6))) (qS (S ((nx + 6 - 1) % 6))) (qG (S ((nx + 6 - 1) % 6))) (qK (S ((nx + 6 - 1) % 6))) (qLo (S ((nx + 6 - 1) % 6))) (qLf (S ((nx + 6 - 1) % 6))) (qNm (S ((nx + 6 - 1) % 6))) n lit h t s g kn lo lf nm) gX3_undo_X3_copySky rfl rfl rfl (by decide +kernel) (k_room hR (by decide)) ⟨Nat.zero_le _, Nat.zero_le _⟩ rfl rfl (Nat.le_of_ble_eq_true rfl) rfl rfl dX3_undo_56 rfl ?_
    refine k_perm (w2 := ((wXo b cy (a 0) r ((nx + 6 - 1) % 6) (sn - 1) ln (svOf sk) (kpOf sk) ik bf ++ wRd r kd hg nu dg ng tk) ++ (wSky a cy (qN (S ((nx + 6 - 1) % 6))) (qLit (S ((nx + 6 - 1) % 6))) (va_cpy (qH (S ((nx + 6 - 1) % 6))) h 0 0 6) (va_cpy (qT (S ((nx + 6 - 1) % 6))) t 0 0 6) (va_cpy (qS (S ((nx + 6 - 1) % 6))) s 0 0 2) (va_cpy (qG (S ((nx + 6 - 1) % 6))) g 0 0 4) (qK (S ((nx + 6 - 1) % 6))) (qLo (S ((nx + 6 - 1) % 6))) (qLf (S ((nx + 6 - 1) % 6))) (va_cpy (qNm (S ((nx + 6 - 1) % 6))) nm 0 0 32) ++ wOth sk cy S))) (oth_in2 (x := (cLike (S ((nx + 6 - 1) % 6)) ((n, lit, h, t, s, g, kn, lo, lf, nm) : CK))) (by omega)) ?_
    refine k_aload_n (q := 60) C 0 dX3_undo_59 rfl rfl ?_
    refine k_get (q := 63) (ci := 3) (v := .int (nI (sn - 1))) C 0 3 in3_X3_undo rfl (List.mem_of_getElem? (i := 3) rfl) rfl rfl (by decide) rfl dX3_undo_60 rfl ?_
    exact k_fin E dX3_undo_63 (rfl) (rfl)
  · exact fun c_4 => absurd h0 (by omega)
abbrev rm_X3_layerOf : Room := { frames := 5, cells := 0, slots := 0, locals := 112 }
theorem in2_X3_layerOf : ∀ w ∈ wsX20, w ∈ wsX3_layerOf := fun _ h => (List.mem_cons_of_mem _ (List.mem_append_left _ (List.mem_append_left _ (List.mem_append_right _ h))))
theorem in3_X3_layerOf : ∀ w ∈ wsX30, w ∈ wsX3_layerOf := fun _ h => (List.mem_cons_of_mem _ (List.mem_append_left _ (List.mem_append_left _ (List.mem_append_left _ (List.mem_append_right _ h)))))
set_option maxHeartbeats 4000000 in
set_option maxRecDepth 100000 in
theorem c_X3_layerOf (cy : Nat → ClassId) (a : Nat → Nat) (b : Nat → Nat) (r : Nat) (nx : Nat) (sn : Nat) (ln : Nat) (sv : Nat → Option Nat) (kp : Nat → Option Nat) (ik : Nat → Int32) (bf : Nat → Nat) (kd : Nat) (hg : Nat) (nu : Nat) (dg : Nat) (ng : Bool) (tk : Bool) (n : Nat) (lit : Int32) (h : Nat → Int32) (t : Nat → Int32) (s : Nat → Int32) (g : Nat → Int32) (kn : Nat) (lo : Int32) (lf : Int32) (nm : Nat → Int32) (R : va_W) (p : Nat) (w : Nat)  (hn : n ≤ 6) (hp : p < n) (hw : w ≤ 3) : kI yX3_layerOf wsX3_layerOf rm_X3_layerOf cy [.ref (b 0), .int (nI p), .int (nI w)] ((wXo b cy (a 0) r nx sn ln sv kp ik bf ++ wRd r kd hg nu dg ng tk) ++ (wSky a cy n lit h t s g kn lo lf nm ++ R)) (sLy lit h t s g p (nI w)) ((wXo b cy (a 0) r nx sn ln sv kp ik bf ++ wRd r kd hg nu dg ng tk) ++ (wSky a cy n lit h t s g kn lo lf nm ++ R)) := by
  refine kI_of (cc := cX3_layerOf) (maxL := 3) (rt := .int) (by decide) rfl (rfl) (Nat.le_of_ble_eq_true rfl) ?_
  intro X hR C E
  have C : kC X 3 RX3 cX3_layerOf wsX3_layerOf cy := C
  refine k_fr (fr2 := [(0, .ref (b 0)), (1, .int (nI p)), (2, .int (nI w))]) ⟨[0, 1, 2], rfl⟩ ?_
  refine k_aload_n (q := 1) C 0 dX3_layerOf_0 rfl rfl ?_
  refine k_get (q := 4) (ci := 3) (v := .ref (a 0)) C 0 0 in3_X3_layerOf rfl (List.mem_of_getElem? (i := 5) rfl) rfl rfl (by decide) rfl dX3_layerOf_1 rfl ?_
  refine k_iload_n (q := 5) C 1 dX3_layerOf_4 rfl rfl ?_
  refine k_callVI (n := 1) (q := 8) (pre := (wXo b cy (a 0) r nx sn ln sv kp ik bf ++ wRd r kd hg nu dg ng tk)) (post := R) (w2 := ((wXo b cy (a 0) r nx sn ln sv kp ik bf ++ wRd r kd hg nu dg ng tk) ++ (wSky a cy n lit h t s g kn lo lf nm ++ R))) (As := [.int (nI p)]) (rest := []) C (c_X2_hasLayer cy a n lit h t s g kn lo lf nm (nI p)) gX3_layerOf_X2_hasLayer rfl rfl rfl (by decide +kernel) (k_room hR (by decide)) ⟨Nat.zero_le _, Nat.zero_le _⟩ (ci := 2) rfl 0 rfl rfl rfl (Nat.le_of_ble_eq_true rfl) (rfl) (rfl) dX3_layerOf_5 rfl ?_
  refine k_ifB_ne (tgt := 21) (q := 11) C dX3_layerOf_8 (by decide) rfl ?_ ?_
  · intro c_8
    refine k_iload_n (q := 22) C 2 dX3_layerOf_21 rfl rfl ?_
    by_cases s_22_0 : w = 0
    · refine k_tabIn (q := 52) (off := 30) C dX3_layerOf_22 (by rw [s_22_0]; decide +kernel) (by rw [s_22_0]; decide +kernel) (by rw [s_22_0]; decide +kernel) (by decide) ?_
      subst s_22_0
      refine k_aload_n (q := 53) C 0 dX3_layerOf_52 rfl rfl ?_
      refine k_get (q := 56) (ci := 3) (v := .ref (a 0)) C 0 0 in3_X3_layerOf rfl (List.mem_of_getElem? (i := 5) rfl) rfl rfl (by decide) rfl dX3_layerOf_53 rfl ?_
      refine k_get (q := 59) (ci := 2) (v := .ref (a 1)) C 6 1 in2_X3_layerOf rfl (List.mem_of_getElem? (i := 6) rfl) rfl rfl (by decide) rfl dX3_layerOf_56 rfl ?_
      refine k_iload_n (q := 60) C 1 dX3_layerOf_59 rfl rfl ?_
      refine k_iald (q := 61) C 7 rfl (vp_in_nI (n := p) (by omega) (by decide)) dX3_layerOf_60 rfl ?_
      refine k_st (st2 := (.int (h p) :: _)) (congrArg (fun z => Value.int z :: _) (show h (nI p).toNatClampNeg = h p from congrArg h (nI_clamp (n := p) (by omega)))) ?_
      exact k_fin E dX3_layerOf_61 (by rw [sLy, if_pos (by decide)]) (rfl)
    by_cases s_22_1 : w = 1
    · refine k_tabIn (q := 62) (off := 40) C dX3_layerOf_22 (by rw [s_22_1]; decide +kernel) (by rw [s_22_1]; decide +kernel) (by rw [s_22_1]; decide +kernel) (by decide) ?_
      subst s_22_1
      refine k_aload_n (q := 63) C 0 dX3_layerOf_62 rfl rfl ?_
      refine k_get (q := 66) (ci := 3) (v := .ref (a 0)) C 0 0 in3_X3_layerOf rfl (List.mem_of_getElem? (i := 5) rfl) rfl rfl (by decide) rfl dX3_layerOf_63 rfl ?_
      refine k_get (q := 69) (ci := 2) (v := .ref (a 2)) C 6 2 in2_X3_layerOf rfl (List.mem_of_getElem? (i := 7) rfl) rfl rfl (by decide) rfl dX3_layerOf_66 rfl ?_
      refine k_iload_n (q := 70) C 1 dX3_layerOf_69 rfl rfl ?_
      refine k_iald (q := 71) C 8 rfl (vp_in_nI (n := p) (by omega) (by decide)) dX3_layerOf_70 rfl ?_
      refine k_st (st2 := (.int (t p) :: _)) (congrArg (fun z => Value.int z :: _) (show t (nI p).toNatClampNeg = t p from congrArg t (nI_clamp (n := p) (by omega)))) ?_
      exact k_fin E dX3_layerOf_71 (by rw [sLy, if_neg (by decide), if_pos (by decide)]) (rfl)
    by_cases s_22_2 : w = 2
    · refine k_tabIn (q := 72) (off := 50) C dX3_layerOf_22 (by rw [s_22_2]; decide +kernel) (by rw [s_22_2]; decide +kernel) (by rw [s_22_2]; decide +kernel) (by decide) ?_
      subst s_22_2
      refine k_aload_n (q := 73) C 0 dX3_layerOf_72 rfl rfl ?_
      refine k_get (q := 76) (ci := 3) (v := .ref (a 0)) C 0 0 in3_X3_layerOf rfl (List.mem_of_getElem? (i := 5) rfl) rfl rfl (by decide) rfl dX3_layerOf_73 rfl ?_
      refine k_iload_n (q := 77) C 1 dX3_layerOf_76 rfl rfl ?_
      refine k_callVI (n := 1) (q := 80) (pre := (wXo b cy (a 0) r nx sn ln sv kp ik bf ++ wRd r kd hg nu dg ng tk)) (post := R) (w2 := ((wXo b cy (a 0) r nx sn ln sv kp ik bf ++ wRd r kd hg nu dg ng tk) ++ (wSky a cy n lit h t s g kn lo lf nm ++ R))) (As := [.int (nI p)]) (rest := []) C (c_X2_hasPair cy a n lit h t s g kn lo lf nm p hn hp) gX3_layerOf_X2_hasPair rfl rfl rfl (by decide +kernel) (k_room hR (by decide)) ⟨Nat.zero_le _, Nat.zero_le _⟩ (ci := 2) rfl 0 rfl rfl rfl (Nat.le_of_ble_eq_true rfl) (rfl) (rfl) dX3_layerOf_77 rfl ?_
      refine k_ifB_eq (tgt := 94) (q := 83) C dX3_layerOf_80 (by decide) rfl ?_ ?_
      · intro c_80
        refine k_ldc (q := 96) (v := -99999) C (List.mem_of_getElem? (i := 8) rfl) dX3_layerOf_94 rfl ?_
        exact k_fin E dX3_layerOf_96 (by rw [sLy, if_neg (by decide), if_neg (by decide), if_pos (by decide)]; first | rw [if_pos c_80] | rw [if_neg c_80]) (rfl)
      · intro c_80
        refine k_aload_n (q := 84) C 0 dX3_layerOf_83 rfl rfl ?_
        refine k_get (q := 87) (ci := 3) (v := .ref (a 0)) C 0 0 in3_X3_layerOf rfl (List.mem_of_getElem? (i := 5) rfl) rfl rfl (by decide) rfl dX3_layerOf_84 rfl ?_
        refine k_iload_n (q := 88) C 1 dX3_layerOf_87 rfl rfl ?_
        refine k_callVI (n := 1) (q := 91) (pre := (wXo b cy (a 0) r nx sn ln sv kp ik bf ++ wRd r kd hg nu dg ng tk)) (post := R) (w2 := ((wXo b cy (a 0) r nx sn ln sv kp ik bf ++ wRd r kd hg nu dg ng tk) ++ (wSky a cy n lit h t s g kn lo lf nm ++ R))) (As := [.int (nI p)]) (rest := []) C (c_X2_distance cy a n lit h t s g kn lo lf nm p (by omega)) gX3_layerOf_X2_distance rfl rfl rfl (by decide +kernel) (k_room hR (by decide)) ⟨Nat.zero_le _, Nat.zero_le _⟩ (ci := 2) rfl 0 rfl rfl rfl (Nat.le_of_ble_eq_true rfl) (rfl) (rfl) dX3_layerOf_88 rfl ?_
        refine k_goto (q := 96) C dX3_layerOf_91 (by decide) ?_
        exact k_fin E dX3_layerOf_96 (by rw [sLy, if_neg (by decide), if_neg (by decide), if_pos (by decide)]; first | rw [if_pos c_80] | rw [if_neg c_80]) (rfl)
    by_cases s_22_3 : w = 3
    · refine k_tabIn (q := 97) (off := 75) C dX3_layerOf_22 (by rw [s_22_3]; decide +kernel) (by rw [s_22_3]; decide +kernel) (by rw [s_22_3]; decide +kernel) (by decide) ?_
      subst s_22_3
      refine k_aload_n (q := 98) C 0 dX3_layerOf_97 rfl rfl ?_
      refine k_get (q := 101) (ci := 3) (v := .ref (a 0)) C 0 0 in3_X3_layerOf rfl (List.mem_of_getElem? (i := 5) rfl) rfl rfl (by decide) rfl dX3_layerOf_98 rfl ?_
      refine k_iload_n (q := 102) C 1 dX3_layerOf_101 rfl rfl ?_
      refine k_callVI (n := 1) (q := 105) (pre := (wXo b cy (a 0) r nx sn ln sv kp ik bf ++ wRd r kd hg nu dg ng tk)) (post := R) (w2 := ((wXo b cy (a 0) r nx sn ln sv kp ik bf ++ wRd r kd hg nu dg ng tk) ++ (wSky a cy n lit h t s g kn lo lf nm ++ R))) (As := [.int (nI p)]) (rest := []) C (c_X2_hasClosePair cy a n lit h t s g kn lo lf nm p hn hp) gX3_layerOf_X2_hasClosePair rfl rfl rfl (by decide +kernel) (k_room hR (by decide)) ⟨Nat.zero_le _, Nat.zero_le _⟩ (ci := 2) rfl 0 rfl rfl rfl (Nat.le_of_ble_eq_true rfl) (rfl) (rfl) dX3_layerOf_102 rfl ?_
      refine k_ifB_eq (tgt := 112) (q := 108) C dX3_layerOf_105 (by decide) rfl ?_ ?_
      · intro c_105
        refine k_iconst (q := 113) (v := 0) C dX3_layerOf_112 (by decide) rfl ?_
        exact k_fin E dX3_layerOf_113 (by rw [sLy, if_neg (by decide), if_neg (by decide), if_neg (by decide)]; first | exact bI_t c_105 | exact bI_f c_105) (rfl)
      · intro c_105
        refine k_iconst (q := 109) (v := 1) C dX3_layerOf_108 (by decide) rfl ?_
        refine k_goto (q := 113) C dX3_layerOf_109 (by decide) ?_
        exact k_fin E dX3_layerOf_113 (by rw [sLy, if_neg (by decide), if_neg (by decide), if_neg (by decide)]; first | exact bI_t c_105 | exact bI_f c_105) (rfl)
    have n_22_0 : ¬ nI w = 0 := fun q => s_22_0 ((nI_eq (a := w) (b := 0) (by omega) (by decide)).mp q)
    have n_22_1 : ¬ nI w = 1 := fun q => s_22_1 ((nI_eq (a := w) (b := 1) (by omega) (by decide)).mp q)
    have n_22_2 : ¬ nI w = 2 := fun q => s_22_2 ((nI_eq (a := w) (b := 2) (by omega) (by decide)).mp q)
    have n_22_3 : ¬ nI w = 3 := fun q => s_22_3 ((nI_eq (a := w) (b := 3) (by omega) (by decide)).mp q)
    exact absurd hw (by omega)
  · exact fun c_8 => absurd ⟨nI_pos' (by omega), nI_lt hp (by omega)⟩ c_8
abbrev rm_X3_spot : Room := { frames := 3, cells := 0, slots := 0, locals := 73 }
theorem in2_X3_spot : ∀ w ∈ wsX20, w ∈ wsX3_spot := fun _ h => (List.mem_cons_of_mem _ (List.mem_append_left _ (List.mem_append_left _ (List.mem_append_right _ h))))
theorem in3_X3_spot : ∀ w ∈ wsX30, w ∈ wsX3_spot := fun _ h => (List.mem_cons_of_mem _ (List.mem_append_left _ (List.mem_append_left _ (List.mem_append_left _ (List.mem_append_right _ h)))))
set_option maxHeartbeats 4000000 in
set_option maxRecDepth 100000 in
theorem c_X3_spot (cy : Nat → ClassId) (a : Nat → Nat) (b : Nat → Nat) (r : Nat) (nx : Nat) (sn : Nat) (ln : Nat) (sv : Nat → Option Nat) (kp : Nat → Option Nat) (ik : Nat → Int32) (bf : Nat → Nat) (kd : Nat) (hg : Nat) (nu : Nat) (dg : Nat) (ng : Bool) (tk : Bool) (n : Nat) (lit : Int32) (h : Nat → Int32) (t : Nat → Int32) (s : Nat → Int32) (g : Nat → Int32) (kn : Nat) (lo : Int32) (lf : Int32) (nm : Nat → Int32) (R : va_W) (j : Nat) (p : Nat) (z : Int32)  (hn : n ≤ 6) (hj : j < 2) (hp : p < n) (hz : 0 ≤ z ∧ z ≤ 4) : kI yX3_spot wsX3_spot rm_X3_spot cy [.ref (b 0), .int (nI j), .int (nI p), .int z] ((wXo b cy (a 0) r nx sn ln sv kp ik bf ++ wRd r kd hg nu dg ng tk) ++ (wSky a cy n lit h t s g kn lo lf nm ++ R)) (if (lit >>> (nI j &&& 31)) &&& 1 = 1 then sSpot h t s g j p z else -99999) ((wXo b cy (a 0) r nx sn ln sv kp ik bf ++ wRd r kd hg nu dg ng tk) ++ (wSky a cy n lit h t s g kn lo lf nm ++ R)) := by
  refine kI_of (cc := cX3_spot) (maxL := 4) (rt := .int) (by decide) rfl (rfl) (Nat.le_of_ble_eq_true rfl) ?_
  intro X hR C E
  have C : kC X 4 RX3 cX3_spot wsX3_spot cy := C
  refine k_fr (fr2 := [(0, .ref (b 0)), (1, .int (nI j)), (2, .int (nI p)), (3, .int z)]) ⟨[0, 1, 2, 3], rfl⟩ ?_
  refine k_iload_n (q := 1) C 1 dX3_spot_0 rfl rfl ?_
  refine k_callSI (n := 1) (q := 4) (pre := ([] : va_W)) (post := ((wXo b cy (a 0) r nx sn ln sv kp ik bf ++ wRd r kd hg nu dg ng tk) ++ (wSky a cy n lit h t s g kn lo lf nm ++ R))) (w2 := ((wXo b cy (a 0) r nx sn ln sv kp ik bf ++ wRd r kd hg nu dg ng tk) ++ (wSky a cy n lit h t s g kn lo lf nm ++ R))) (As := [.int (nI j)]) (rest := []) C (c_X3_isLight (nI j)) gX3_spot_X3_isLight rfl rfl rfl (by decide +kernel) (k_room hR (by decide)) ⟨Nat.zero_le _, Nat.zero_le _⟩  rfl rfl (Nat.le_of_ble_eq_true rfl) (rfl) (rfl) dX3_spot_1 rfl ?_
  refine k_ifB_eq (tgt := 18) (q := 7) C dX3_spot_4 (by decide) rfl ?_ ?_
  · exact fun c_4 => absurd (mSlot hj) c_4
  · intro c_4
    refine k_aload_n (q := 8) C 0 dX3_spot_7 rfl rfl ?_
    refine k_get (q := 11) (ci := 3) (v := .ref (a 0)) C 0 0 in3_X3_spot rfl (List.mem_of_getElem? (i := 5) rfl) rfl rfl (by decide) rfl dX3_spot_8 rfl ?_
    refine k_iload_n (q := 12) C 2 dX3_spot_11 rfl rfl ?_
    refine k_callVI (n := 1) (q := 15) (pre := (wXo b cy (a 0) r nx sn ln sv kp ik bf ++ wRd r kd hg nu dg ng tk)) (post := R) (w2 := ((wXo b cy (a 0) r nx sn ln sv kp ik bf ++ wRd r kd hg nu dg ng tk) ++ (wSky a cy n lit h t s g kn lo lf nm ++ R))) (As := [.int (nI p)]) (rest := []) C (c_X2_hasLayer cy a n lit h t s g kn lo lf nm (nI p)) gX3_spot_X2_hasLayer rfl rfl rfl (by decide +kernel) (k_room hR (by decide)) ⟨Nat.zero_le _, Nat.zero_le _⟩ (ci := 2) rfl 0 rfl rfl rfl (Nat.le_of_ble_eq_true rfl) (rfl) (rfl) dX3_spot_12 rfl ?_
    refine k_ifB_ne (tgt := 28) (q := 18) C dX3_spot_15 (by decide) rfl ?_ ?_
    · intro c_15
      refine k_iload_n (q := 29) C 3 dX3_spot_28 rfl rfl ?_
      refine k_if_lt (tgt := 37) (q := 32) C dX3_spot_29 (by decide) rfl ?_ ?_
      · exact fun c_29 => absurd c_29 (Int32.not_lt.mpr hz.1)
      · intro c_29
        refine k_iload_n (q := 33) C 3 dX3_spot_32 rfl rfl ?_
        refine k_iconst (q := 34) (v := 4) C dX3_spot_33 (by decide) rfl ?_
        refine k_icmp_le (tgt := 47) (q := 37) C dX3_spot_34 (by decide) rfl ?_ ?_
        · intro c_34
          refine k_aload_n (q := 48) C 0 dX3_spot_47 rfl rfl ?_
          refine k_get (q := 51) (ci := 3) (v := .ref (a 0)) C 0 0 in3_X3_spot rfl (List.mem_of_getElem? (i := 5) rfl) rfl rfl (by decide) rfl dX3_spot_48 rfl ?_
          refine k_iload_n (q := 52) C 1 dX3_spot_51 rfl rfl ?_
          refine k_callVI (n := 1) (q := 55) (pre := (wXo b cy (a 0) r nx sn ln sv kp ik bf ++ wRd r kd hg nu dg ng tk)) (post := R) (w2 := ((wXo b cy (a 0) r nx sn ln sv kp ik bf ++ wRd r kd hg nu dg ng tk) ++ (wSky a cy n lit h t s g kn lo lf nm ++ R))) (As := [.int (nI j)]) (rest := []) C (c_X2_isLit cy a n lit h t s g kn lo lf nm j) gX3_spot_X2_isLit rfl rfl rfl (by decide +kernel) (k_room hR (by decide)) ⟨Nat.zero_le _, Nat.zero_le _⟩ (ci := 2) rfl 0 rfl rfl rfl (Nat.le_of_ble_eq_true rfl) (rfl) (rfl) dX3_spot_52 rfl ?_
          refine k_ifB_eq (tgt := 71) (q := 58) C dX3_spot_55 (by decide) rfl ?_ ?_
          · intro c_55
            refine k_ldc (q := 73) (v := -99999) C (List.mem_of_getElem? (i := 6) rfl) dX3_spot_71 rfl ?_
            exact k_fin E dX3_spot_73 (by first | rw [if_pos c_55] | rw [if_neg c_55]) (rfl)
          · intro c_55
            refine k_aload_n (q := 59) C 0 dX3_spot_58 rfl rfl ?_
            refine k_get (q := 62) (ci := 3) (v := .ref (a 0)) C 0 0 in3_X3_spot rfl (List.mem_of_getElem? (i := 5) rfl) rfl rfl (by decide) rfl dX3_spot_59 rfl ?_
            refine k_iload_n (q := 63) C 1 dX3_spot_62 rfl rfl ?_
            refine k_iload_n (q := 64) C 2 dX3_spot_63 rfl rfl ?_
            refine k_iload_n (q := 65) C 3 dX3_spot_64 rfl rfl ?_
            refine k_callVI (n := 3) (q := 68) (pre := (wXo b cy (a 0) r nx sn ln sv kp ik bf ++ wRd r kd hg nu dg ng tk)) (post := R) (w2 := ((wXo b cy (a 0) r nx sn ln sv kp ik bf ++ wRd r kd hg nu dg ng tk) ++ (wSky a cy n lit h t s g kn lo lf nm ++ R))) (As := [.int (nI j), .int (nI p), .int z]) (rest := []) C (c_X2_spotNumber cy a n lit h t s g kn lo lf nm j p z (by omega) (by omega)) gX3_spot_X2_spotNumber rfl rfl rfl (by decide +kernel) (k_room hR (by decide)) ⟨Nat.zero_le _, Nat.zero_le _⟩ (ci := 2) rfl 0 rfl rfl rfl (Nat.le_of_ble_eq_true rfl) (rfl) (rfl) dX3_spot_65 rfl ?_
            refine k_goto (q := 73) C dX3_spot_68 (by decide) ?_
            exact k_fin E dX3_spot_73 (by first | rw [if_pos c_55] | rw [if_neg c_55]) (rfl)
        · exact fun c_34 => absurd hz.2 c_34
    · exact fun c_15 => absurd ⟨nI_pos' (by omega), nI_lt hp (by omega)⟩ c_15
abbrev rm_X3_reading : Room := { frames := 4, cells := 0, slots := 0, locals := 100 }
theorem in2_X3_reading : ∀ w ∈ wsX20, w ∈ wsX3_reading := fun _ h => (List.mem_cons_of_mem _ (List.mem_append_left _ (List.mem_append_right _ h)))
theorem in3_X3_reading : ∀ w ∈ wsX30, w ∈ wsX3_reading := fun _ h => (List.mem_cons_of_mem _ (List.mem_append_left _ (List.mem_append_left _ (List.mem_append_right _ h))))
set_option maxHeartbeats 4000000 in
set_option maxRecDepth 100000 in
theorem c_X3_reading (cy : Nat → ClassId) (a : Nat → Nat) (b : Nat → Nat) (r : Nat) (nx : Nat) (sn : Nat) (ln : Nat) (sv : Nat → Option Nat) (kp : Nat → Option Nat) (ik : Nat → Int32) (bf : Nat → Nat) (kd : Nat) (hg : Nat) (nu : Nat) (dg : Nat) (ng : Bool) (tk : Bool) (n : Nat) (lit : Int32) (h : Nat → Int32) (t : Nat → Int32) (s : Nat → Int32) (g : Nat → Int32) (kn : Nat) (lo : Int32) (lf : Int32) (nm : Nat → Int32) (R : va_W) (x : Int32)  (hn : n ≤ 6) (hx : 0 ≤ x ∧ x ≤ 3) : kI yX3_reading wsX3_reading rm_X3_reading cy [.ref (b 0), .int x] ((wXo b cy (a 0) r nx sn ln sv kp ik bf ++ wRd r kd hg nu dg ng tk) ++ (wSky a cy n lit h t s g kn lo lf nm ++ R)) (sRn lit h t s g n x) ((wXo b cy (a 0) r nx sn ln sv kp ik bf ++ wRd r kd hg nu dg ng tk) ++ (wSky a cy n lit h t s g kn lo lf nm ++ R)) := by
  refine kI_of (cc := cX3_reading) (maxL := 2) (rt := .int) (by decide) rfl (rfl) (Nat.le_of_ble_eq_true rfl) ?_
  intro X hR C E
  have C : kC X 2 RX3 cX3_reading wsX3_reading cy := C
  refine k_fr (fr2 := [(0, .ref (b 0)), (1, .int x)]) ⟨[0, 1], rfl⟩ ?_
  refine k_iload_n (q := 1) C 1 dX3_reading_0 rfl rfl ?_
  refine k_if_lt (tgt := 9) (q := 4) C dX3_reading_1 (by decide) rfl ?_ ?_
  · exact fun c_1 => absurd c_1 (Int32.not_lt.mpr hx.1)
  · intro c_1
    refine k_iload_n (q := 5) C 1 dX3_reading_4 rfl rfl ?_
    refine k_iconst (q := 6) (v := 3) C dX3_reading_5 (by decide) rfl ?_
    refine k_icmp_le (tgt := 19) (q := 9) C dX3_reading_6 (by decide) rfl ?_ ?_
    · intro c_6
      refine k_aload_n (q := 20) C 0 dX3_reading_19 rfl rfl ?_
      refine k_get (q := 23) (ci := 3) (v := .ref (a 0)) C 0 0 in3_X3_reading rfl (List.mem_of_getElem? (i := 3) rfl) rfl rfl (by decide) rfl dX3_reading_20 rfl ?_
      refine k_iload_n (q := 24) C 1 dX3_reading_23 rfl rfl ?_
      refine k_callVI (n := 1) (q := 27) (pre := (wXo b cy (a 0) r nx sn ln sv kp ik bf ++ wRd r kd hg nu dg ng tk)) (post := R) (w2 := ((wXo b cy (a 0) r nx sn ln sv kp ik bf ++ wRd r kd hg nu dg ng tk) ++ (wSky a cy n lit h t s g kn lo lf nm ++ R))) (As := [.int x]) (rest := []) C (c_X2_readingNumber cy a n lit h t s g kn lo lf nm x hn) gX3_reading_X2_readingNumber rfl rfl rfl (by decide +kernel) (k_room hR (by decide)) ⟨Nat.zero_le _, Nat.zero_le _⟩ (ci := 2) rfl 0 rfl rfl rfl (Nat.le_of_ble_eq_true rfl) (rfl) (rfl) dX3_reading_24 rfl ?_
      exact k_fin E dX3_reading_27 (rfl) (rfl)
    · exact fun c_6 => absurd hx.2 c_6
abbrev rm_X3_night : Room := { frames := 1, cells := 0, slots := 0, locals := 22 }
theorem in0_X3_night : ∀ w ∈ wsX00, w ∈ wsX3_night := fun _ h => (List.mem_cons_of_mem _ (List.mem_append_left _ (List.mem_append_right _ h)))
theorem in2_X3_night : ∀ w ∈ wsX20, w ∈ wsX3_night := fun _ h => (List.mem_cons_of_mem _ (List.mem_append_left _ (List.mem_append_left _ (List.mem_append_right _ h))))
theorem in3_X3_night : ∀ w ∈ wsX30, w ∈ wsX3_night := fun _ h => (List.mem_cons_of_mem _ (List.mem_append_left _ (List.mem_append_left _ (List.mem_append_left _ (List.mem_append_right _ h)))))
set_option maxHeartbeats 4000000 in
set_option maxRecDepth 100000 in
theorem c_X3_night (cy : Nat → ClassId) (a : Nat → Nat) (b : Nat → Nat) (r : Nat) (nx : Nat) (sn : Nat) (ln : Nat) (sv : Nat → Option Nat) (kp : Nat → Option Nat) (ik : Nat → Int32) (bf : Nat → Nat) (kd : Nat) (hg : Nat) (nu : Nat) (dg : Nat) (ng : Bool) (tk : Bool) (n : Nat) (lit : Int32) (h : Nat → Int32) (t : Nat → Int32) (s : Nat → Int32) (g : Nat → Int32) (kn : Nat) (lo : Int32) (lf : Int32) (nm : Nat → Int32) (R : va_W) (j : Nat) (w : Nat)  (hk : kn ≤ 8) (hw : w ≤ 3) (hj : j < 2 ^ 31) : kI yX3_night wsX3_night rm_X3_night cy [.ref (b 0), .int (nI j), .int (nI w)] ((wXo b cy (a 0) r nx sn ln sv kp ik bf ++ wRd r kd hg nu dg ng tk) ++ (wSky a cy n lit h t s g kn lo lf nm ++ R)) (sNight kn nm j w) ((wXo b cy (a 0) r nx sn ln sv kp ik bf ++ wRd r kd hg nu dg ng tk) ++ (wSky a cy n lit h t s g kn lo lf nm ++ R)) := by
  refine kI_of (cc := cX3_night) (maxL := 3) (rt := .int) (by decide) rfl (rfl) (Nat.le_of_ble_eq_true rfl) ?_
  intro X hR C E
  have C : kC X 3 RX3 cX3_night wsX3_night cy := C
  refine k_fr (fr2 := [(0, .ref (b 0)), (1, .int (nI j)), (2, .int (nI w))]) ⟨[0, 1, 2], rfl⟩ ?_
  refine k_iload_n (q := 1) C 1 dX3_night_0 rfl rfl ?_
  refine k_if_lt (tgt := 13) (q := 4) C dX3_night_1 (by decide) rfl ?_ ?_
  · exact fun c_1 => absurd c_1 (nI_pos hj)
  · intro c_1
    refine k_iload_n (q := 5) C 2 dX3_night_4 rfl rfl ?_
    refine k_if_lt (tgt := 13) (q := 8) C dX3_night_5 (by decide) rfl ?_ ?_
    · exact fun c_5 => absurd c_5 (nI_pos (by omega))
    · intro c_5
      refine k_iload_n (q := 9) C 2 dX3_night_8 rfl rfl ?_
      refine k_iconst (q := 10) (v := 4) C dX3_night_9 (by decide) rfl ?_
      refine k_nicmp_lt (a := w) (b := 4)  (tgt := 23) (q := 13) C dX3_night_10 (by decide) rfl (by omega) (by decide) ?_ ?_
      · intro c_10
        refine k_aload_n (q := 24) C 0 dX3_night_23 rfl rfl ?_
        refine k_get (q := 27) (ci := 3) (v := .ref (a 0)) C 0 0 in3_X3_night rfl (List.mem_of_getElem? (i := 3) rfl) rfl rfl (by decide) rfl dX3_night_24 rfl ?_
        refine k_get (q := 30) (ci := 2) (v := .ref (a 5)) C 6 6 in2_X3_night rfl (List.mem_of_getElem? (i := 4) rfl) rfl rfl (by decide) rfl dX3_night_27 rfl ?_
        refine k_iload_n (q := 31) C 1 dX3_night_30 rfl rfl ?_
        refine k_iload_n (q := 32) C 2 dX3_night_31 rfl rfl ?_
        refine k_callVI (n := 2) (q := 35) (pre := ((wXo b cy (a 0) r nx sn ln sv kp ik bf ++ wRd r kd hg nu dg ng tk) ++ wSky5 a cy n lit h t s g)) (post := R) (w2 := ((wXo b cy (a 0) r nx sn ln sv kp ik bf ++ wRd r kd hg nu dg ng tk) ++ (wSky a cy n lit h t s g kn lo lf nm ++ R))) (As := [.int (nI j), .int (nI w)]) (rest := []) C (c_X0_nightNumber cy a kn lo lf nm j w hk hw hj) gX3_night_X0_nightNumber rfl rfl rfl (by decide +kernel) (k_room hR (by decide)) ⟨Nat.zero_le _, Nat.zero_le _⟩ (ci := 0) rfl 0 rfl rfl rfl (Nat.le_of_ble_eq_true rfl) (rfl) (rfl) dX3_night_32 rfl ?_
        exact k_fin E dX3_night_35 (rfl) (rfl)
      · exact fun c_10 => absurd hw (by omega)
abbrev rm_X3_count : Room := { frames := 6, cells := 0, slots := 0, locals := 134 }
theorem in0_X3_count : ∀ w ∈ wsX00, w ∈ wsX3_count := fun _ h => (List.mem_cons_of_mem _ (List.mem_append_left _ (List.mem_append_right _ h)))
theorem in2_X3_count : ∀ w ∈ wsX20, w ∈ wsX3_count := fun _ h => (List.mem_cons_of_mem _ (List.mem_append_left _ (List.mem_append_left _ (List.mem_append_right _ h))))
theorem in3_X3_count : ∀ w ∈ wsX30, w ∈ wsX3_count := fun _ h => (List.mem_cons_of_mem _ (List.mem_append_left _ (List.mem_append_left _ (List.mem_append_left _ (List.mem_append_right _ h)))))
set_option maxHeartbeats 4000000 in
set_option maxRecDepth 100000 in
theorem c_X3_count (cy : Nat → ClassId) (a : Nat → Nat) (b : Nat → Nat) (r : Nat) (nx : Nat) (sn : Nat) (ln : Nat) (sv : Nat → Option Nat) (kp : Nat → Option Nat) (ik : Nat → Int32) (bf : Nat → Nat) (kd : Nat) (hg : Nat) (nu : Nat) (dg : Nat) (ng : Bool) (tk : Bool) (n : Nat) (lit : Int32) (h : Nat → Int32) (t : Nat → Int32) (s : Nat → Int32) (g : Nat → Int32) (kn : Nat) (lo : Int32) (lf : Int32) (nm : Nat → Int32) (R : va_W) (w : Nat)  (hn : n ≤ 6) (hw : w ≤ 16) : kI yX3_count wsX3_count rm_X3_count cy [.ref (b 0), .int (nI w)] ((wXo b cy (a 0) r nx sn ln sv kp ik bf ++ wRd r kd hg nu dg ng tk) ++ (wSky a cy n lit h t s g kn lo lf nm ++ R)) (xTc sn ln n lit h t s g kn lo lf w) ((wXo b cy (a 0) r nx sn ln sv kp ik bf ++ wRd r kd hg nu dg ng tk) ++ (wSky a cy n lit h t s g kn lo lf nm ++ R)) := by
  refine kI_of (cc := cX3_count) (maxL := 2) (rt := .int) (by decide) rfl (rfl) (Nat.le_of_ble_eq_true rfl) ?_
  intro X hR C E
  have C : kC X 2 RX3 cX3_count wsX3_count cy := C
  refine k_fr (fr2 := [(0, .ref (b 0)), (1, .int (nI w))]) ⟨[0, 1], rfl⟩ ?_
  refine k_iload_n (q := 1) C 1 dX3_count_0 rfl rfl ?_
  by_cases s_1_0 : w = 0
  · refine k_tabIn (q := 84) (off := 83) C dX3_count_1 (by rw [s_1_0]; decide +kernel) (by rw [s_1_0]; decide +kernel) (by rw [s_1_0]; decide +kernel) (by decide) ?_
    subst s_1_0
    refine k_aload_n (q := 85) C 0 dX3_count_84 rfl rfl ?_
    refine k_get (q := 88) (ci := 3) (v := .ref (a 0)) C 0 0 in3_X3_count rfl (List.mem_of_getElem? (i := 3) rfl) rfl rfl (by decide) rfl dX3_count_85 rfl ?_
    refine k_get (q := 91) (ci := 2) (v := .int (nI n)) C 6 0 in2_X3_count rfl (List.mem_of_getElem? (i := 4) rfl) rfl rfl (by decide) rfl dX3_count_88 rfl ?_
    exact k_fin E dX3_count_91 (rfl) (rfl)
  by_cases s_1_1 : w = 1
  · refine k_tabIn (q := 92) (off := 91) C dX3_count_1 (by rw [s_1_1]; decide +kernel) (by rw [s_1_1]; decide +kernel) (by rw [s_1_1]; decide +kernel) (by decide) ?_
    subst s_1_1
    refine k_aload_n (q := 93) C 0 dX3_count_92 rfl rfl ?_
    refine k_get (q := 96) (ci := 3) (v := .ref (a 0)) C 0 0 in3_X3_count rfl (List.mem_of_getElem? (i := 3) rfl) rfl rfl (by decide) rfl dX3_count_93 rfl ?_
    refine k_get (q := 99) (ci := 2) (v := .ref (a 3)) C 6 3 in2_X3_count rfl (List.mem_of_getElem? (i := 5) rfl) rfl rfl (by decide) rfl dX3_count_96 rfl ?_
    refine k_iconst (q := 100) (v := 0) C dX3_count_99 (by decide) rfl ?_
    refine k_iald (q := 101) C 9 rfl (vp_in_nI (n := 0) (by decide) (by decide)) dX3_count_100 rfl ?_
    refine k_st (st2 := (.int (s 0) :: _)) (congrArg (fun z => Value.int z :: _) (show s (0 : Int32).toNatClampNeg = s 0 from congrArg s (nI_clamp (n := 0) (by decide)))) ?_
    exact k_fin E dX3_count_101 (rfl) (rfl)
  by_cases s_1_2 : w = 2
  · refine k_tabIn (q := 102) (off := 101) C dX3_count_1 (by rw [s_1_2]; decide +kernel) (by rw [s_1_2]; decide +kernel) (by rw [s_1_2]; decide +kernel) (by decide) ?_
    subst s_1_2
    refine k_aload_n (q := 103) C 0 dX3_count_102 rfl rfl ?_
    refine k_get (q := 106) (ci := 3) (v := .ref (a 0)) C 0 0 in3_X3_count rfl (List.mem_of_getElem? (i := 3) rfl) rfl rfl (by decide) rfl dX3_count_103 rfl ?_
    refine k_get (q := 109) (ci := 2) (v := .ref (a 3)) C 6 3 in2_X3_count rfl (List.mem_of_getElem? (i := 5) rfl) rfl rfl (by decide) rfl dX3_count_106 rfl ?_
    refine k_iconst (q := 110) (v := 1) C dX3_count_109 (by decide) rfl ?_
    refine k_iald (q := 111) C 9 rfl (vp_in_nI (n := 1) (by decide) (by decide)) dX3_count_110 rfl ?_
    refine k_st (st2 := (.int (s 1) :: _)) (congrArg (fun z => Value.int z :: _) (show s (1 : Int32).toNatClampNeg = s 1 from congrArg s (nI_clamp (n := 1) (by decide)))) ?_
    exact k_fin E dX3_count_111 (rfl) (rfl)
  by_cases s_1_3 : w = 3
  · refine k_tabIn (q := 112) (off := 111) C dX3_count_1 (by rw [s_1_3]; decide +kernel) (by rw [s_1_3]; decide +kernel) (by rw [s_1_3]; decide +kernel) (by decide) ?_
    subst s_1_3
    refine k_aload_n (q := 113) C 0 dX3_count_112 rfl rfl ?_
    refine k_get (q := 116) (ci := 3) (v := .ref (a 0)) C 0 0 in3_X3_count rfl (List.mem_of_getElem? (i := 3) rfl) rfl rfl (by decide) rfl dX3_count_113 rfl ?_
    refine k_get (q := 119) (ci := 2) (v := .int lit) C 6 5 in2_X3_count rfl (List.mem_of_getElem? (i := 6) rfl) rfl rfl (by decide) rfl dX3_count_116 rfl ?_
    exact k_fin E dX3_count_119 (rfl) (rfl)
  by_cases s_1_4 : w = 4
  · refine k_tabIn (q := 120) (off := 119) C dX3_count_1 (by rw [s_1_4]; decide +kernel) (by rw [s_1_4]; decide +kernel) (by rw [s_1_4]; decide +kernel) (by decide) ?_
    subst s_1_4
    refine k_aload_n (q := 121) C 0 dX3_count_120 rfl rfl ?_
    refine k_get (q := 124) (ci := 3) (v := .ref (a 0)) C 0 0 in3_X3_count rfl (List.mem_of_getElem? (i := 3) rfl) rfl rfl (by decide) rfl dX3_count_121 rfl ?_
    refine k_aload_n (q := 125) C 0 dX3_count_124 rfl rfl ?_
    refine k_get (q := 128) (ci := 3) (v := .ref (a 0)) C 0 0 in3_X3_count rfl (List.mem_of_getElem? (i := 3) rfl) rfl rfl (by decide) rfl dX3_count_125 rfl ?_
    refine k_get (q := 131) (ci := 2) (v := .ref (a 3)) C 6 3 in2_X3_count rfl (List.mem_of_getElem? (i := 5) rfl) rfl rfl (by decide) rfl dX3_count_128 rfl ?_
    refine k_iconst (q := 132) (v := 0) C dX3_count_131 (by decide) rfl ?_
    refine k_iald (q := 133) C 9 rfl (vp_in_nI (n := 0) (by decide) (by decide)) dX3_count_132 rfl ?_
    refine k_st (st2 := (.int (s 0) :: _)) (congrArg (fun z => Value.int z :: _) (show s (0 : Int32).toNatClampNeg = s 0 from congrArg s (nI_clamp (n := 0) (by decide)))) ?_
    refine k_aload_n (q := 134) C 0 dX3_count_133 rfl rfl ?_
    refine k_get (q := 137) (ci := 3) (v := .ref (a 0)) C 0 0 in3_X3_count rfl (List.mem_of_getElem? (i := 3) rfl) rfl rfl (by decide) rfl dX3_count_134 rfl ?_
    refine k_get (q := 140) (ci := 2) (v := .ref (a 3)) C 6 3 in2_X3_count rfl (List.mem_of_getElem? (i := 5) rfl) rfl rfl (by decide) rfl dX3_count_137 rfl ?_
    refine k_iconst (q := 141) (v := 1) C dX3_count_140 (by decide) rfl ?_
    refine k_iald (q := 142) C 9 rfl (vp_in_nI (n := 1) (by decide) (by decide)) dX3_count_141 rfl ?_
    refine k_st (st2 := (.int (s 1) :: _)) (congrArg (fun z => Value.int z :: _) (show s (1 : Int32).toNatClampNeg = s 1 from congrArg s (nI_clamp (n := 1) (by decide)))) ?_
    refine k_callVI (n := 2) (q := 145) (pre := (wXo b cy (a 0) r nx sn ln sv kp ik bf ++ wRd r kd hg nu dg ng tk)) (post := R) (w2 := ((wXo b cy (a 0) r nx sn ln sv kp ik bf ++ wRd r kd hg nu dg ng tk) ++ (wSky a cy n lit h t s g kn lo lf nm ++ R))) (As := [.int (s 0), .int (s 1)]) (rest := []) C (c_X2_meetingHeight cy a n lit h t s g kn lo lf nm (s 0) (s 1)) gX3_count_X2_meetingHeight rfl rfl rfl (by decide +kernel) (k_room hR (by decide)) ⟨Nat.zero_le _, Nat.zero_le _⟩ (ci := 2) rfl 0 rfl rfl rfl (Nat.le_of_ble_eq_true rfl) (rfl) (rfl) dX3_count_142 rfl ?_
    exact k_fin E dX3_count_145 (rfl) (rfl)
  by_cases s_1_5 : w = 5
  · refine k_tabIn (q := 146) (off := 145) C dX3_count_1 (by rw [s_1_5]; decide +kernel) (by rw [s_1_5]; decide +kernel) (by rw [s_1_5]; decide +kernel) (by decide) ?_
    subst s_1_5
    refine k_aload_n (q := 147) C 0 dX3_count_146 rfl rfl ?_
    refine k_get (q := 150) (ci := 3) (v := .ref (a 0)) C 0 0 in3_X3_count rfl (List.mem_of_getElem? (i := 3) rfl) rfl rfl (by decide) rfl dX3_count_147 rfl ?_
    refine k_aload_n (q := 151) C 0 dX3_count_150 rfl rfl ?_
    refine k_get (q := 154) (ci := 3) (v := .ref (a 0)) C 0 0 in3_X3_count rfl (List.mem_of_getElem? (i := 3) rfl) rfl rfl (by decide) rfl dX3_count_151 rfl ?_
    refine k_get (q := 157) (ci := 2) (v := .ref (a 4)) C 6 4 in2_X3_count rfl (List.mem_of_getElem? (i := 7) rfl) rfl rfl (by decide) rfl dX3_count_154 rfl ?_
    refine k_iconst (q := 158) (v := 1) C dX3_count_157 (by decide) rfl ?_
    refine k_iald (q := 159) C 10 rfl (vp_in_nI (n := 1) (by decide) (by decide)) dX3_count_158 rfl ?_
    refine k_st (st2 := (.int (g 1) :: _)) (congrArg (fun z => Value.int z :: _) (show g (1 : Int32).toNatClampNeg = g 1 from congrArg g (nI_clamp (n := 1) (by decide)))) ?_
    refine k_callVI (n := 1) (q := 162) (pre := (wXo b cy (a 0) r nx sn ln sv kp ik bf ++ wRd r kd hg nu dg ng tk)) (post := R) (w2 := ((wXo b cy (a 0) r nx sn ln sv kp ik bf ++ wRd r kd hg nu dg ng tk) ++ (wSky a cy n lit h t s g kn lo lf nm ++ R))) (As := [.int (g 1)]) (rest := []) C (c_X2_seenSpots cy a n lit h t s g kn lo lf nm (g 1) hn) gX3_count_X2_seenSpots rfl rfl rfl (by decide +kernel) (k_room hR (by decide)) ⟨Nat.zero_le _, Nat.zero_le _⟩ (ci := 2) rfl 0 rfl rfl rfl (Nat.le_of_ble_eq_true rfl) (rfl) (rfl) dX3_count_159 rfl ?_
    exact k_fin E dX3_count_162 (rfl) (rfl)
  by_cases s_1_6 : w = 6
  · refine k_tabIn (q := 163) (off := 162) C dX3_count_1 (by rw [s_1_6]; decide +kernel) (by rw [s_1_6]; decide +kernel) (by rw [s_1_6]; decide +kernel) (by decide) ?_
    subst s_1_6
    refine k_aload_n (q := 164) C 0 dX3_count_163 rfl rfl ?_
    refine k_get (q := 167) (ci := 3) (v := .ref (a 0)) C 0 0 in3_X3_count rfl (List.mem_of_getElem? (i := 3) rfl) rfl rfl (by decide) rfl dX3_count_164 rfl ?_
    refine k_callVI (n := 0) (q := 170) (pre := (wXo b cy (a 0) r nx sn ln sv kp ik bf ++ wRd r kd hg nu dg ng tk)) (post := R) (w2 := ((wXo b cy (a 0) r nx sn ln sv kp ik bf ++ wRd r kd hg nu dg ng tk) ++ (wSky a cy n lit h t s g kn lo lf nm ++ R))) (As := []) (rest := []) C (c_X2_pairLayers cy a n lit h t s g kn lo lf nm hn) gX3_count_X2_pairLayers rfl rfl rfl (by decide +kernel) (k_room hR (by decide)) ⟨Nat.zero_le _, Nat.zero_le _⟩ (ci := 2) rfl 0 rfl rfl rfl (Nat.le_of_ble_eq_true rfl) (rfl) (rfl) dX3_count_167 rfl ?_
    refine k_callSI (n := 1) (q := 173) (pre := ([] : va_W)) (post := ((wXo b cy (a 0) r nx sn ln sv kp ik bf ++ wRd r kd hg nu dg ng tk) ++ (wSky a cy n lit h t s g kn lo lf nm ++ R))) (w2 := ((wXo b cy (a 0) r nx sn ln sv kp ik bf ++ wRd r kd hg nu dg ng tk) ++ (wSky a cy n lit h t s g kn lo lf nm ++ R))) (As := [.int (nI (sPm lit h t g n))]) (rest := []) C (c_J6_bitCount_0f7a4 (nI (sPm lit h t g n))) gX3_count_J6_bitCount_0f7a4 rfl rfl rfl (by decide +kernel) (k_room hR (by decide)) ⟨Nat.zero_le _, Nat.zero_le _⟩  rfl rfl (Nat.le_of_ble_eq_true rfl) (rfl) (rfl) dX3_count_170 rfl ?_
    exact k_fin E dX3_count_173 (rfl) (rfl)
  by_cases s_1_7 : w = 7
  · refine k_tabIn (q := 174) (off := 173) C dX3_count_1 (by rw [s_1_7]; decide +kernel) (by rw [s_1_7]; decide +kernel) (by rw [s_1_7]; decide +kernel) (by decide) ?_
    subst s_1_7
    refine k_aload_n (q := 175) C 0 dX3_count_174 rfl rfl ?_
    refine k_get (q := 178) (ci := 3) (v := .ref (a 0)) C 0 0 in3_X3_count rfl (List.mem_of_getElem? (i := 3) rfl) rfl rfl (by decide) rfl dX3_count_175 rfl ?_
    refine k_callVI (n := 0) (q := 181) (pre := (wXo b cy (a 0) r nx sn ln sv kp ik bf ++ wRd r kd hg nu dg ng tk)) (post := R) (w2 := ((wXo b cy (a 0) r nx sn ln sv kp ik bf ++ wRd r kd hg nu dg ng tk) ++ (wSky a cy n lit h t s g kn lo lf nm ++ R))) (As := []) (rest := []) C (c_X2_closePairs cy a n lit h t s g kn lo lf nm hn) gX3_count_X2_closePairs rfl rfl rfl (by decide +kernel) (k_room hR (by decide)) ⟨Nat.zero_le _, Nat.zero_le _⟩ (ci := 2) rfl 0 rfl rfl rfl (Nat.le_of_ble_eq_true rfl) (rfl) (rfl) dX3_count_178 rfl ?_
    exact k_fin E dX3_count_181 (rfl) (rfl)
  by_cases s_1_8 : w = 8
  · refine k_tabIn (q := 182) (off := 181) C dX3_count_1 (by rw [s_1_8]; decide +kernel) (by rw [s_1_8]; decide +kernel) (by rw [s_1_8]; decide +kernel) (by decide) ?_
    subst s_1_8
    refine k_aload_n (q := 183) C 0 dX3_count_182 rfl rfl ?_
    refine k_get (q := 186) (ci := 3) (v := .ref (a 0)) C 0 0 in3_X3_count rfl (List.mem_of_getElem? (i := 3) rfl) rfl rfl (by decide) rfl dX3_count_183 rfl ?_
    refine k_get (q := 189) (ci := 2) (v := .ref (a 5)) C 6 6 in2_X3_count rfl (List.mem_of_getElem? (i := 8) rfl) rfl rfl (by decide) rfl dX3_count_186 rfl ?_
    refine k_get (q := 192) (ci := 0) (v := .int (nI kn)) C 11 1 in0_X3_count rfl (List.mem_of_getElem? (i := 9) rfl) rfl rfl (by decide) rfl dX3_count_189 rfl ?_
    exact k_fin E dX3_count_192 (rfl) (rfl)
  by_cases s_1_9 : w = 9
  · refine k_tabIn (q := 193) (off := 192) C dX3_count_1 (by rw [s_1_9]; decide +kernel) (by rw [s_1_9]; decide +kernel) (by rw [s_1_9]; decide +kernel) (by decide) ?_
    subst s_1_9
    refine k_aload_n (q := 194) C 0 dX3_count_193 rfl rfl ?_
    refine k_get (q := 197) (ci := 3) (v := .ref (a 0)) C 0 0 in3_X3_count rfl (List.mem_of_getElem? (i := 3) rfl) rfl rfl (by decide) rfl dX3_count_194 rfl ?_
    refine k_get (q := 200) (ci := 2) (v := .ref (a 5)) C 6 6 in2_X3_count rfl (List.mem_of_getElem? (i := 8) rfl) rfl rfl (by decide) rfl dX3_count_197 rfl ?_
    refine k_get (q := 203) (ci := 0) (v := .int lo) C 11 2 in0_X3_count rfl (List.mem_of_getElem? (i := 10) rfl) rfl rfl (by decide) rfl dX3_count_200 rfl ?_
    exact k_fin E dX3_count_203 (rfl) (rfl)
  by_cases s_1_10 : w = 10
  · refine k_tabIn (q := 204) (off := 203) C dX3_count_1 (by rw [s_1_10]; decide +kernel) (by rw [s_1_10]; decide +kernel) (by rw [s_1_10]; decide +kernel) (by decide) ?_
    subst s_1_10
    refine k_aload_n (q := 205) C 0 dX3_count_204 rfl rfl ?_
    refine k_get (q := 208) (ci := 3) (v := .ref (a 0)) C 0 0 in3_X3_count rfl (List.mem_of_getElem? (i := 3) rfl) rfl rfl (by decide) rfl dX3_count_205 rfl ?_
    refine k_get (q := 211) (ci := 2) (v := .ref (a 5)) C 6 6 in2_X3_count rfl (List.mem_of_getElem? (i := 8) rfl) rfl rfl (by decide) rfl dX3_count_208 rfl ?_
    refine k_get (q := 214) (ci := 0) (v := .int lf) C 11 3 in0_X3_count rfl (List.mem_of_getElem? (i := 11) rfl) rfl rfl (by decide) rfl dX3_count_211 rfl ?_
    exact k_fin E dX3_count_214 (rfl) (rfl)
  by_cases s_1_11 : w = 11
  · refine k_tabIn (q := 215) (off := 214) C dX3_count_1 (by rw [s_1_11]; decide +kernel) (by rw [s_1_11]; decide +kernel) (by rw [s_1_11]; decide +kernel) (by decide) ?_
    subst s_1_11
    refine k_aload_n (q := 216) C 0 dX3_count_215 rfl rfl ?_
    refine k_get (q := 219) (ci := 3) (v := .int (nI sn)) C 0 3 in3_X3_count rfl (List.mem_of_getElem? (i := 12) rfl) rfl rfl (by decide) rfl dX3_count_216 rfl ?_
    exact k_fin E dX3_count_219 (rfl) (rfl)
  by_cases s_1_12 : w = 12
  · refine k_tabIn (q := 220) (off := 219) C dX3_count_1 (by rw [s_1_12]; decide +kernel) (by rw [s_1_12]; decide +kernel) (by rw [s_1_12]; decide +kernel) (by decide) ?_
    subst s_1_12
    refine k_aload_n (q := 221) C 0 dX3_count_220 rfl rfl ?_
    refine k_get (q := 224) (ci := 3) (v := .int (nI ln)) C 0 7 in3_X3_count rfl (List.mem_of_getElem? (i := 13) rfl) rfl rfl (by decide) rfl dX3_count_221 rfl ?_
    exact k_fin E dX3_count_224 (rfl) (rfl)
  by_cases s_1_13 : w = 13
  · refine k_tabIn (q := 225) (off := 224) C dX3_count_1 (by rw [s_1_13]; decide +kernel) (by rw [s_1_13]; decide +kernel) (by rw [s_1_13]; decide +kernel) (by decide) ?_
    subst s_1_13
    refine k_aload_n (q := 226) C 0 dX3_count_225 rfl rfl ?_
    refine k_get (q := 229) (ci := 3) (v := .ref (a 0)) C 0 0 in3_X3_count rfl (List.mem_of_getElem? (i := 3) rfl) rfl rfl (by decide) rfl dX3_count_226 rfl ?_
    refine k_get (q := 232) (ci := 2) (v := .ref (a 4)) C 6 4 in2_X3_count rfl (List.mem_of_getElem? (i := 7) rfl) rfl rfl (by decide) rfl dX3_count_229 rfl ?_
    refine k_iconst (q := 233) (v := 0) C dX3_count_232 (by decide) rfl ?_
    refine k_iald (q := 234) C 10 rfl (vp_in_nI (n := 0) (by decide) (by decide)) dX3_count_233 rfl ?_
    refine k_st (st2 := (.int (g 0) :: _)) (congrArg (fun z => Value.int z :: _) (show g (0 : Int32).toNatClampNeg = g 0 from congrArg g (nI_clamp (n := 0) (by decide)))) ?_
    exact k_fin E dX3_count_234 (rfl) (rfl)
  by_cases s_1_14 : w = 14
  · refine k_tabIn (q := 235) (off := 234) C dX3_count_1 (by rw [s_1_14]; decide +kernel) (by rw [s_1_14]; decide +kernel) (by rw [s_1_14]; decide +kernel) (by decide) ?_
    subst s_1_14
    refine k_aload_n (q := 236) C 0 dX3_count_235 rfl rfl ?_
    refine k_get (q := 239) (ci := 3) (v := .ref (a 0)) C 0 0 in3_X3_count rfl (List.mem_of_getElem? (i := 3) rfl) rfl rfl (by decide) rfl dX3_count_236 rfl ?_
    refine k_get (q := 242) (ci := 2) (v := .ref (a 4)) C 6 4 in2_X3_count rfl (List.mem_of_getElem? (i := 7) rfl) rfl rfl (by decide) rfl dX3_count_239 rfl ?_
    refine k_iconst (q := 243) (v := 1) C dX3_count_242 (by decide) rfl ?_
    refine k_iald (q := 244) C 10 rfl (vp_in_nI (n := 1) (by decide) (by decide)) dX3_count_243 rfl ?_
    refine k_st (st2 := (.int (g 1) :: _)) (congrArg (fun z => Value.int z :: _) (show g (1 : Int32).toNatClampNeg = g 1 from congrArg g (nI_clamp (n := 1) (by decide)))) ?_
    exact k_fin E dX3_count_244 (rfl) (rfl)
  by_cases s_1_15 : w = 15
  · refine k_tabIn (q := 245) (off := 244) C dX3_count_1 (by rw [s_1_15]; decide +kernel) (by rw [s_1_15]; decide +kernel) (by rw [s_1_15]; decide +kernel) (by decide) ?_
    subst s_1_15
    refine k_aload_n (q := 246) C 0 dX3_count_245 rfl rfl ?_
    refine k_get (q := 249) (ci := 3) (v := .ref (a 0)) C 0 0 in3_X3_count rfl (List.mem_of_getElem? (i := 3) rfl) rfl rfl (by decide) rfl dX3_count_246 rfl ?_
    refine k_get (q := 252) (ci := 2) (v := .ref (a 4)) C 6 4 in2_X3_count rfl (List.mem_of_getElem? (i := 7) rfl) rfl rfl (by decide) rfl dX3_count_249 rfl ?_
    refine k_iconst (q := 253) (v := 2) C dX3_count_252 (by decide) rfl ?_
    refine k_iald (q := 254) C 10 rfl (vp_in_nI (n := 2) (by decide) (by decide)) dX3_count_253 rfl ?_
    refine k_st (st2 := (.int (g 2) :: _)) (congrArg (fun z => Value.int z :: _) (show g (2 : Int32).toNatClampNeg = g 2 from congrArg g (nI_clamp (n := 2) (by decide)))) ?_
    exact k_fin E dX3_count_254 (rfl) (rfl)
  by_cases s_1_16 : w = 16
  · refine k_tabIn (q := 255) (off := 254) C dX3_count_1 (by rw [s_1_16]; decide +kernel) (by rw [s_1_16]; decide +kernel) (by rw [s_1_16]; decide +kernel) (by decide) ?_
    subst s_1_16
    refine k_aload_n (q := 256) C 0 dX3_count_255 rfl rfl ?_
    refine k_get (q := 259) (ci := 3) (v := .ref (a 0)) C 0 0 in3_X3_count rfl (List.mem_of_getElem? (i := 3) rfl) rfl rfl (by decide) rfl dX3_count_256 rfl ?_
    refine k_get (q := 262) (ci := 2) (v := .ref (a 4)) C 6 4 in2_X3_count rfl (List.mem_of_getElem? (i := 7) rfl) rfl rfl (by decide) rfl dX3_count_259 rfl ?_
    refine k_iconst (q := 263) (v := 3) C dX3_count_262 (by decide) rfl ?_
    refine k_iald (q := 264) C 10 rfl (vp_in_nI (n := 3) (by decide) (by decide)) dX3_count_263 rfl ?_
    refine k_st (st2 := (.int (g 3) :: _)) (congrArg (fun z => Value.int z :: _) (show g (3 : Int32).toNatClampNeg = g 3 from congrArg g (nI_clamp (n := 3) (by decide)))) ?_
    exact k_fin E dX3_count_264 (rfl) (rfl)
  have n_1_0 : ¬ nI w = 0 := fun q => s_1_0 ((nI_eq (a := w) (b := 0) (by omega) (by decide)).mp q)
  have n_1_1 : ¬ nI w = 1 := fun q => s_1_1 ((nI_eq (a := w) (b := 1) (by omega) (by decide)).mp q)
  have n_1_2 : ¬ nI w = 2 := fun q => s_1_2 ((nI_eq (a := w) (b := 2) (by omega) (by decide)).mp q)
  have n_1_3 : ¬ nI w = 3 := fun q => s_1_3 ((nI_eq (a := w) (b := 3) (by omega) (by decide)).mp q)
  have n_1_4 : ¬ nI w = 4 := fun q => s_1_4 ((nI_eq (a := w) (b := 4) (by omega) (by decide)).mp q)
  have n_1_5 : ¬ nI w = 5 := fun q => s_1_5 ((nI_eq (a := w) (b := 5) (by omega) (by decide)).mp q)
  have n_1_6 : ¬ nI w = 6 := fun q => s_1_6 ((nI_eq (a := w) (b := 6) (by omega) (by decide)).mp q)
  have n_1_7 : ¬ nI w = 7 := fun q => s_1_7 ((nI_eq (a := w) (b := 7) (by omega) (by decide)).mp q)
  have n_1_8 : ¬ nI w = 8 := fun q => s_1_8 ((nI_eq (a := w) (b := 8) (by omega) (by decide)).mp q)
  have n_1_9 : ¬ nI w = 9 := fun q => s_1_9 ((nI_eq (a := w) (b := 9) (by omega) (by decide)).mp q)
  have n_1_10 : ¬ nI w = 10 := fun q => s_1_10 ((nI_eq (a := w) (b := 10) (by omega) (by decide)).mp q)
  have n_1_11 : ¬ nI w = 11 := fun q => s_1_11 ((nI_eq (a := w) (b := 11) (by omega) (by decide)).mp q)
  have n_1_12 : ¬ nI w = 12 := fun q => s_1_12 ((nI_eq (a := w) (b := 12) (by omega) (by decide)).mp q)
  have n_1_13 : ¬ nI w = 13 := fun q => s_1_13 ((nI_eq (a := w) (b := 13) (by omega) (by decide)).mp q)
  have n_1_14 : ¬ nI w = 14 := fun q => s_1_14 ((nI_eq (a := w) (b := 14) (by omega) (by decide)).mp q)
  have n_1_15 : ¬ nI w = 15 := fun q => s_1_15 ((nI_eq (a := w) (b := 15) (by omega) (by decide)).mp q)
  have n_1_16 : ¬ nI w = 16 := fun q => s_1_16 ((nI_eq (a := w) (b := 16) (by omega) (by decide)).mp q)
  exact absurd hw (by omega)
abbrev rm_X3_nearest : Room := { frames := 3, cells := 0, slots := 0, locals := 79 }
theorem in2_X3_nearest : ∀ w ∈ wsX20, w ∈ wsX3_nearest := fun _ h => (List.mem_cons_of_mem _ (List.mem_append_left _ (List.mem_append_left _ (List.mem_append_right _ h))))
theorem in3_X3_nearest : ∀ w ∈ wsX30, w ∈ wsX3_nearest := fun _ h => (List.mem_cons_of_mem _ (List.mem_append_left _ (List.mem_append_left _ (List.mem_append_left _ (List.mem_append_right _ h)))))
set_option maxHeartbeats 4000000 in
set_option maxRecDepth 100000 in
theorem c_X3_nearest (cy : Nat → ClassId) (a : Nat → Nat) (b : Nat → Nat) (r : Nat) (nx : Nat) (sn : Nat) (ln : Nat) (sv : Nat → Option Nat) (kp : Nat → Option Nat) (ik : Nat → Int32) (bf : Nat → Nat) (kd : Nat) (hg : Nat) (nu : Nat) (dg : Nat) (ng : Bool) (tk : Bool) (n : Nat) (lit : Int32) (h : Nat → Int32) (t : Nat → Int32) (s : Nat → Int32) (g : Nat → Int32) (kn : Nat) (lo : Int32) (lf : Int32) (nm : Nat → Int32) (R : va_W) (j : Nat) (p : Nat) (z : Int32)  (hn : n ≤ 6) (hj : j < 2) (hp : p < n) (hz : z = 0 ∨ z = 1) (hh : 0 < h p) : kI yX3_nearest wsX3_nearest rm_X3_nearest cy [.ref (b 0), .int (nI j), .int (nI p), .int z] ((wXo b cy (a 0) r nx sn ln sv kp ik bf ++ wRd r kd hg nu dg ng tk) ++ (wSky a cy n lit h t s g kn lo lf nm ++ R)) ((if z = 0 then iI (sTry g h s j p) else iI (sCmp g h s j p)) + 100) ((wXo b cy (a 0) r nx sn ln sv kp ik bf ++ wRd r kd hg nu dg ng tk) ++ (wSky a cy n lit h t s g kn lo lf nm ++ R)) := by
  refine kI_of (cc := cX3_nearest) (maxL := 5) (rt := .int) (by decide) rfl (rfl) (Nat.le_of_ble_eq_true rfl) ?_
  intro X hR C E
  have C : kC X 5 RX3 cX3_nearest wsX3_nearest cy := C
  refine k_fr (fr2 := [(0, .ref (b 0)), (1, .int (nI j)), (2, .int (nI p)), (3, .int z)]) ⟨[0, 1, 2, 3], rfl⟩ ?_
  refine k_iload_n (q := 1) C 1 dX3_nearest_0 rfl rfl ?_
  refine k_callSI (n := 1) (q := 4) (pre := ([] : va_W)) (post := ((wXo b cy (a 0) r nx sn ln sv kp ik bf ++ wRd r kd hg nu dg ng tk) ++ (wSky a cy n lit h t s g kn lo lf nm ++ R))) (w2 := ((wXo b cy (a 0) r nx sn ln sv kp ik bf ++ wRd r kd hg nu dg ng tk) ++ (wSky a cy n lit h t s g kn lo lf nm ++ R))) (As := [.int (nI j)]) (rest := []) C (c_X3_isLight (nI j)) gX3_nearest_X3_isLight rfl rfl rfl (by decide +kernel) (k_room hR (by decide)) ⟨Nat.zero_le _, Nat.zero_le _⟩  rfl rfl (Nat.le_of_ble_eq_true rfl) (rfl) (rfl) dX3_nearest_1 rfl ?_
  refine k_ifB_eq (tgt := 18) (q := 7) C dX3_nearest_4 (by decide) rfl ?_ ?_
  · exact fun c_4 => absurd (mSlot hj) c_4
  · intro c_4
    refine k_aload_n (q := 8) C 0 dX3_nearest_7 rfl rfl ?_
    refine k_get (q := 11) (ci := 3) (v := .ref (a 0)) C 0 0 in3_X3_nearest rfl (List.mem_of_getElem? (i := 5) rfl) rfl rfl (by decide) rfl dX3_nearest_8 rfl ?_
    refine k_iload_n (q := 12) C 2 dX3_nearest_11 rfl rfl ?_
    refine k_callVI (n := 1) (q := 15) (pre := (wXo b cy (a 0) r nx sn ln sv kp ik bf ++ wRd r kd hg nu dg ng tk)) (post := R) (w2 := ((wXo b cy (a 0) r nx sn ln sv kp ik bf ++ wRd r kd hg nu dg ng tk) ++ (wSky a cy n lit h t s g kn lo lf nm ++ R))) (As := [.int (nI p)]) (rest := []) C (c_X2_hasLayer cy a n lit h t s g kn lo lf nm (nI p)) gX3_nearest_X2_hasLayer rfl rfl rfl (by decide +kernel) (k_room hR (by decide)) ⟨Nat.zero_le _, Nat.zero_le _⟩ (ci := 2) rfl 0 rfl rfl rfl (Nat.le_of_ble_eq_true rfl) (rfl) (rfl) dX3_nearest_12 rfl ?_
    refine k_ifB_ne (tgt := 28) (q := 18) C dX3_nearest_15 (by decide) rfl ?_ ?_
    · intro c_15
      refine k_iload_n (q := 29) C 3 dX3_nearest_28 rfl rfl ?_
      refine k_if_eq (tgt := 47) (q := 32) C dX3_nearest_29 (by decide) rfl ?_ ?_
      · intro c_29
        refine k_iload_n (q := 48) C 3 dX3_nearest_47 rfl rfl ?_
        refine k_if_ne (tgt := 63) (q := 51) C dX3_nearest_48 (by decide) rfl ?_ ?_
        · intro c_48
          refine k_aload_n (q := 64) C 0 dX3_nearest_63 rfl rfl ?_
          refine k_get (q := 67) (ci := 3) (v := .ref (a 0)) C 0 0 in3_X3_nearest rfl (List.mem_of_getElem? (i := 5) rfl) rfl rfl (by decide) rfl dX3_nearest_64 rfl ?_
          refine k_iload_n (q := 68) C 1 dX3_nearest_67 rfl rfl ?_
          refine k_iload_n (q := 69) C 2 dX3_nearest_68 rfl rfl ?_
          refine k_callVI (n := 2) (q := 72) (pre := (wXo b cy (a 0) r nx sn ln sv kp ik bf ++ wRd r kd hg nu dg ng tk)) (post := R) (w2 := ((wXo b cy (a 0) r nx sn ln sv kp ik bf ++ wRd r kd hg nu dg ng tk) ++ (wSky a cy n lit h t s g kn lo lf nm ++ R))) (As := [.int (nI j), .int (nI p)]) (rest := []) C (c_X2_slopeFoundByComputing cy a n lit h t s g kn lo lf nm j p hj (by omega) hh) gX3_nearest_X2_slopeFoundByComputing rfl rfl rfl (by decide +kernel) (k_room hR (by decide)) ⟨Nat.zero_le _, Nat.zero_le _⟩ (ci := 2) rfl 0 rfl rfl rfl (Nat.le_of_ble_eq_true rfl) (rfl) (rfl) dX3_nearest_69 rfl ?_
          refine k_istore (q := 74) (fr2 := [(4, .int (iI (sCmp g h s j p))), (0, .ref (b 0)), (1, .int (nI j)), (2, .int (nI p)), (3, .int z)]) C dX3_nearest_72 (by decide) rfl rfl ?_
          refine k_iload (q := 76) C 0 dX3_nearest_74 rfl rfl ?_
          refine k_bipush (q := 78) (v := 100) C dX3_nearest_76 (by decide +kernel) rfl ?_
          refine k_iadd (q := 79) C dX3_nearest_78 rfl ?_
          exact k_fin E dX3_nearest_79 (by first | rw [if_pos c_48] | rw [if_neg c_48]) (rfl)
        · intro c_48
          refine k_aload_n (q := 52) C 0 dX3_nearest_51 rfl rfl ?_
          refine k_get (q := 55) (ci := 3) (v := .ref (a 0)) C 0 0 in3_X3_nearest rfl (List.mem_of_getElem? (i := 5) rfl) rfl rfl (by decide) rfl dX3_nearest_52 rfl ?_
          refine k_iload_n (q := 56) C 1 dX3_nearest_55 rfl rfl ?_
          refine k_iload_n (q := 57) C 2 dX3_nearest_56 rfl rfl ?_
          refine k_callVI (n := 2) (q := 60) (pre := (wXo b cy (a 0) r nx sn ln sv kp ik bf ++ wRd r kd hg nu dg ng tk)) (post := R) (w2 := ((wXo b cy (a 0) r nx sn ln sv kp ik bf ++ wRd r kd hg nu dg ng tk) ++ (wSky a cy n lit h t s g kn lo lf nm ++ R))) (As := [.int (nI j), .int (nI p)]) (rest := []) C (c_X2_slopeFoundByTrying cy a n lit h t s g kn lo lf nm j p (by omega) (by omega)) gX3_nearest_X2_slopeFoundByTrying rfl rfl rfl (by decide +kernel) (k_room hR (by decide)) ⟨Nat.zero_le _, Nat.zero_le _⟩ (ci := 2) rfl 0 rfl rfl rfl (Nat.le_of_ble_eq_true rfl) (rfl) (rfl) dX3_nearest_57 rfl ?_
          refine k_goto (q := 72) C dX3_nearest_60 (by decide) ?_
          refine k_istore (q := 74) (fr2 := [(4, .int (iI (sTry g h s j p))), (0, .ref (b 0)), (1, .int (nI j)), (2, .int (nI p)), (3, .int z)]) C dX3_nearest_72 (by decide) rfl rfl ?_
          refine k_iload (q := 76) C 0 dX3_nearest_74 rfl rfl ?_
          refine k_bipush (q := 78) (v := 100) C dX3_nearest_76 (by decide +kernel) rfl ?_
          refine k_iadd (q := 79) C dX3_nearest_78 rfl ?_
          exact k_fin E dX3_nearest_79 (by first | rw [if_pos c_48] | rw [if_neg c_48]) (rfl)
      · intro c_29
        refine k_iload_n (q := 33) C 3 dX3_nearest_32 rfl rfl ?_
        refine k_iconst (q := 34) (v := 1) C dX3_nearest_33 (by decide) rfl ?_
        refine k_icmp_eq (tgt := 47) (q := 37) C dX3_nearest_34 (by decide) rfl ?_ ?_
        · intro c_34
          refine k_iload_n (q := 48) C 3 dX3_nearest_47 rfl rfl ?_
          refine k_if_ne (tgt := 63) (q := 51) C dX3_nearest_48 (by decide) rfl ?_ ?_
          · intro c_48
            refine k_aload_n (q := 64) C 0 dX3_nearest_63 rfl rfl ?_
            refine k_get (q := 67) (ci := 3) (v := .ref (a 0)) C 0 0 in3_X3_nearest rfl (List.mem_of_getElem? (i := 5) rfl) rfl rfl (by decide) rfl dX3_nearest_64 rfl ?_
            refine k_iload_n (q := 68) C 1 dX3_nearest_67 rfl rfl ?_
            refine k_iload_n (q := 69) C 2 dX3_nearest_68 rfl rfl ?_
            refine k_callVI (n := 2) (q := 72) (pre := (wXo b cy (a 0) r nx sn ln sv kp ik bf ++ wRd r kd hg nu dg ng tk)) (post := R) (w2 := ((wXo b cy (a 0) r nx sn ln sv kp ik bf ++ wRd r kd hg nu dg ng tk) ++ (wSky a cy n lit h t s g kn lo lf nm ++ R))) (As := [.int (nI j), .int (nI p)]) (rest := []) C (c_X2_slopeFoundByComputing cy a n lit h t s g kn lo lf nm j p hj (by omega) hh) gX3_nearest_X2_slopeFoundByComputing rfl rfl rfl (by decide +kernel) (k_room hR (by decide)) ⟨Nat.zero_le _, Nat.zero_le _⟩ (ci := 2) rfl 0 rfl rfl rfl (Nat.le_of_ble_eq_true rfl) (rfl) (rfl) dX3_nearest_69 rfl ?_
            refine k_istore (q := 74) (fr2 := [(4, .int (iI (sCmp g h s j p))), (0, .ref (b 0)), (1, .int (nI j)), (2, .int (nI p)), (3, .int z)]) C dX3_nearest_72 (by decide) rfl rfl ?_
            refine k_iload (q := 76) C 0 dX3_nearest_74 rfl rfl ?_
            refine k_bipush (q := 78) (v := 100) C dX3_nearest_76 (by decide +kernel) rfl ?_
            refine k_iadd (q := 79) C dX3_nearest_78 rfl ?_
            exact k_fin E dX3_nearest_79 (by first | rw [if_pos c_48] | rw [if_neg c_48]) (rfl)
          · intro c_48
            refine k_aload_n (q := 52) C 0 dX3_nearest_51 rfl rfl ?_
            refine k_get (q := 55) (ci := 3) (v := .ref (a 0)) C 0 0 in3_X3_nearest rfl (List.mem_of_getElem? (i := 5) rfl) rfl rfl (by decide) rfl dX3_nearest_52 rfl ?_
            refine k_iload_n (q := 56) C 1 dX3_nearest_55 rfl rfl ?_
            refine k_iload_n (q := 57) C 2 dX3_nearest_56 rfl rfl ?_
            refine k_callVI (n := 2) (q := 60) (pre := (wXo b cy (a 0) r nx sn ln sv kp ik bf ++ wRd r kd hg nu dg ng tk)) (post := R) (w2 := ((wXo b cy (a 0) r nx sn ln sv kp ik bf ++ wRd r kd hg nu dg ng tk) ++ (wSky a cy n lit h t s g kn lo lf nm ++ R))) (As := [.int (nI j), .int (nI p)]) (rest := []) C (c_X2_slopeFoundByTrying cy a n lit h t s g kn lo lf nm j p (by omega) (by omega)) gX3_nearest_X2_slopeFoundByTrying rfl rfl rfl (by decide +kernel) (k_room hR (by decide)) ⟨Nat.zero_le _, Nat.zero_le _⟩ (ci := 2) rfl 0 rfl rfl rfl (Nat.le_of_ble_eq_true rfl) (rfl) (rfl) dX3_nearest_57 rfl ?_
            refine k_goto (q := 72) C dX3_nearest_60 (by decide) ?_
            refine k_istore (q := 74) (fr2 := [(4, .int (iI (sTry g h s j p))), (0, .ref (b 0)), (1, .int (nI j)), (2, .int (nI p)), (3, .int z)]) C dX3_nearest_72 (by decide) rfl rfl ?_
            refine k_iload (q := 76) C 0 dX3_nearest_74 rfl rfl ?_
            refine k_bipush (q := 78) (v := 100) C dX3_nearest_76 (by decide +kernel) rfl ?_
            refine k_iadd (q := 79) C dX3_nearest_78 rfl ?_
            exact k_fin E dX3_nearest_79 (by first | rw [if_pos c_48] | rw [if_neg c_48]) (rfl)
        · exact fun c_34 => absurd (hz.resolve_left c_29) c_34
    · exact fun c_15 => absurd ⟨nI_pos' (by omega), nI_lt hp (by omega)⟩ c_15
abbrev rm_X3_ifScanned : Room := { frames := 5, cells := 0, slots := 0, locals := 124 }
theorem in2_X3_ifScanned : ∀ w ∈ wsX20, w ∈ wsX3_ifScanned := fun _ h => (List.mem_cons_of_mem _ (List.mem_append_left _ (List.mem_append_left _ (List.mem_append_right _ h))))
theorem in3_X3_ifScanned : ∀ w ∈ wsX30, w ∈ wsX3_ifScanned := fun _ h => (List.mem_cons_of_mem _ (List.mem_append_left _ (List.mem_append_left _ (List.mem_append_left _ (List.mem_append_right _ h)))))
set_option maxHeartbeats 4000000 in
set_option maxRecDepth 100000 in
theorem c_X3_ifScanned (cy : Nat → ClassId) (a : Nat → Nat) (b : Nat → Nat) (r : Nat) (nx : Nat) (sn : Nat) (ln : Nat) (sv : Nat → Option Nat) (kp : Nat → Option Nat) (ik : Nat → Int32) (bf : Nat → Nat) (kd : Nat) (hg : Nat) (nu : Nat) (dg : Nat) (ng : Bool) (tk : Bool) (n : Nat) (lit : Int32) (h : Nat → Int32) (t : Nat → Int32) (s : Nat → Int32) (g : Nat → Int32) (kn : Nat) (lo : Int32) (lf : Int32) (nm : Nat → Int32) (R : va_W) (j : Nat) (w : Nat)  (hn : n ≤ 6) (hj : j < 2) (hw : w ≤ 3) : kI yX3_ifScanned wsX3_ifScanned rm_X3_ifScanned cy [.ref (b 0), .int (nI j), .int (nI w)] ((wXo b cy (a 0) r nx sn ln sv kp ik bf ++ wRd r kd hg nu dg ng tk) ++ (wSky a cy n lit h t s g kn lo lf nm ++ R)) (if w < 2 then nI (sCnt (fun k => sWith lit h t s g n j (decide (w = 1)) (-30 + (k : Int))) 61) else sOut lit h t s g n j (decide (w = 3))) ((wXo b cy (a 0) r nx sn ln sv kp ik bf ++ wRd r kd hg nu dg ng tk) ++ (wSky a cy n lit h t s g kn lo lf nm ++ R)) := by
  refine kI_of (cc := cX3_ifScanned) (maxL := 3) (rt := .int) (by decide) rfl (rfl) (Nat.le_of_ble_eq_true rfl) ?_
  intro X hR C E
  have C : kC X 3 RX3 cX3_ifScanned wsX3_ifScanned cy := C
  refine k_fr (fr2 := [(0, .ref (b 0)), (1, .int (nI j)), (2, .int (nI w))]) ⟨[0, 1, 2], rfl⟩ ?_
  refine k_iload_n (q := 1) C 1 dX3_ifScanned_0 rfl rfl ?_
  refine k_callSI (n := 1) (q := 4) (pre := ([] : va_W)) (post := ((wXo b cy (a 0) r nx sn ln sv kp ik bf ++ wRd r kd hg nu dg ng tk) ++ (wSky a cy n lit h t s g kn lo lf nm ++ R))) (w2 := ((wXo b cy (a 0) r nx sn ln sv kp ik bf ++ wRd r kd hg nu dg ng tk) ++ (wSky a cy n lit h t s g kn lo lf nm ++ R))) (As := [.int (nI j)]) (rest := []) C (c_X3_isLight (nI j)) gX3_ifScanned_X3_isLight rfl rfl rfl (by decide +kernel) (k_room hR (by decide)) ⟨Nat.zero_le _, Nat.zero_le _⟩  rfl rfl (Nat.le_of_ble_eq_true rfl) (rfl) (rfl) dX3_ifScanned_1 rfl ?_
  refine k_ifB_ne (tgt := 17) (q := 7) C dX3_ifScanned_4 (by decide) rfl ?_ ?_
  · intro c_4
    refine k_iload_n (q := 18) C 2 dX3_ifScanned_17 rfl rfl ?_
    refine k_if_lt (tgt := 26) (q := 21) C dX3_ifScanned_18 (by decide) rfl ?_ ?_
    · exact fun c_18 => absurd c_18 (nI_pos (by omega))
    · intro c_18
      refine k_iload_n (q := 22) C 2 dX3_ifScanned_21 rfl rfl ?_
      refine k_iconst (q := 23) (v := 3) C dX3_ifScanned_22 (by decide) rfl ?_
      refine k_nicmp_le (a := w) (b := 3)  (tgt := 36) (q := 26) C dX3_ifScanned_23 (by decide) rfl (by omega) (by decide) ?_ ?_
      · intro c_23
        refine k_iload_n (q := 37) C 2 dX3_ifScanned_36 rfl rfl ?_
        refine k_iconst (q := 38) (v := 2) C dX3_ifScanned_37 (by decide) rfl ?_
        refine k_nicmp_ge (a := w) (b := 2)  (tgt := 62) (q := 41) C dX3_ifScanned_38 (by decide) rfl (by omega) (by decide) ?_ ?_
        · intro c_38
          refine k_aload_n (q := 63) C 0 dX3_ifScanned_62 rfl rfl ?_
          refine k_get (q := 66) (ci := 3) (v := .ref (a 0)) C 0 0 in3_X3_ifScanned rfl (List.mem_of_getElem? (i := 5) rfl) rfl rfl (by decide) rfl dX3_ifScanned_63 rfl ?_
          refine k_iload_n (q := 67) C 1 dX3_ifScanned_66 rfl rfl ?_
          refine k_iload_n (q := 68) C 2 dX3_ifScanned_67 rfl rfl ?_
          refine k_iconst (q := 69) (v := 3) C dX3_ifScanned_68 (by decide) rfl ?_
          refine k_nicmp_ne (a := w) (b := 3)  (tgt := 76) (q := 72) C dX3_ifScanned_69 (by decide) rfl (by omega) (by decide) ?_ ?_
          · intro c_69
            refine k_iconst (q := 77) (v := 0) C dX3_ifScanned_76 (by decide) rfl ?_
            refine k_callVI (n := 2) (q := 80) (pre := (wXo b cy (a 0) r nx sn ln sv kp ik bf ++ wRd r kd hg nu dg ng tk)) (post := R) (w2 := ((wXo b cy (a 0) r nx sn ln sv kp ik bf ++ wRd r kd hg nu dg ng tk) ++ (wSky a cy n lit h t s g kn lo lf nm ++ R))) (As := [.int (nI j), .int 0]) (rest := []) C (c_X2_outermostSlopeWithReading cy a n lit h t s g kn lo lf nm j false hn hj) gX3_ifScanned_X2_outermostSlopeWithReading rfl rfl rfl (by decide +kernel) (k_room hR (by decide)) ⟨Nat.zero_le _, Nat.zero_le _⟩ (ci := 2) rfl 0 rfl rfl rfl (Nat.le_of_ble_eq_true rfl) (rfl) (rfl) dX3_ifScanned_77 rfl ?_
            exact k_fin E dX3_ifScanned_80 (by first | (rw [if_pos (by omega), decide_eq_true c_48]; done) | (rw [if_pos (by omega), decide_eq_false c_48]; done) | (rw [if_neg (by omega), decide_eq_true c_69]; done) | (rw [if_neg (by omega), decide_eq_false c_69]; done)) (rfl)
          · intro c_69
            refine k_iconst (q := 73) (v := 1) C dX3_ifScanned_72 (by decide) rfl ?_
            refine k_goto (q := 77) C dX3_ifScanned_73 (by decide) ?_
            refine k_callVI (n := 2) (q := 80) (pre := (wXo b cy (a 0) r nx sn ln sv kp ik bf ++ wRd r kd hg nu dg ng tk)) (post := R) (w2 := ((wXo b cy (a 0) r nx sn ln sv kp ik bf ++ wRd r kd hg nu dg ng tk) ++ (wSky a cy n lit h t s g kn lo lf nm ++ R))) (As := [.int (nI j), .int 1]) (rest := []) C (c_X2_outermostSlopeWithReading cy a n lit h t s g kn lo lf nm j true hn hj) gX3_ifScanned_X2_outermostSlopeWithReading rfl rfl rfl (by decide +kernel) (k_room hR (by decide)) ⟨Nat.zero_le _, Nat.zero_le _⟩ (ci := 2) rfl 0 rfl rfl rfl (Nat.le_of_ble_eq_true rfl) (rfl) (rfl) dX3_ifScanned_77 rfl ?_
            exact k_fin E dX3_ifScanned_80 (by first | (rw [if_pos (by omega), decide_eq_true c_48]; done) | (rw [if_pos (by omega), decide_eq_false c_48]; done) | (rw [if_neg (by omega), decide_eq_true c_69]; done) | (rw [if_neg (by omega), decide_eq_false c_69]; done)) (rfl)
        · intro c_38
          refine k_aload_n (q := 42) C 0 dX3_ifScanned_41 rfl rfl ?_
          refine k_get (q := 45) (ci := 3) (v := .ref (a 0)) C 0 0 in3_X3_ifScanned rfl (List.mem_of_getElem? (i := 5) rfl) rfl rfl (by decide) rfl dX3_ifScanned_42 rfl ?_
          refine k_iload_n (q := 46) C 1 dX3_ifScanned_45 rfl rfl ?_
          refine k_iload_n (q := 47) C 2 dX3_ifScanned_46 rfl rfl ?_
          refine k_iconst (q := 48) (v := 1) C dX3_ifScanned_47 (by decide) rfl ?_
          refine k_nicmp_ne (a := w) (b := 1)  (tgt := 55) (q := 51) C dX3_ifScanned_48 (by decide) rfl (by omega) (by decide) ?_ ?_
          · intro c_48
            refine k_iconst (q := 56) (v := 0) C dX3_ifScanned_55 (by decide) rfl ?_
            refine k_callVI (n := 2) (q := 59) (pre := (wXo b cy (a 0) r nx sn ln sv kp ik bf ++ wRd r kd hg nu dg ng tk)) (post := R) (w2 := ((wXo b cy (a 0) r nx sn ln sv kp ik bf ++ wRd r kd hg nu dg ng tk) ++ (wSky a cy n lit h t s g kn lo lf nm ++ R))) (As := [.int (nI j), .int 0]) (rest := []) C (c_X2_slopesWithReading cy a n lit h t s g kn lo lf nm j false hn hj) gX3_ifScanned_X2_slopesWithReading rfl rfl rfl (by decide +kernel) (k_room hR (by decide)) ⟨Nat.zero_le _, Nat.zero_le _⟩ (ci := 2) rfl 0 rfl rfl rfl (Nat.le_of_ble_eq_true rfl) (rfl) (rfl) dX3_ifScanned_56 rfl ?_
            refine k_goto (q := 80) C dX3_ifScanned_59 (by decide) ?_
            exact k_fin E dX3_ifScanned_80 (by first | (rw [if_pos (by omega), decide_eq_true c_48]; done) | (rw [if_pos (by omega), decide_eq_false c_48]; done) | (rw [if_neg (by omega), decide_eq_true c_69]; done) | (rw [if_neg (by omega), decide_eq_false c_69]; done)) (rfl)
          · intro c_48
            refine k_iconst (q := 52) (v := 1) C dX3_ifScanned_51 (by decide) rfl ?_
            refine k_goto (q := 56) C dX3_ifScanned_52 (by decide) ?_
            refine k_callVI (n := 2) (q := 59) (pre := (wXo b cy (a 0) r nx sn ln sv kp ik bf ++ wRd r kd hg nu dg ng tk)) (post := R) (w2 := ((wXo b cy (a 0) r nx sn ln sv kp ik bf ++ wRd r kd hg nu dg ng tk) ++ (wSky a cy n lit h t s g kn lo lf nm ++ R))) (As := [.int (nI j), .int 1]) (rest := []) C (c_X2_slopesWithReading cy a n lit h t s g kn lo lf nm j true hn hj) gX3_ifScanned_X2_slopesWithReading rfl rfl rfl (by decide +kernel) (k_room hR (by decide)) ⟨Nat.zero_le _, Nat.zero_le _⟩ (ci := 2) rfl 0 rfl rfl rfl (Nat.le_of_ble_eq_true rfl) (rfl) (rfl) dX3_ifScanned_56 rfl ?_
            refine k_goto (q := 80) C dX3_ifScanned_59 (by decide) ?_
            exact k_fin E dX3_ifScanned_80 (by first | (rw [if_pos (by omega), decide_eq_true c_48]; done) | (rw [if_pos (by omega), decide_eq_false c_48]; done) | (rw [if_neg (by omega), decide_eq_true c_69]; done) | (rw [if_neg (by omega), decide_eq_false c_69]; done)) (rfl)
      · exact fun c_23 => absurd hw (by omega)
  · exact fun c_4 => absurd (mSlot hj) c_4
abbrev rm_X3_meanError : Room := { frames := 2, cells := 0, slots := 0, locals := 46 }
theorem in0_X3_meanError : ∀ w ∈ wsX00, w ∈ wsX3_meanError := fun _ h => (List.mem_cons_of_mem _ (List.mem_append_right _ h))
theorem in2_X3_meanError : ∀ w ∈ wsX20, w ∈ wsX3_meanError := fun _ h => (List.mem_cons_of_mem _ (List.mem_append_left _ (List.mem_append_right _ h)))
theorem in3_X3_meanError : ∀ w ∈ wsX30, w ∈ wsX3_meanError := fun _ h => (List.mem_cons_of_mem _ (List.mem_append_left _ (List.mem_append_left _ (List.mem_append_right _ h))))
set_option maxHeartbeats 4000000 in
set_option maxRecDepth 100000 in
theorem c_X3_meanError (cy : Nat → ClassId) (a : Nat → Nat) (b : Nat → Nat) (r : Nat) (nx : Nat) (sn : Nat) (ln : Nat) (sv : Nat → Option Nat) (kp : Nat → Option Nat) (ik : Nat → Int32) (bf : Nat → Nat) (kd : Nat) (hg : Nat) (nu : Nat) (dg : Nat) (ng : Bool) (tk : Bool) (n : Nat) (lit : Int32) (h : Nat → Int32) (t : Nat → Int32) (s : Nat → Int32) (g : Nat → Int32) (kn : Nat) (lo : Int32) (lf : Int32) (nm : Nat → Int32) (R : va_W)  (hkn : kn ≤ 8) : kF yX3_meanError wsX3_meanError rm_X3_meanError cy [.ref (b 0)] ((wXo b cy (a 0) r nx sn ln sv kp ik bf ++ wRd r kd hg nu dg ng tk) ++ (wSky a cy n lit h t s g kn lo lf nm ++ R)) (fMean (sEm nm kn) (sEs nm kn)) ((wXo b cy (a 0) r nx sn ln sv kp ik bf ++ wRd r kd hg nu dg ng tk) ++ (wSky a cy n lit h t s g kn lo lf nm ++ R)) := by
  refine kF_of (cc := cX3_meanError) (maxL := 1) (by decide) rfl (Nat.le_of_ble_eq_true rfl) ?_
  intro X hR C E
  have C : kC X 1 RX3 cX3_meanError wsX3_meanError cy := C
  refine k_fr (fr2 := [(0, .ref (b 0))]) ⟨[0], rfl⟩ ?_
  refine k_aload_n (q := 1) C 0 dX3_meanError_0 rfl rfl ?_
  refine k_get (q := 4) (ci := 3) (v := .ref (a 0)) C 0 0 in3_X3_meanError rfl (List.mem_of_getElem? (i := 1) rfl) rfl rfl (by decide) rfl dX3_meanError_1 rfl ?_
  refine k_get (q := 7) (ci := 2) (v := .ref (a 5)) C 6 6 in2_X3_meanError rfl (List.mem_of_getElem? (i := 2) rfl) rfl rfl (by decide) rfl dX3_meanError_4 rfl ?_
  exact k_callVFR (n := 0) (pre := ((wXo b cy (a 0) r nx sn ln sv kp ik bf ++ wRd r kd hg nu dg ng tk) ++ wSky5 a cy n lit h t s g)) (post := R) (As := []) E C (c_X0_meanSizeOfErrors cy a kn lo lf nm hkn) gX3_meanError_X0_meanSizeOfErrors rfl rfl rfl (by decide +kernel) (k_room hR (by decide)) ⟨Nat.zero_le _, Nat.zero_le _⟩ (ci := 0) rfl 0 rfl rfl rfl (rfl) (rfl) dX3_meanError_7 dX3_meanError_10 (fun _ h => h)
