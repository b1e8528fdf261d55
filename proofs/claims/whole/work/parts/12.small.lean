def pAt (xs ys : Nat → Int32) (n i : Nat) : Bool := anyB (fun p => decide (xs p * 8 + ys p = nI i)) n
theorem pPlace_nI (pk : Nat → Int32) {X Y : Nat} (hX : X < 8) (hY : Y < 8) : pPlace pk (nI X) (nI Y) = decide (pk (X * 8 + Y) = 0) := by
  have a1 : ¬ nI X < 0 := nI_pos (by omega)
  have a2 : ¬ (8 : Int32) ≤ nI X := fun h => absurd ((c_le (a := 8) rfl rfl (by omega) (by omega)).mp h) (by omega)
  have a3 : ¬ nI Y < 0 := nI_pos (by omega)
  have a4 : ¬ (8 : Int32) ≤ nI Y := fun h => absurd ((c_le (a := 8) rfl rfl (by omega) (by omega)).mp h) (by omega)
  rw [pPlace, mul8, nI_clamp (by omega)]
  simp [a1, a2, a3, a4]
theorem pPlace_of {pk : Nat → Int32} {x y : Int32} (h : pPlace pk x y = true) : ∃ X Y : Nat, X < 8 ∧ Y < 8 ∧ x = nI X ∧ y = nI Y ∧ pk (X * 8 + Y) = 0 := by
  simp only [pPlace, Bool.and_eq_true, Bool.not_eq_true', decide_eq_false_iff_not, decide_eq_true_eq] at h
  obtain ⟨h1, h2, h3, h4, h5⟩ := h
  obtain ⟨X, hX, rfl⟩ := ix8 h1 h2
  obtain ⟨Y, hY, rfl⟩ := ix8 h3 h4
  rw [mul8, nI_clamp (by omega)] at h5
  exact ⟨X, Y, hX, hY, rfl, rfl, h5⟩
theorem pHas_nI {n p : Nat} (hn : n < 2147483648) (hp : p < 2147483648) : pHas (nI n) (nI p) = decide (p < n) := by
  have a1 : ¬ nI p < 0 := nI_pos (by omega)
  rw [pHas]
  by_cases h : p < n
  · have a2 : ¬ nI n ≤ nI p := fun q => absurd ((c_le rfl rfl hn hp).mp q) (by omega)
    simp [a1, a2, h]
  · have a2 : nI n ≤ nI p := (c_le rfl rfl hn hp).mpr (by omega)
    simp [a1, a2, h]
theorem pHas_of {n : Nat} {x : Int32} (hn : n < 2147483648) (h : pHas (nI n) x = true) : ∃ p : Nat, p < n ∧ x = nI p := by
  simp only [pHas, Bool.and_eq_true, Bool.not_eq_true', decide_eq_false_iff_not] at h
  obtain ⟨p, hp, rfl⟩ := nI_of h.1
  exact ⟨p, by have := h.2; rw [c_le rfl rfl hn hp] at this; omega, rfl⟩
def shf (f : Nat → Int32) (k i : Nat) : Int32 := if i < k then f i else f (i + 1)
def pFig (x : Int32) : Bool := !decide (x < 48) && !decide (57 < x)
abbrev rX1_empty : Room := { frames := 0, cells := 0, slots := 0, locals := 0 }
set_option maxHeartbeats 4000000 in
set_option maxRecDepth 100000 in
theorem c_X1_empty (l : Launch) (G : kG) (h : Nat) (v : Nat → Int32) (q : Nat → Nat) (pk : Nat → Int32) : Cv l G yX1_empty wsX1_empty rX1_empty [.ref h] [oB h 1 (oF1 v q), aZ G (q 8) 64 pk] (fun (u : Nat → Int32) => ∀ i, i < 64 → u i = 0) (fun u => [oB h 1 (oF1 (upd (upd (upd v 3 0) 6 0) 7 1) q), aZ G (q 8) 64 u]) 0 0 := by
  refine Cv.of (cc := cX1_empty) (maxL := 2) (by decide) rfl (Nat.le_of_ble_eq_true rfl) ?_
  intro pM eM sM mM bM tM cM Q A hx hb hts hown hml hnm hA hK hP hD hS hret ls hl
  have hown : sM.vm.findClass RX1 = some mM.cls := hown
  have hl : lv_has ls 2 [(0, .ref h)] := hl
  have hin1 : ∀ w ∈ u_ws RX1 TX1 11, w ∈ wsX1_empty := by decide +kernel
  have f41 := hts (.fieldLink RX1 41 "HorizonPeaks$Land" "peaks" "I") (by decide +kernel)
  have f44 := hts (.fieldLink RX1 44 "HorizonPeaks$Land" "ridges" "I") (by decide +kernel)
  have f27 := hts (.fieldLink RX1 27 "HorizonPeaks$Land" "slack" "I") (by decide +kernel)
  have f31 := hts (.fieldLink RX1 31 "HorizonPeaks$Land" "peakAt" "[Z") (by decide +kernel)
  refine lv_aload_n hx hb dX1_empty_0 rfl (lv_at hl 0 rfl) ?_
  refine lv_iconst (v := 0) hx hb dX1_empty_1 (by decide) ?_
  refine va_put (D := G.1) (ci := 1) (v := .int 0) (ty := .int) (C := RX1) (T := TX1) (N := 11) hx hb hts hin1 tyX1 tyX1_ok nmX1 hown hK.1 hP hD hS 0 rfl rfl 3 (by decide) f41 (fun _ h9 => h9) rfl (by decide +kernel) rfl rfl (Nat.le_of_ble_eq_true rfl) dX1_empty_2 (fun H locs hP hD hS => ?_)
  have hP : va_P G.1 vwCl [oB h 1 (oF1 (upd v 3 0) q), aZ G (q 8) 64 pk] H := hP
  have hD : va_D A [oB h 1 (oF1 (upd v 3 0) q), aZ G (q 8) 64 pk] := hD
  refine lv_aload_n hx hb dX1_empty_5 rfl (lv_at hl 0 rfl) ?_
  refine lv_iconst (v := 0) hx hb dX1_empty_6 (by decide) ?_
  refine va_put (D := G.1) (ci := 1) (v := .int 0) (ty := .int) (C := RX1) (T := TX1) (N := 11) hx hb hts hin1 tyX1 tyX1_ok nmX1 hown hK.1 hP hD hS 0 rfl rfl 6 (by decide) f44 (fun _ h9 => h9) rfl (by decide +kernel) rfl rfl (Nat.le_of_ble_eq_true rfl) dX1_empty_7 (fun H locs hP hD hS => ?_)
  have hP : va_P G.1 vwCl [oB h 1 (oF1 (upd (upd v 3 0) 6 0) q), aZ G (q 8) 64 pk] H := hP
  have hD : va_D A [oB h 1 (oF1 (upd (upd v 3 0) 6 0) q), aZ G (q 8) 64 pk] := hD
  refine lv_aload_n hx hb dX1_empty_10 rfl (lv_at hl 0 rfl) ?_
  refine lv_iconst (v := 1) hx hb dX1_empty_11 (by decide) ?_
  refine va_put (D := G.1) (ci := 1) (v := .int 1) (ty := .int) (C := RX1) (T := TX1) (N := 11) hx hb hts hin1 tyX1 tyX1_ok nmX1 hown hK.1 hP hD hS 0 rfl rfl 7 (by decide) f27 (fun _ h9 => h9) rfl (by decide +kernel) rfl rfl (Nat.le_of_ble_eq_true rfl) dX1_empty_12 (fun H locs hP hD hS => ?_)
  have hP : va_P G.1 vwCl [oB h 1 (oF1 (upd (upd (upd v 3 0) 6 0) 7 1) q), aZ G (q 8) 64 pk] H := hP
  have hD : va_D A [oB h 1 (oF1 (upd (upd (upd v 3 0) 6 0) 7 1) q), aZ G (q 8) 64 pk] := hD
  refine lv_iconst (v := 0) hx hb dX1_empty_15 (by decide) ?_
  refine lv_istore_n (lv' := [(1, .int 0), (0, .ref h)]) hx hb dX1_empty_16 rfl hl (by decide) rfl (fun ls hl => ?_)
  have loop_17 : ∀ (nF : Nat) (k : Nat) (f : Nat → Int32), (64 - k) < nF → (k ≤ 64) → (∀ i, i < k → f i = 0) → ∀ (H : Heap) (locs : List Loc), va_P G.1 vwCl [oB h 1 (oF1 (upd (upd (upd v 3 0) 6 0) 7 1) q), aZ G (q 8) 64 f] H → va_D A [oB h 1 (oF1 (upd (upd (upd v 3 0) 6 0) 7 1) q), aZ G (q 8) 64 f] → va_S A sM.heap H locs → ∀ (ls : Array Slot), lv_has ls 2 [(1, .int (nI k)), (0, .ref h)] → W pM l eM rX1_empty sM mM [.ref h].toArray bM tM cM H locs 0 0 Q (F0 mM 17 ls []) := by
    intro nF
    induction nF with
    | zero => intro k f hmF; exact absurd hmF (Nat.not_lt_zero _)
    | succ nF ih17 =>
      intro k f hmF hk hi H locs hP hD hS ls hl
      refine lv_iload_n hx hb dX1_empty_17 rfl (lv_at hl 0 rfl) ?_
      refine lv_bipush (v := 64) hx hb dX1_empty_18 (by decide) ?_
      refine lv_icmp_ge (tgt := 36) hx hb dX1_empty_20 (by decide) (fun c_20 => ?_) (fun c_20 => ?_)
      · have c_20 : 64 ≤ k := (c_le (a := 64) (b := k) rfl rfl (by omega) (by omega)).mp c_20
        exact hret f _ _ _ _ (fun i h => hi i (by omega)) hP hD hS dX1_empty_36
      · have c_20 : ¬ 64 ≤ k := fun hne => c_20 ((c_le (a := 64) (b := k) rfl rfl (by omega) (by omega)).mpr hne)
        refine lv_aload_n hx hb dX1_empty_23 rfl (lv_at hl 1 rfl) ?_
        refine va_get (D := G.1) (ci := 1) (v := .ref (q 8)) (C := RX1) (T := TX1) (N := 11) hx hb hts hin1 hown hK.1 hP 0 rfl rfl 8 (by decide) f31 (fun _ h9 => h9) rfl dX1_empty_24 ?_
        refine lv_iload_n hx hb dX1_empty_27 rfl (lv_at hl 0 rfl) ?_
        refine lv_iconst (v := 0) hx hb dX1_empty_28 (by decide) ?_
        refine as_z hx hb hK.1 hP hD hS 1 2 rfl rfl (j := k) (rfl) (by omega) (Nat.le_of_ble_eq_true rfl) dX1_empty_29 (fun H locs hP hD hS => ?_)
        have hP : va_P G.1 vwCl [oB h 1 (oF1 (upd (upd (upd v 3 0) 6 0) 7 1) q), aZ G (q 8) 64 (upd f k 0)] H := hP
        have hD : va_D A [oB h 1 (oF1 (upd (upd (upd v 3 0) 6 0) 7 1) q), aZ G (q 8) 64 (upd f k 0)] := hD
        refine lv_iinc (v := nI (k + 1)) (lv' := [(1, .int (nI (k + 1))), (0, .ref h)]) hx hb dX1_empty_30 hl (k := 0) rfl (inc_nI _ 1) (by decide) rfl (fun ls hl => ?_)
        refine lv_goto (tgt := 17) hx hb dX1_empty_33 (by decide) ?_
        exact ih17 (k + 1) (upd f k 0) (by omega) (by omega) (fun i h => if e : i = k then by rw [e, pk_us] else by rw [pk_un e]; exact hi i (by omega)) _ _ hP hD hS _ (lv_sub hl [0, 1] rfl)
  exact loop_17 _ 0 pk (Nat.lt_succ_self _) (Nat.zero_le _) (fun j h => absurd h (Nat.not_lt_zero j)) _ _ hP hD hS _ (lv_sub hl [0, 1] rfl)

abbrev rX1_addPeak : Room := { frames := 2, cells := 0, slots := 0, locals := 43 }
set_option maxHeartbeats 4000000 in
set_option maxRecDepth 100000 in
theorem c_X1_addPeak (l : Launch) (G : kG) (h : Nat) (v : Nat → Int32) (q : Nat → Nat) (xs : Nat → Int32) (ys : Nat → Int32) (hs : Nat → Int32) (pk : Nat → Int32) (n : Nat) (X : Nat) (Y : Nat) (z : Int32) (hv : v 3 = nI n) (hn : n < 10) (hX : X < 8) (hY : Y < 8) (hp : pk (X * 8 + Y) = 0) : Cv l G yX1_addPeak wsX1_addPeak rX1_addPeak [.ref h, .int (nI X), .int (nI Y), .int z] [oB h 1 (oF1 v q), aI G (q 0) 10 xs, aI G (q 1) 10 ys, aI G (q 2) 10 hs, aZ G (q 8) 64 pk] (fun (u : Unit) => True) (fun u => [oB h 1 (oF1 (upd v 3 (nI (n + 1))) q), aI G (q 0) 10 (upd xs n (nI X)), aI G (q 1) 10 (upd ys n (nI Y)), aI G (q 2) 10 (upd hs n z), aZ G (q 8) 64 (upd pk (X * 8 + Y) 1)]) 0 0 := by
  refine Cv.of (cc := cX1_addPeak) (maxL := 4) (by decide) rfl (Nat.le_of_ble_eq_true rfl) ?_
  intro pM eM sM mM bM tM cM Q A hx hb hts hown hml hnm hA hK hP hD hS hret ls hl
  have hown : sM.vm.findClass RX1 = some mM.cls := hown
  have hl : lv_has ls 4 [(0, .ref h), (1, .int (nI X)), (2, .int (nI Y)), (3, .int z)] := hl
  have hin1 : ∀ w ∈ u_ws RX1 TX1 11, w ∈ wsX1_addPeak := by decide +kernel
  have f41 := hts (.fieldLink RX1 41 "HorizonPeaks$Land" "peaks" "I") (by decide +kernel)
  have f9 := hts (.fieldLink RX1 9 "HorizonPeaks$Land" "xs" "[I") (by decide +kernel)
  have f15 := hts (.fieldLink RX1 15 "HorizonPeaks$Land" "ys" "[I") (by decide +kernel)
  have f18 := hts (.fieldLink RX1 18 "HorizonPeaks$Land" "highs" "[I") (by decide +kernel)
  have f31 := hts (.fieldLink RX1 31 "HorizonPeaks$Land" "peakAt" "[Z") (by decide +kernel)
  refine lv_aload_n hx hb dX1_addPeak_0 rfl (lv_at hl 0 rfl) ?_
  refine va_get (D := G.1) (ci := 1) (v := .int (v 3)) (C := RX1) (T := TX1) (N := 11) hx hb hts hin1 hown hK.1 hP 0 rfl rfl 3 (by decide) f41 (fun _ h9 => h9) rfl dX1_addPeak_1 ?_
  refine top_i (y := nI n) (hv) ?_
  refine lv_bipush (v := 10) hx hb dX1_addPeak_4 (by decide) ?_
  refine lv_icmp_ge (tgt := 69) hx hb dX1_addPeak_6 (by decide) (fun c_6 => ?_) (fun c_6 => ?_)
  · have c_6 : 10 ≤ n := (c_le (a := 10) (b := n) rfl rfl (by omega) (by omega)).mp c_6
    exfalso
    omega
  · have c_6 : ¬ 10 ≤ n := fun hne => c_6 ((c_le (a := 10) (b := n) rfl rfl (by omega) (by omega)).mpr hne)
    refine lv_aload_n hx hb dX1_addPeak_9 rfl (lv_at hl 0 rfl) ?_
    refine lv_iload_n hx hb dX1_addPeak_10 rfl (lv_at hl 1 rfl) ?_
    refine lv_iload_n hx hb dX1_addPeak_11 rfl (lv_at hl 2 rfl) ?_
    refine rd_i (va_runV (As := [.int (nI X), .int (nI Y)]) (rest := []) ⟨hx, hb, hml, hown, hts⟩ (c_X1_isPlace l G h v q pk (nI X) (nI Y)) (cwV 2 hts gX1_addPeak_X1_isPlace rfl rfl rfl (by decide +kernel) ⟨Nat.le_of_ble_eq_true rfl, Nat.le_of_ble_eq_true rfl⟩) (rPre_V hK hP [0, 4] rfl 0 1 rfl rfl) rfl rfl hl.1 rfl (lv_room (Nat.le_of_ble_eq_true rfl)) dX1_addPeak_12 ⟨Nat.zero_le _, Nat.zero_le _⟩) (fun r_12 q_12 => ?_)
    obtain rfl : r_12 = b2i (pPlace pk (nI X) (nI Y)) := q_12
    refine lv_if_eq (tgt := 69) hx hb dX1_addPeak_15 (by decide) (fun c_15 => ?_) (fun c_15 => ?_)
    · exact absurd (b2i_0.mp c_15) (by rw [pPlace_nI pk hX hY, hp]; decide)
    · have c_15 : (pPlace pk (nI X) (nI Y)) = true := b2i_n0.mp c_15
      refine lv_aload_n hx hb dX1_addPeak_18 rfl (lv_at hl 0 rfl) ?_
      refine va_get (D := G.1) (ci := 1) (v := .ref (q 0)) (C := RX1) (T := TX1) (N := 11) hx hb hts hin1 hown hK.1 hP 0 rfl rfl 0 (by decide) f9 (fun _ h9 => h9) rfl dX1_addPeak_19 ?_
      refine lv_aload_n hx hb dX1_addPeak_22 rfl (lv_at hl 0 rfl) ?_
      refine va_get (D := G.1) (ci := 1) (v := .int (v 3)) (C := RX1) (T := TX1) (N := 11) hx hb hts hin1 hown hK.1 hP 0 rfl rfl 3 (by decide) f41 (fun _ h9 => h9) rfl dX1_addPeak_23 ?_
      refine top_i (y := nI n) (hv) ?_
      refine lv_iload_n hx hb dX1_addPeak_26 rfl (lv_at hl 1 rfl) ?_
      refine as_i hx hb hK.1 hP hD hS 1 0 rfl rfl (j := n) (by omega) (Nat.le_of_ble_eq_true rfl) dX1_addPeak_27 (fun H locs hP hD hS => ?_)
      have hP : va_P G.1 vwCl [oB h 1 (oF1 v q), aI G (q 0) 10 (upd xs n (nI X)), aI G (q 1) 10 ys, aI G (q 2) 10 hs, aZ G (q 8) 64 pk] H := hP
      have hD : va_D A [oB h 1 (oF1 v q), aI G (q 0) 10 (upd xs n (nI X)), aI G (q 1) 10 ys, aI G (q 2) 10 hs, aZ G (q 8) 64 pk] := hD
      refine lv_aload_n hx hb dX1_addPeak_28 rfl (lv_at hl 0 rfl) ?_
      refine va_get (D := G.1) (ci := 1) (v := .ref (q 1)) (C := RX1) (T := TX1) (N := 11) hx hb hts hin1 hown hK.1 hP 0 rfl rfl 1 (by decide) f15 (fun _ h9 => h9) rfl dX1_addPeak_29 ?_
      refine lv_aload_n hx hb dX1_addPeak_32 rfl (lv_at hl 0 rfl) ?_
      refine va_get (D := G.1) (ci := 1) (v := .int (v 3)) (C := RX1) (T := TX1) (N := 11) hx hb hts hin1 hown hK.1 hP 0 rfl rfl 3 (by decide) f41 (fun _ h9 => h9) rfl dX1_addPeak_33 ?_
      refine top_i (y := nI n) (hv) ?_
      refine lv_iload_n hx hb dX1_addPeak_36 rfl (lv_at hl 2 rfl) ?_
      refine as_i hx hb hK.1 hP hD hS 2 0 rfl rfl (j := n) (by omega) (Nat.le_of_ble_eq_true rfl) dX1_addPeak_37 (fun H locs hP hD hS => ?_)
      have hP : va_P G.1 vwCl [oB h 1 (oF1 v q), aI G (q 0) 10 (upd xs n (nI X)), aI G (q 1) 10 (upd ys n (nI Y)), aI G (q 2) 10 hs, aZ G (q 8) 64 pk] H := hP
      have hD : va_D A [oB h 1 (oF1 v q), aI G (q 0) 10 (upd xs n (nI X)), aI G (q 1) 10 (upd ys n (nI Y)), aI G (q 2) 10 hs, aZ G (q 8) 64 pk] := hD
      refine lv_aload_n hx hb dX1_addPeak_38 rfl (lv_at hl 0 rfl) ?_
      refine va_get (D := G.1) (ci := 1) (v := .ref (q 2)) (C := RX1) (T := TX1) (N := 11) hx hb hts hin1 hown hK.1 hP 0 rfl rfl 2 (by decide) f18 (fun _ h9 => h9) rfl dX1_addPeak_39 ?_
      refine lv_aload_n hx hb dX1_addPeak_42 rfl (lv_at hl 0 rfl) ?_
      refine va_get (D := G.1) (ci := 1) (v := .int (v 3)) (C := RX1) (T := TX1) (N := 11) hx hb hts hin1 hown hK.1 hP 0 rfl rfl 3 (by decide) f41 (fun _ h9 => h9) rfl dX1_addPeak_43 ?_
      refine top_i (y := nI n) (hv) ?_
      refine lv_iload_n hx hb dX1_addPeak_46 rfl (lv_at hl 3 rfl) ?_
      refine as_i hx hb hK.1 hP hD hS 3 0 rfl rfl (j := n) (by omega) (Nat.le_of_ble_eq_true rfl) dX1_addPeak_47 (fun H locs hP hD hS => ?_)
      have hP : va_P G.1 vwCl [oB h 1 (oF1 v q), aI G (q 0) 10 (upd xs n (nI X)), aI G (q 1) 10 (upd ys n (nI Y)), aI G (q 2) 10 (upd hs n z), aZ G (q 8) 64 pk] H := hP
      have hD : va_D A [oB h 1 (oF1 v q), aI G (q 0) 10 (upd xs n (nI X)), aI G (q 1) 10 (upd ys n (nI Y)), aI G (q 2) 10 (upd hs n z), aZ G (q 8) 64 pk] := hD
      refine lv_aload_n hx hb dX1_addPeak_48 rfl (lv_at hl 0 rfl) ?_
      refine va_get (D := G.1) (ci := 1) (v := .ref (q 8)) (C := RX1) (T := TX1) (N := 11) hx hb hts hin1 hown hK.1 hP 0 rfl rfl 8 (by decide) f31 (fun _ h9 => h9) rfl dX1_addPeak_49 ?_
      refine lv_iload_n hx hb dX1_addPeak_52 rfl (lv_at hl 1 rfl) ?_
      refine lv_iload_n hx hb dX1_addPeak_53 rfl (lv_at hl 2 rfl) ?_
      refine rd_i (va_runSN (As := [.int (nI X), .int (nI Y)]) (rest := [.ref (q 8)]) ⟨hx, hb, hml, hown, hts⟩ (c_X7_pointOf l G (nI X) (nI Y)) ⟨va_cnB 2 hts gX1_addPeak_X7_pointOf_n51 rfl rfl rfl hK.2.2.2.2.2.2.2.2 (hts (.initialized RX7) (by decide +kernel)) (by decide +kernel) ⟨Nat.le_of_ble_eq_true rfl, Nat.le_of_ble_eq_true rfl⟩, hts (.static yX7_pointOf) (by decide +kernel), trivial⟩ (rPre_S hK hP [] rfl) rfl rfl hl.1 rfl (lv_room (Nat.le_of_ble_eq_true rfl)) dX1_addPeak_54 ⟨Nat.zero_le _, Nat.zero_le _⟩) (fun r_54 q_54 => ?_)
      obtain rfl : r_54 = (nI X) * 8 + (nI Y) := q_54
      refine top_i (y := nI (X * 8 + Y)) (mul8 X Y) ?_
      refine lv_iconst (v := 1) hx hb dX1_addPeak_57 (by decide) ?_
      refine as_z hx hb hK.1 hP hD hS 4 2 rfl rfl (j := X * 8 + Y) (rfl) (by omega) (Nat.le_of_ble_eq_true rfl) dX1_addPeak_58 (fun H locs hP hD hS => ?_)
      have hP : va_P G.1 vwCl [oB h 1 (oF1 v q), aI G (q 0) 10 (upd xs n (nI X)), aI G (q 1) 10 (upd ys n (nI Y)), aI G (q 2) 10 (upd hs n z), aZ G (q 8) 64 (upd pk (X * 8 + Y) 1)] H := hP
      have hD : va_D A [oB h 1 (oF1 v q), aI G (q 0) 10 (upd xs n (nI X)), aI G (q 1) 10 (upd ys n (nI Y)), aI G (q 2) 10 (upd hs n z), aZ G (q 8) 64 (upd pk (X * 8 + Y) 1)] := hD
      refine lv_aload_n hx hb dX1_addPeak_59 rfl (lv_at hl 0 rfl) ?_
      refine lv_dup hx hb dX1_addPeak_60 rfl ?_
      refine va_get (D := G.1) (ci := 1) (v := .int (v 3)) (C := RX1) (T := TX1) (N := 11) hx hb hts hin1 hown hK.1 hP 0 rfl rfl 3 (by decide) f41 (fun _ h9 => h9) rfl dX1_addPeak_61 ?_
      refine top_i (y := nI n) (hv) ?_
      refine lv_iconst (v := 1) hx hb dX1_addPeak_64 (by decide) ?_
      refine lv_iadd hx hb dX1_addPeak_65 ?_
      refine top_i (y := nI (n + 1)) (nI_1 n) ?_
      refine va_put (D := G.1) (ci := 1) (v := .int (nI (n + 1))) (ty := .int) (C := RX1) (T := TX1) (N := 11) hx hb hts hin1 tyX1 tyX1_ok nmX1 hown hK.1 hP hD hS 0 rfl rfl 3 (by decide) f41 (fun _ h9 => h9) rfl (by decide +kernel) rfl rfl (Nat.le_of_ble_eq_true rfl) dX1_addPeak_66 (fun H locs hP hD hS => ?_)
      have hP : va_P G.1 vwCl [oB h 1 (oF1 (upd v 3 (nI (n + 1))) q), aI G (q 0) 10 (upd xs n (nI X)), aI G (q 1) 10 (upd ys n (nI Y)), aI G (q 2) 10 (upd hs n z), aZ G (q 8) 64 (upd pk (X * 8 + Y) 1)] H := hP
      have hD : va_D A [oB h 1 (oF1 (upd v 3 (nI (n + 1))) q), aI G (q 0) 10 (upd xs n (nI X)), aI G (q 1) 10 (upd ys n (nI Y)), aI G (q 2) 10 (upd hs n z), aZ G (q 8) 64 (upd pk (X * 8 + Y) 1)] := hD
      exact hret () _ _ _ _ (trivial) hP hD hS dX1_addPeak_69

abbrev rX1_addRidge : Room := { frames := 1, cells := 0, slots := 0, locals := 21 }
set_option maxHeartbeats 4000000 in
set_option maxRecDepth 100000 in
theorem c_X1_addRidge (l : Launch) (G : kG) (h : Nat) (v : Nat → Int32) (q : Nat → Nat) (fs : Nat → Int32) (ss : Nat → Int32) (n : Nat) (mm : Nat) (a : Nat) (b : Nat) (hv : v 3 = nI n) (hn : n ≤ 10) (hw : v 6 = nI mm) (hm : mm < 8) (ha : a < n) (hbn : b < n) : Cv l G yX1_addRidge wsX1_addRidge rX1_addRidge [.ref h, .int (nI a), .int (nI b)] [oB h 1 (oF1 v q), aI G (q 4) 8 fs, aI G (q 5) 8 ss] (fun (u : Unit) => True) (fun u => [oB h 1 (oF1 (upd v 6 (nI (mm + 1))) q), aI G (q 4) 8 (upd fs mm (nI a)), aI G (q 5) 8 (upd ss mm (nI b))]) 0 0 := by
  refine Cv.of (cc := cX1_addRidge) (maxL := 3) (by decide) rfl (Nat.le_of_ble_eq_true rfl) ?_
  intro pM eM sM mM bM tM cM Q A hx hb hts hown hml hnm hA hK hP hD hS hret ls hl
  have hown : sM.vm.findClass RX1 = some mM.cls := hown
  have hl : lv_has ls 3 [(0, .ref h), (1, .int (nI a)), (2, .int (nI b))] := hl
  have hin1 : ∀ w ∈ u_ws RX1 TX1 11, w ∈ wsX1_addRidge := by decide +kernel
  have f44 := hts (.fieldLink RX1 44 "HorizonPeaks$Land" "ridges" "I") (by decide +kernel)
  have f21 := hts (.fieldLink RX1 21 "HorizonPeaks$Land" "firsts" "[I") (by decide +kernel)
  have f24 := hts (.fieldLink RX1 24 "HorizonPeaks$Land" "seconds" "[I") (by decide +kernel)
  refine lv_aload_n hx hb dX1_addRidge_0 rfl (lv_at hl 0 rfl) ?_
  refine va_get (D := G.1) (ci := 1) (v := .int (v 6)) (C := RX1) (T := TX1) (N := 11) hx hb hts hin1 hown hK.1 hP 0 rfl rfl 6 (by decide) f44 (fun _ h9 => h9) rfl dX1_addRidge_1 ?_
  refine top_i (y := nI mm) (hw) ?_
  refine lv_bipush (v := 8) hx hb dX1_addRidge_4 (by decide) ?_
  refine lv_icmp_ge (tgt := 55) hx hb dX1_addRidge_6 (by decide) (fun c_6 => ?_) (fun c_6 => ?_)
  · have c_6 : 8 ≤ mm := (c_le (a := 8) (b := mm) rfl rfl (by omega) (by omega)).mp c_6
    exfalso
    omega
  · have c_6 : ¬ 8 ≤ mm := fun hne => c_6 ((c_le (a := 8) (b := mm) rfl rfl (by omega) (by omega)).mpr hne)
    refine lv_aload_n hx hb dX1_addRidge_9 rfl (lv_at hl 0 rfl) ?_
    refine lv_iload_n hx hb dX1_addRidge_10 rfl (lv_at hl 1 rfl) ?_
    refine rd_i (va_runV (As := [.int (nI a)]) (rest := []) ⟨hx, hb, hml, hown, hts⟩ (c_X1_hasPeak l G h v q (nI a)) (cwV 1 hts gX1_addRidge_X1_hasPeak rfl rfl rfl (by decide +kernel) ⟨Nat.le_of_ble_eq_true rfl, Nat.le_of_ble_eq_true rfl⟩) (rPre_V hK hP [0] rfl 0 1 rfl rfl) rfl rfl hl.1 rfl (lv_room (Nat.le_of_ble_eq_true rfl)) dX1_addRidge_11 ⟨Nat.zero_le _, Nat.zero_le _⟩) (fun r_11 q_11 => ?_)
    obtain rfl : r_11 = b2i (pHas (v 3) (nI a)) := q_11
    refine lv_if_eq (tgt := 55) hx hb dX1_addRidge_14 (by decide) (fun c_14 => ?_) (fun c_14 => ?_)
    · exact absurd (b2i_0.mp c_14) (by rw [hv, pHas_nI (by omega) (by omega)]; simp [ha])
    · have c_14 : (pHas (v 3) (nI a)) = true := b2i_n0.mp c_14
      refine lv_aload_n hx hb dX1_addRidge_17 rfl (lv_at hl 0 rfl) ?_
      refine lv_iload_n hx hb dX1_addRidge_18 rfl (lv_at hl 2 rfl) ?_
      refine rd_i (va_runV (As := [.int (nI b)]) (rest := []) ⟨hx, hb, hml, hown, hts⟩ (c_X1_hasPeak l G h v q (nI b)) (cwV 1 hts gX1_addRidge_X1_hasPeak rfl rfl rfl (by decide +kernel) ⟨Nat.le_of_ble_eq_true rfl, Nat.le_of_ble_eq_true rfl⟩) (rPre_V hK hP [0] rfl 0 1 rfl rfl) rfl rfl hl.1 rfl (lv_room (Nat.le_of_ble_eq_true rfl)) dX1_addRidge_19 ⟨Nat.zero_le _, Nat.zero_le _⟩) (fun r_19 q_19 => ?_)
      obtain rfl : r_19 = b2i (pHas (v 3) (nI b)) := q_19
      refine lv_if_eq (tgt := 55) hx hb dX1_addRidge_22 (by decide) (fun c_22 => ?_) (fun c_22 => ?_)
      · exact absurd (b2i_0.mp c_22) (by rw [hv, pHas_nI (by omega) (by omega)]; simp [hbn])
      · have c_22 : (pHas (v 3) (nI b)) = true := b2i_n0.mp c_22
        refine lv_aload_n hx hb dX1_addRidge_25 rfl (lv_at hl 0 rfl) ?_
        refine va_get (D := G.1) (ci := 1) (v := .ref (q 4)) (C := RX1) (T := TX1) (N := 11) hx hb hts hin1 hown hK.1 hP 0 rfl rfl 4 (by decide) f21 (fun _ h9 => h9) rfl dX1_addRidge_26 ?_
        refine lv_aload_n hx hb dX1_addRidge_29 rfl (lv_at hl 0 rfl) ?_
        refine va_get (D := G.1) (ci := 1) (v := .int (v 6)) (C := RX1) (T := TX1) (N := 11) hx hb hts hin1 hown hK.1 hP 0 rfl rfl 6 (by decide) f44 (fun _ h9 => h9) rfl dX1_addRidge_30 ?_
        refine top_i (y := nI mm) (hw) ?_
        refine lv_iload_n hx hb dX1_addRidge_33 rfl (lv_at hl 1 rfl) ?_
        refine as_i hx hb hK.1 hP hD hS 1 0 rfl rfl (j := mm) (by omega) (Nat.le_of_ble_eq_true rfl) dX1_addRidge_34 (fun H locs hP hD hS => ?_)
        have hP : va_P G.1 vwCl [oB h 1 (oF1 v q), aI G (q 4) 8 (upd fs mm (nI a)), aI G (q 5) 8 ss] H := hP
        have hD : va_D A [oB h 1 (oF1 v q), aI G (q 4) 8 (upd fs mm (nI a)), aI G (q 5) 8 ss] := hD
        refine lv_aload_n hx hb dX1_addRidge_35 rfl (lv_at hl 0 rfl) ?_
        refine va_get (D := G.1) (ci := 1) (v := .ref (q 5)) (C := RX1) (T := TX1) (N := 11) hx hb hts hin1 hown hK.1 hP 0 rfl rfl 5 (by decide) f24 (fun _ h9 => h9) rfl dX1_addRidge_36 ?_
        refine lv_aload_n hx hb dX1_addRidge_39 rfl (lv_at hl 0 rfl) ?_
        refine va_get (D := G.1) (ci := 1) (v := .int (v 6)) (C := RX1) (T := TX1) (N := 11) hx hb hts hin1 hown hK.1 hP 0 rfl rfl 6 (by decide) f44 (fun _ h9 => h9) rfl dX1_addRidge_40 ?_
        refine top_i (y := nI mm) (hw) ?_
        refine lv_iload_n hx hb dX1_addRidge_43 rfl (lv_at hl 2 rfl) ?_
        refine as_i hx hb hK.1 hP hD hS 2 0 rfl rfl (j := mm) (by omega) (Nat.le_of_ble_eq_true rfl) dX1_addRidge_44 (fun H locs hP hD hS => ?_)
        have hP : va_P G.1 vwCl [oB h 1 (oF1 v q), aI G (q 4) 8 (upd fs mm (nI a)), aI G (q 5) 8 (upd ss mm (nI b))] H := hP
        have hD : va_D A [oB h 1 (oF1 v q), aI G (q 4) 8 (upd fs mm (nI a)), aI G (q 5) 8 (upd ss mm (nI b))] := hD
        refine lv_aload_n hx hb dX1_addRidge_45 rfl (lv_at hl 0 rfl) ?_
        refine lv_dup hx hb dX1_addRidge_46 rfl ?_
        refine va_get (D := G.1) (ci := 1) (v := .int (v 6)) (C := RX1) (T := TX1) (N := 11) hx hb hts hin1 hown hK.1 hP 0 rfl rfl 6 (by decide) f44 (fun _ h9 => h9) rfl dX1_addRidge_47 ?_
        refine top_i (y := nI mm) (hw) ?_
        refine lv_iconst (v := 1) hx hb dX1_addRidge_50 (by decide) ?_
        refine lv_iadd hx hb dX1_addRidge_51 ?_
        refine top_i (y := nI (mm + 1)) (nI_1 mm) ?_
        refine va_put (D := G.1) (ci := 1) (v := .int (nI (mm + 1))) (ty := .int) (C := RX1) (T := TX1) (N := 11) hx hb hts hin1 tyX1 tyX1_ok nmX1 hown hK.1 hP hD hS 0 rfl rfl 6 (by decide) f44 (fun _ h9 => h9) rfl (by decide +kernel) rfl rfl (Nat.le_of_ble_eq_true rfl) dX1_addRidge_52 (fun H locs hP hD hS => ?_)
        have hP : va_P G.1 vwCl [oB h 1 (oF1 (upd v 6 (nI (mm + 1))) q), aI G (q 4) 8 (upd fs mm (nI a)), aI G (q 5) 8 (upd ss mm (nI b))] H := hP
        have hD : va_D A [oB h 1 (oF1 (upd v 6 (nI (mm + 1))) q), aI G (q 4) 8 (upd fs mm (nI a)), aI G (q 5) 8 (upd ss mm (nI b))] := hD
        exact hret () _ _ _ _ (trivial) hP hD hS dX1_addRidge_55

abbrev rX3_has : Room := { frames := 0, cells := 0, slots := 0, locals := 0 }
set_option maxHeartbeats 4000000 in
set_option maxRecDepth 100000 in
theorem c_X3_has (l : Launch) (G : kG) (h : Nat) (v : Nat → Int32) (q : Nat → Nat) (x : Int32) : Ri l G yX3_has wsX3_has rX3_has [.ref h, .int x] [oB h 3 (oF3 v q)] (fun r => r = b2i (pHas (v 2) x)) := by
  refine Ri.of (cc := cX3_has) (maxL := 2) (by decide) rfl (Nat.le_of_ble_eq_true rfl) ?_
  intro pM eM sM mM bM tM cM Q hx hb hts hown hml hP hK hret ls hl
  have hown : sM.vm.findClass RX3 = some mM.cls := hown
  have hl : lv_has ls 2 [(0, .ref h), (1, .int x)] := hl
  have hin3 : ∀ w ∈ u_ws RX3 TX3 3, w ∈ wsX3_has := by decide +kernel
  have f18 := hts (.fieldLink RX3 18 "HorizonPeaks$Notches" "size" "I") (by decide +kernel)
  refine lv_iload_n hx hb dX3_has_0 rfl (lv_at hl 1 rfl) ?_
  refine lv_if_lt (tgt := 16) hx hb dX3_has_1 (by decide) (fun c_1 => ?_) (fun c_1 => ?_)
  · refine lv_iconst (v := 0) hx hb dX3_has_16 (by decide) ?_
    exact hret _ _ _ (by simp [b2i, pHas, c_1]) (rfl) dX3_has_17
  · refine lv_iload_n hx hb dX3_has_4 rfl (lv_at hl 1 rfl) ?_
    refine lv_aload_n hx hb dX3_has_5 rfl (lv_at hl 0 rfl) ?_
    refine va_get (D := G.1) (ci := 3) (v := .int (v 2)) (C := RX3) (T := TX3) (N := 3) hx hb hts hin3 hown hK.1 hP 0 rfl rfl 2 (by decide) f18 (fun _ h9 => h9) rfl dX3_has_6 ?_
    refine lv_icmp_ge (tgt := 16) hx hb dX3_has_9 (by decide) (fun c_9 => ?_) (fun c_9 => ?_)
    · refine lv_iconst (v := 0) hx hb dX3_has_16 (by decide) ?_
      exact hret _ _ _ (by simp [b2i, pHas, c_1, c_9]) (rfl) dX3_has_17
    · refine lv_iconst (v := 1) hx hb dX3_has_12 (by decide) ?_
      refine lv_goto (tgt := 17) hx hb dX3_has_13 (by decide) ?_
      exact hret _ _ _ (by simp [b2i, pHas, c_1, c_9]) (rfl) dX3_has_17

abbrev rX3_append : Room := { frames := 0, cells := 0, slots := 0, locals := 0 }
set_option maxHeartbeats 4000000 in
set_option maxRecDepth 100000 in
theorem c_X3_append (l : Launch) (G : kG) (h : Nat) (v : Nat → Int32) (q : Nat → Nat) (bs : Nat → Int32) (zs : Nat → Int32) (n : Nat) (x : Int32) (y : Int32) (hv : v 2 = nI n) (hn : n < 8) : Cv l G yX3_append wsX3_append rX3_append [.ref h, .int x, .int y] [oB h 3 (oF3 v q), aI G (q 0) 8 bs, aI G (q 1) 8 zs] (fun (u : Unit) => True) (fun u => [oB h 3 (oF3 (upd v 2 (nI (n + 1))) q), aI G (q 0) 8 (upd bs n x), aI G (q 1) 8 (upd zs n y)]) 0 0 := by
  refine Cv.of (cc := cX3_append) (maxL := 3) (by decide) rfl (Nat.le_of_ble_eq_true rfl) ?_
  intro pM eM sM mM bM tM cM Q A hx hb hts hown hml hnm hA hK hP hD hS hret ls hl
  have hown : sM.vm.findClass RX3 = some mM.cls := hown
  have hl : lv_has ls 3 [(0, .ref h), (1, .int x), (2, .int y)] := hl
  have hin3 : ∀ w ∈ u_ws RX3 TX3 3, w ∈ wsX3_append := by decide +kernel
  have f18 := hts (.fieldLink RX3 18 "HorizonPeaks$Notches" "size" "I") (by decide +kernel)
  have f9 := hts (.fieldLink RX3 9 "HorizonPeaks$Notches" "bearings" "[I") (by decide +kernel)
  have f15 := hts (.fieldLink RX3 15 "HorizonPeaks$Notches" "heights" "[I") (by decide +kernel)
  refine lv_aload_n hx hb dX3_append_0 rfl (lv_at hl 0 rfl) ?_
  refine va_get (D := G.1) (ci := 3) (v := .int (v 2)) (C := RX3) (T := TX3) (N := 3) hx hb hts hin3 hown hK.1 hP 0 rfl rfl 2 (by decide) f18 (fun _ h9 => h9) rfl dX3_append_1 ?_
  refine top_i (y := nI n) (hv) ?_
  refine lv_bipush (v := 8) hx hb dX3_append_4 (by decide) ?_
  refine lv_icmp_ge (tgt := 39) hx hb dX3_append_6 (by decide) (fun c_6 => ?_) (fun c_6 => ?_)
  · have c_6 : 8 ≤ n := (c_le (a := 8) (b := n) rfl rfl (by omega) (by omega)).mp c_6
    exfalso
    omega
  · have c_6 : ¬ 8 ≤ n := fun hne => c_6 ((c_le (a := 8) (b := n) rfl rfl (by omega) (by omega)).mpr hne)
    refine lv_aload_n hx hb dX3_append_9 rfl (lv_at hl 0 rfl) ?_
    refine va_get (D := G.1) (ci := 3) (v := .ref (q 0)) (C := RX3) (T := TX3) (N := 3) hx hb hts hin3 hown hK.1 hP 0 rfl rfl 0 (by decide) f9 (fun _ h9 => h9) rfl dX3_append_10 ?_
    refine lv_aload_n hx hb dX3_append_13 rfl (lv_at hl 0 rfl) ?_
    refine va_get (D := G.1) (ci := 3) (v := .int (v 2)) (C := RX3) (T := TX3) (N := 3) hx hb hts hin3 hown hK.1 hP 0 rfl rfl 2 (by decide) f18 (fun _ h9 => h9) rfl dX3_append_14 ?_
    refine top_i (y := nI n) (hv) ?_
    refine lv_iload_n hx hb dX3_append_17 rfl (lv_at hl 1 rfl) ?_
    refine as_i hx hb hK.1 hP hD hS 1 0 rfl rfl (j := n) (by omega) (Nat.le_of_ble_eq_true rfl) dX3_append_18 (fun H locs hP hD hS => ?_)
    have hP : va_P G.1 vwCl [oB h 3 (oF3 v q), aI G (q 0) 8 (upd bs n x), aI G (q 1) 8 zs] H := hP
    have hD : va_D A [oB h 3 (oF3 v q), aI G (q 0) 8 (upd bs n x), aI G (q 1) 8 zs] := hD
    refine lv_aload_n hx hb dX3_append_19 rfl (lv_at hl 0 rfl) ?_
    refine va_get (D := G.1) (ci := 3) (v := .ref (q 1)) (C := RX3) (T := TX3) (N := 3) hx hb hts hin3 hown hK.1 hP 0 rfl rfl 1 (by decide) f15 (fun _ h9 => h9) rfl dX3_append_20 ?_
    refine lv_aload_n hx hb dX3_append_23 rfl (lv_at hl 0 rfl) ?_
    refine va_get (D := G.1) (ci := 3) (v := .int (v 2)) (C := RX3) (T := TX3) (N := 3) hx hb hts hin3 hown hK.1 hP 0 rfl rfl 2 (by decide) f18 (fun _ h9 => h9) rfl dX3_append_24 ?_
    refine top_i (y := nI n) (hv) ?_
    refine lv_iload_n hx hb dX3_append_27 rfl (lv_at hl 2 rfl) ?_
    refine as_i hx hb hK.1 hP hD hS 2 0 rfl rfl (j := n) (by omega) (Nat.le_of_ble_eq_true rfl) dX3_append_28 (fun H locs hP hD hS => ?_)
    have hP : va_P G.1 vwCl [oB h 3 (oF3 v q), aI G (q 0) 8 (upd bs n x), aI G (q 1) 8 (upd zs n y)] H := hP
    have hD : va_D A [oB h 3 (oF3 v q), aI G (q 0) 8 (upd bs n x), aI G (q 1) 8 (upd zs n y)] := hD
    refine lv_aload_n hx hb dX3_append_29 rfl (lv_at hl 0 rfl) ?_
    refine lv_dup hx hb dX3_append_30 rfl ?_
    refine va_get (D := G.1) (ci := 3) (v := .int (v 2)) (C := RX3) (T := TX3) (N := 3) hx hb hts hin3 hown hK.1 hP 0 rfl rfl 2 (by decide) f18 (fun _ h9 => h9) rfl dX3_append_31 ?_
    refine top_i (y := nI n) (hv) ?_
    refine lv_iconst (v := 1) hx hb dX3_append_34 (by decide) ?_
    refine lv_iadd hx hb dX3_append_35 ?_
    refine top_i (y := nI (n + 1)) (nI_1 n) ?_
    refine va_put (D := G.1) (ci := 3) (v := .int (nI (n + 1))) (ty := .int) (C := RX3) (T := TX3) (N := 3) hx hb hts hin3 tyX3 tyX3_ok nmX3 hown hK.1 hP hD hS 0 rfl rfl 2 (by decide) f18 (fun _ h9 => h9) rfl (by decide +kernel) rfl rfl (Nat.le_of_ble_eq_true rfl) dX3_append_36 (fun H locs hP hD hS => ?_)
    have hP : va_P G.1 vwCl [oB h 3 (oF3 (upd v 2 (nI (n + 1))) q), aI G (q 0) 8 (upd bs n x), aI G (q 1) 8 (upd zs n y)] H := hP
    have hD : va_D A [oB h 3 (oF3 (upd v 2 (nI (n + 1))) q), aI G (q 0) 8 (upd bs n x), aI G (q 1) 8 (upd zs n y)] := hD
    exact hret () _ _ _ _ (trivial) hP hD hS dX3_append_39

abbrev rX3_remove : Room := { frames := 1, cells := 0, slots := 0, locals := 21 }
set_option maxHeartbeats 4000000 in
set_option maxRecDepth 100000 in
theorem c_X3_remove (l : Launch) (G : kG) (h : Nat) (v : Nat → Int32) (q : Nat → Nat) (bs : Nat → Int32) (zs : Nat → Int32) (n : Nat) (x : Nat) (hv : v 2 = nI n) (hn : n ≤ 8) (hx0 : x < n) : Cv l G yX3_remove wsX3_remove rX3_remove [.ref h, .int (nI x)] [oB h 3 (oF3 v q), aI G (q 0) 8 bs, aI G (q 1) 8 zs] (fun (u : (Nat → Int32) × (Nat → Int32)) => ∀ i, i < n - 1 → u.1 i = shf bs x i ∧ u.2 i = shf zs x i) (fun u => [oB h 3 (oF3 (upd v 2 (nI (n - 1))) q), aI G (q 0) 8 u.1, aI G (q 1) 8 u.2]) 0 0 := by
  refine Cv.of (cc := cX3_remove) (maxL := 3) (by decide) rfl (Nat.le_of_ble_eq_true rfl) ?_
  intro pM eM sM mM bM tM cM Q A hx hb hts hown hml hnm hA hK hP hD hS hret ls hl
  have hown : sM.vm.findClass RX3 = some mM.cls := hown
  have hl : lv_has ls 3 [(0, .ref h), (1, .int (nI x))] := hl
  have hin3 : ∀ w ∈ u_ws RX3 TX3 3, w ∈ wsX3_remove := by decide +kernel
  have f18 := hts (.fieldLink RX3 18 "HorizonPeaks$Notches" "size" "I") (by decide +kernel)
  have f9 := hts (.fieldLink RX3 9 "HorizonPeaks$Notches" "bearings" "[I") (by decide +kernel)
  have f15 := hts (.fieldLink RX3 15 "HorizonPeaks$Notches" "heights" "[I") (by decide +kernel)
  refine lv_aload_n hx hb dX3_remove_0 rfl (lv_at hl 0 rfl) ?_
  refine lv_iload_n hx hb dX3_remove_1 rfl (lv_at hl 1 rfl) ?_
  refine rd_i (va_runV (As := [.int (nI x)]) (rest := []) ⟨hx, hb, hml, hown, hts⟩ (c_X3_has l G h v q (nI x)) (cwV 1 hts gX3_remove_X3_has rfl rfl rfl (by decide +kernel) ⟨Nat.le_of_ble_eq_true rfl, Nat.le_of_ble_eq_true rfl⟩) (rPre_V hK hP [0] rfl 0 3 rfl rfl) rfl rfl hl.1 rfl (lv_room (Nat.le_of_ble_eq_true rfl)) dX3_remove_2 ⟨Nat.zero_le _, Nat.zero_le _⟩) (fun r_2 q_2 => ?_)
  obtain rfl : r_2 = b2i (pHas (v 2) (nI x)) := q_2
  refine lv_if_eq (tgt := 62) hx hb dX3_remove_5 (by decide) (fun c_5 => ?_) (fun c_5 => ?_)
  · exact absurd (b2i_0.mp c_5) (by rw [hv, pHas_nI (by omega) (by omega)]; simp [hx0])
  · have c_5 : (pHas (v 2) (nI x)) = true := b2i_n0.mp c_5
    refine lv_aload_n hx hb dX3_remove_8 rfl (lv_at hl 0 rfl) ?_
    refine lv_dup hx hb dX3_remove_9 rfl ?_
    refine va_get (D := G.1) (ci := 3) (v := .int (v 2)) (C := RX3) (T := TX3) (N := 3) hx hb hts hin3 hown hK.1 hP 0 rfl rfl 2 (by decide) f18 (fun _ h9 => h9) rfl dX3_remove_10 ?_
    refine top_i (y := nI n) (hv) ?_
    refine lv_iconst (v := 1) hx hb dX3_remove_13 (by decide) ?_
    refine lv_isub hx hb dX3_remove_14 ?_
    refine top_i (y := nI (n - 1)) (pk_sub (b := 1) (by omega)) ?_
    refine va_put (D := G.1) (ci := 3) (v := .int (nI (n - 1))) (ty := .int) (C := RX3) (T := TX3) (N := 3) hx hb hts hin3 tyX3 tyX3_ok nmX3 hown hK.1 hP hD hS 0 rfl rfl 2 (by decide) f18 (fun _ h9 => h9) rfl (by decide +kernel) rfl rfl (Nat.le_of_ble_eq_true rfl) dX3_remove_15 (fun H locs hP hD hS => ?_)
    have hP : va_P G.1 vwCl [oB h 3 (oF3 (upd v 2 (nI (n - 1))) q), aI G (q 0) 8 bs, aI G (q 1) 8 zs] H := hP
    have hD : va_D A [oB h 3 (oF3 (upd v 2 (nI (n - 1))) q), aI G (q 0) 8 bs, aI G (q 1) 8 zs] := hD
    refine lv_iload_n hx hb dX3_remove_18 rfl (lv_at hl 1 rfl) ?_
    refine lv_istore_n (lv' := [(2, .int (nI x)), (0, .ref h), (1, .int (nI x))]) hx hb dX3_remove_19 rfl hl (by decide) rfl (fun ls hl => ?_)
    have loop_20 : ∀ (nF : Nat) (k : Nat) (f : Nat → Int32) (g : Nat → Int32), (n - k) < nF → (x ≤ k ∧ k ≤ n - 1) → (∀ i, i < k → f i = shf bs x i ∧ g i = shf zs x i) → (∀ i, k ≤ i → f i = bs i ∧ g i = zs i) → ∀ (H : Heap) (locs : List Loc), va_P G.1 vwCl [oB h 3 (oF3 (upd v 2 (nI (n - 1))) q), aI G (q 0) 8 f, aI G (q 1) 8 g] H → va_D A [oB h 3 (oF3 (upd v 2 (nI (n - 1))) q), aI G (q 0) 8 f, aI G (q 1) 8 g] → va_S A sM.heap H locs → ∀ (ls : Array Slot), lv_has ls 3 [(2, .int (nI k)), (0, .ref h), (1, .int (nI x))] → W pM l eM rX3_remove sM mM [.ref h, .int (nI x)].toArray bM tM cM H locs 0 0 Q (F0 mM 20 ls []) := by
      intro nF
      induction nF with
      | zero => intro k f g hmF; exact absurd hmF (Nat.not_lt_zero _)
      | succ nF ih20 =>
        intro k f g hmF hk hi hj H locs hP hD hS ls hl
        refine lv_iload_n hx hb dX3_remove_20 rfl (lv_at hl 0 rfl) ?_
        refine lv_aload_n hx hb dX3_remove_21 rfl (lv_at hl 1 rfl) ?_
        refine va_get (D := G.1) (ci := 3) (v := .int (nI (n - 1))) (C := RX3) (T := TX3) (N := 3) hx hb hts hin3 hown hK.1 hP 0 rfl rfl 2 (by decide) f18 (fun _ h9 => h9) rfl dX3_remove_22 ?_
        refine lv_icmp_ge (tgt := 62) hx hb dX3_remove_25 (by decide) (fun c_25 => ?_) (fun c_25 => ?_)
        · have c_25 : (n - 1) ≤ k := (c_le (a := n - 1) (b := k) rfl rfl (by omega) (by omega)).mp c_25
          exact hret (f, g) _ _ _ _ (fun i h => hi i (by omega)) hP hD hS dX3_remove_62
        · have c_25 : ¬ (n - 1) ≤ k := fun hne => c_25 ((c_le (a := n - 1) (b := k) rfl rfl (by omega) (by omega)).mpr hne)
          refine lv_aload_n hx hb dX3_remove_28 rfl (lv_at hl 1 rfl) ?_
          refine va_get (D := G.1) (ci := 3) (v := .ref (q 0)) (C := RX3) (T := TX3) (N := 3) hx hb hts hin3 hown hK.1 hP 0 rfl rfl 0 (by decide) f9 (fun _ h9 => h9) rfl dX3_remove_29 ?_
          refine lv_iload_n hx hb dX3_remove_32 rfl (lv_at hl 0 rfl) ?_
          refine lv_aload_n hx hb dX3_remove_33 rfl (lv_at hl 1 rfl) ?_
          refine va_get (D := G.1) (ci := 3) (v := .ref (q 0)) (C := RX3) (T := TX3) (N := 3) hx hb hts hin3 hown hK.1 hP 0 rfl rfl 0 (by decide) f9 (fun _ h9 => h9) rfl dX3_remove_34 ?_
          refine lv_iload_n hx hb dX3_remove_37 rfl (lv_at hl 0 rfl) ?_
          refine lv_iconst (v := 1) hx hb dX3_remove_38 (by decide) ?_
          refine lv_iadd hx hb dX3_remove_39 ?_
          refine top_i (y := nI (k + 1)) (nI_1 k) ?_
          refine al_i hx hb hK.1 hP 1 0 rfl rfl (j := k + 1) (by omega) (Nat.le_of_ble_eq_true rfl) dX3_remove_40 ?_
          refine as_i hx hb hK.1 hP hD hS 1 0 rfl rfl (j := k) (by omega) (Nat.le_of_ble_eq_true rfl) dX3_remove_41 (fun H locs hP hD hS => ?_)
          have hP : va_P G.1 vwCl [oB h 3 (oF3 (upd v 2 (nI (n - 1))) q), aI G (q 0) 8 (upd f k (f (k + 1))), aI G (q 1) 8 g] H := hP
          have hD : va_D A [oB h 3 (oF3 (upd v 2 (nI (n - 1))) q), aI G (q 0) 8 (upd f k (f (k + 1))), aI G (q 1) 8 g] := hD
          refine lv_aload_n hx hb dX3_remove_42 rfl (lv_at hl 1 rfl) ?_
          refine va_get (D := G.1) (ci := 3) (v := .ref (q 1)) (C := RX3) (T := TX3) (N := 3) hx hb hts hin3 hown hK.1 hP 0 rfl rfl 1 (by decide) f15 (fun _ h9 => h9) rfl dX3_remove_43 ?_
          refine lv_iload_n hx hb dX3_remove_46 rfl (lv_at hl 0 rfl) ?_
          refine lv_aload_n hx hb dX3_remove_47 rfl (lv_at hl 1 rfl) ?_
          refine va_get (D := G.1) (ci := 3) (v := .ref (q 1)) (C := RX3) (T := TX3) (N := 3) hx hb hts hin3 hown hK.1 hP 0 rfl rfl 1 (by decide) f15 (fun _ h9 => h9) rfl dX3_remove_48 ?_
          refine lv_iload_n hx hb dX3_remove_51 rfl (lv_at hl 0 rfl) ?_
          refine lv_iconst (v := 1) hx hb dX3_remove_52 (by decide) ?_
          refine lv_iadd hx hb dX3_remove_53 ?_
          refine top_i (y := nI (k + 1)) (nI_1 k) ?_
          refine al_i hx hb hK.1 hP 2 0 rfl rfl (j := k + 1) (by omega) (Nat.le_of_ble_eq_true rfl) dX3_remove_54 ?_
          refine as_i hx hb hK.1 hP hD hS 2 0 rfl rfl (j := k) (by omega) (Nat.le_of_ble_eq_true rfl) dX3_remove_55 (fun H locs hP hD hS => ?_)
          have hP : va_P G.1 vwCl [oB h 3 (oF3 (upd v 2 (nI (n - 1))) q), aI G (q 0) 8 (upd f k (f (k + 1))), aI G (q 1) 8 (upd g k (g (k + 1)))] H := hP
          have hD : va_D A [oB h 3 (oF3 (upd v 2 (nI (n - 1))) q), aI G (q 0) 8 (upd f k (f (k + 1))), aI G (q 1) 8 (upd g k (g (k + 1)))] := hD
          refine lv_iinc (v := nI (k + 1)) (lv' := [(2, .int (nI (k + 1))), (0, .ref h), (1, .int (nI x))]) hx hb dX3_remove_56 hl (k := 0) rfl (inc_nI _ 1) (by decide) rfl (fun ls hl => ?_)
          refine lv_goto (tgt := 20) hx hb dX3_remove_59 (by decide) ?_
          exact ih20 (k + 1) (upd f k (f (k + 1))) (upd g k (g (k + 1))) (by omega) (by omega) (fun i h => if e : i = k then by rw [e, pk_us, pk_us, (hj (k + 1) (by omega)).1, (hj (k + 1) (by omega)).2]; simp [shf, show ¬ k < x by omega] else by rw [pk_un e, pk_un e]; exact hi i (by omega)) (fun i h => by rw [pk_un (by omega), pk_un (by omega)]; exact hj i (by omega)) _ _ hP hD hS _ (lv_sub hl [0, 1, 2] rfl)
    exact loop_20 _ x bs zs (Nat.lt_succ_self _) (by omega) (fun i h => by simp [shf, h]) (fun i h => ⟨rfl, rfl⟩) _ _ hP hD hS _ (lv_sub hl [0, 1, 2] rfl)

abbrev rX3_become : Room := { frames := 0, cells := 0, slots := 0, locals := 0 }
set_option maxHeartbeats 4000000 in
set_option maxRecDepth 100000 in
theorem c_X3_become (l : Launch) (G : kG) (h : Nat) (v : Nat → Int32) (q : Nat → Nat) (h2 : Nat) (v2 : Nat → Int32) (q2 : Nat → Nat) (bs : Nat → Int32) (zs : Nat → Int32) (bs2 : Nat → Int32) (zs2 : Nat → Int32) (n : Nat) (hv : v2 2 = nI n) (hn : n ≤ 8) : Cv l G yX3_become wsX3_become rX3_become [.ref h, .ref h2] [oB h 3 (oF3 v q), aI G (q 0) 8 bs, aI G (q 1) 8 zs, oB h2 3 (oF3 v2 q2), aI G (q2 0) 8 bs2, aI G (q2 1) 8 zs2] (fun (u : (Nat → Int32) × (Nat → Int32)) => ∀ i, i < n → u.1 i = bs2 i ∧ u.2 i = zs2 i) (fun u => [oB h 3 (oF3 (upd v 2 (nI n)) q), aI G (q 0) 8 u.1, aI G (q 1) 8 u.2, oB h2 3 (oF3 v2 q2), aI G (q2 0) 8 bs2, aI G (q2 1) 8 zs2]) 0 0 := by
  refine Cv.of (cc := cX3_become) (maxL := 3) (by decide) rfl (Nat.le_of_ble_eq_true rfl) ?_
  intro pM eM sM mM bM tM cM Q A hx hb hts hown hml hnm hA hK hP hD hS hret ls hl
  have hown : sM.vm.findClass RX3 = some mM.cls := hown
  have hl : lv_has ls 3 [(0, .ref h), (1, .ref h2)] := hl
  have hin3 : ∀ w ∈ u_ws RX3 TX3 3, w ∈ wsX3_become := by decide +kernel
  have f18 := hts (.fieldLink RX3 18 "HorizonPeaks$Notches" "size" "I") (by decide +kernel)
  have f9 := hts (.fieldLink RX3 9 "HorizonPeaks$Notches" "bearings" "[I") (by decide +kernel)
  have f15 := hts (.fieldLink RX3 15 "HorizonPeaks$Notches" "heights" "[I") (by decide +kernel)
  refine lv_aload_n hx hb dX3_become_0 rfl (lv_at hl 0 rfl) ?_
  refine lv_aload_n hx hb dX3_become_1 rfl (lv_at hl 1 rfl) ?_
  refine va_get (D := G.1) (ci := 3) (v := .int (v2 2)) (C := RX3) (T := TX3) (N := 3) hx hb hts hin3 hown hK.1 hP 3 rfl rfl 2 (by decide) f18 (fun _ h9 => h9) rfl dX3_become_2 ?_
  refine top_i (y := nI n) (hv) ?_
  refine va_put (D := G.1) (ci := 3) (v := .int (nI n)) (ty := .int) (C := RX3) (T := TX3) (N := 3) hx hb hts hin3 tyX3 tyX3_ok nmX3 hown hK.1 hP hD hS 0 rfl rfl 2 (by decide) f18 (fun _ h9 => h9) rfl (by decide +kernel) rfl rfl (Nat.le_of_ble_eq_true rfl) dX3_become_5 (fun H locs hP hD hS => ?_)
  have hP : va_P G.1 vwCl [oB h 3 (oF3 (upd v 2 (nI n)) q), aI G (q 0) 8 bs, aI G (q 1) 8 zs, oB h2 3 (oF3 v2 q2), aI G (q2 0) 8 bs2, aI G (q2 1) 8 zs2] H := hP
  have hD : va_D A [oB h 3 (oF3 (upd v 2 (nI n)) q), aI G (q 0) 8 bs, aI G (q 1) 8 zs, oB h2 3 (oF3 v2 q2), aI G (q2 0) 8 bs2, aI G (q2 1) 8 zs2] := hD
  refine lv_iconst (v := 0) hx hb dX3_become_8 (by decide) ?_
  refine lv_istore_n (lv' := [(2, .int 0), (0, .ref h), (1, .ref h2)]) hx hb dX3_become_9 rfl hl (by decide) rfl (fun ls hl => ?_)
  have loop_10 : ∀ (nF : Nat) (k : Nat) (f : Nat → Int32) (g : Nat → Int32), (n - k) < nF → (k ≤ n) → (∀ i, i < k → f i = bs2 i ∧ g i = zs2 i) → ∀ (H : Heap) (locs : List Loc), va_P G.1 vwCl [oB h 3 (oF3 (upd v 2 (nI n)) q), aI G (q 0) 8 f, aI G (q 1) 8 g, oB h2 3 (oF3 v2 q2), aI G (q2 0) 8 bs2, aI G (q2 1) 8 zs2] H → va_D A [oB h 3 (oF3 (upd v 2 (nI n)) q), aI G (q 0) 8 f, aI G (q 1) 8 g, oB h2 3 (oF3 v2 q2), aI G (q2 0) 8 bs2, aI G (q2 1) 8 zs2] → va_S A sM.heap H locs → ∀ (ls : Array Slot), lv_has ls 3 [(2, .int (nI k)), (0, .ref h), (1, .ref h2)] → W pM l eM rX3_become sM mM [.ref h, .ref h2].toArray bM tM cM H locs 0 0 Q (F0 mM 10 ls []) := by
    intro nF
    induction nF with
    | zero => intro k f g hmF; exact absurd hmF (Nat.not_lt_zero _)
    | succ nF ih10 =>
      intro k f g hmF hk hi H locs hP hD hS ls hl
      refine lv_iload_n hx hb dX3_become_10 rfl (lv_at hl 0 rfl) ?_
      refine lv_aload_n hx hb dX3_become_11 rfl (lv_at hl 1 rfl) ?_
      refine va_get (D := G.1) (ci := 3) (v := .int (nI n)) (C := RX3) (T := TX3) (N := 3) hx hb hts hin3 hown hK.1 hP 0 rfl rfl 2 (by decide) f18 (fun _ h9 => h9) rfl dX3_become_12 ?_
      refine lv_icmp_ge (tgt := 48) hx hb dX3_become_15 (by decide) (fun c_15 => ?_) (fun c_15 => ?_)
      · have c_15 : n ≤ k := (c_le (a := n) (b := k) rfl rfl (by omega) (by omega)).mp c_15
        exact hret (f, g) _ _ _ _ (fun i h => hi i (by omega)) hP hD hS dX3_become_48
      · have c_15 : ¬ n ≤ k := fun hne => c_15 ((c_le (a := n) (b := k) rfl rfl (by omega) (by omega)).mpr hne)
        refine lv_aload_n hx hb dX3_become_18 rfl (lv_at hl 1 rfl) ?_
        refine va_get (D := G.1) (ci := 3) (v := .ref (q 0)) (C := RX3) (T := TX3) (N := 3) hx hb hts hin3 hown hK.1 hP 0 rfl rfl 0 (by decide) f9 (fun _ h9 => h9) rfl dX3_become_19 ?_
        refine lv_iload_n hx hb dX3_become_22 rfl (lv_at hl 0 rfl) ?_
        refine lv_aload_n hx hb dX3_become_23 rfl (lv_at hl 2 rfl) ?_
        refine va_get (D := G.1) (ci := 3) (v := .ref (q2 0)) (C := RX3) (T := TX3) (N := 3) hx hb hts hin3 hown hK.1 hP 3 rfl rfl 0 (by decide) f9 (fun _ h9 => h9) rfl dX3_become_24 ?_
        refine lv_iload_n hx hb dX3_become_27 rfl (lv_at hl 0 rfl) ?_
        refine al_i hx hb hK.1 hP 4 0 rfl rfl (j := k) (by omega) (Nat.le_of_ble_eq_true rfl) dX3_become_28 ?_
        refine as_i hx hb hK.1 hP hD hS 1 0 rfl rfl (j := k) (by omega) (Nat.le_of_ble_eq_true rfl) dX3_become_29 (fun H locs hP hD hS => ?_)
        have hP : va_P G.1 vwCl [oB h 3 (oF3 (upd v 2 (nI n)) q), aI G (q 0) 8 (upd f k (bs2 k)), aI G (q 1) 8 g, oB h2 3 (oF3 v2 q2), aI G (q2 0) 8 bs2, aI G (q2 1) 8 zs2] H := hP
        have hD : va_D A [oB h 3 (oF3 (upd v 2 (nI n)) q), aI G (q 0) 8 (upd f k (bs2 k)), aI G (q 1) 8 g, oB h2 3 (oF3 v2 q2), aI G (q2 0) 8 bs2, aI G (q2 1) 8 zs2] := hD
        refine lv_aload_n hx hb dX3_become_30 rfl (lv_at hl 1 rfl) ?_
        refine va_get (D := G.1) (ci := 3) (v := .ref (q 1)) (C := RX3) (T := TX3) (N := 3) hx hb hts hin3 hown hK.1 hP 0 rfl rfl 1 (by decide) f15 (fun _ h9 => h9) rfl dX3_become_31 ?_
        refine lv_iload_n hx hb dX3_become_34 rfl (lv_at hl 0 rfl) ?_
        refine lv_aload_n hx hb dX3_become_35 rfl (lv_at hl 2 rfl) ?_
        refine va_get (D := G.1) (ci := 3) (v := .ref (q2 1)) (C := RX3) (T := TX3) (N := 3) hx hb hts hin3 hown hK.1 hP 3 rfl rfl 1 (by decide) f15 (fun _ h9 => h9) rfl dX3_become_36 ?_
        refine lv_iload_n hx hb dX3_become_39 rfl (lv_at hl 0 rfl) ?_
        refine al_i hx hb hK.1 hP 5 0 rfl rfl (j := k) (by omega) (Nat.le_of_ble_eq_true rfl) dX3_become_40 ?_
        refine as_i hx hb hK.1 hP hD hS 2 0 rfl rfl (j := k) (by omega) (Nat.le_of_ble_eq_true rfl) dX3_become_41 (fun H locs hP hD hS => ?_)
        have hP : va_P G.1 vwCl [oB h 3 (oF3 (upd v 2 (nI n)) q), aI G (q 0) 8 (upd f k (bs2 k)), aI G (q 1) 8 (upd g k (zs2 k)), oB h2 3 (oF3 v2 q2), aI G (q2 0) 8 bs2, aI G (q2 1) 8 zs2] H := hP
        have hD : va_D A [oB h 3 (oF3 (upd v 2 (nI n)) q), aI G (q 0) 8 (upd f k (bs2 k)), aI G (q 1) 8 (upd g k (zs2 k)), oB h2 3 (oF3 v2 q2), aI G (q2 0) 8 bs2, aI G (q2 1) 8 zs2] := hD
        refine lv_iinc (v := nI (k + 1)) (lv' := [(2, .int (nI (k + 1))), (0, .ref h), (1, .ref h2)]) hx hb dX3_become_42 hl (k := 0) rfl (inc_nI _ 1) (by decide) rfl (fun ls hl => ?_)
        refine lv_goto (tgt := 10) hx hb dX3_become_45 (by decide) ?_
        exact ih10 (k + 1) (upd f k (bs2 k)) (upd g k (zs2 k)) (by omega) (by omega) (fun i h => if e : i = k then by rw [e, pk_us, pk_us]; exact ⟨rfl, rfl⟩ else by rw [pk_un e, pk_un e]; exact hi i (by omega)) _ _ hP hD hS _ (lv_sub hl [0, 1, 2] rfl)
  exact loop_10 _ 0 bs zs (Nat.lt_succ_self _) (Nat.zero_le _) (fun i h => absurd h (Nat.not_lt_zero i)) _ _ hP hD hS _ (lv_sub hl [0, 1, 2] rfl)

abbrev rX0_append : Room := { frames := 0, cells := 0, slots := 0, locals := 0 }
set_option maxHeartbeats 4000000 in
set_option maxRecDepth 100000 in
theorem c_X0_append (l : Launch) (G : kG) (h : Nat) (v : Nat → Int32) (q : Nat → Nat) (ps : Nat → Int32) (lk : Nat → Int32) (wh : Nat → Int32) (n : Nat) (x : Int32) (y : Int32) (w : Bool) (hv : v 3 = nI n) (hn : n < 6) : Cv l G yX0_append wsX0_append rX0_append [.ref h, .int x, .int y, .int (b2i w)] [oB h 0 (oF0 v q), aI G (q 0) 6 ps, aI G (q 1) 6 lk, aZ G (q 2) 6 wh] (fun (u : Unit) => True) (fun u => [oB h 0 (oF0 (upd v 3 (nI (n + 1))) q), aI G (q 0) 6 (upd ps n x), aI G (q 1) 6 (upd lk n y), aZ G (q 2) 6 (upd wh n (b2i w))]) 0 0 := by
  refine Cv.of (cc := cX0_append) (maxL := 4) (by decide) rfl (Nat.le_of_ble_eq_true rfl) ?_
  intro pM eM sM mM bM tM cM Q A hx hb hts hown hml hnm hA hK hP hD hS hret ls hl
  have hown : sM.vm.findClass RX0 = some mM.cls := hown
  have hl : lv_has ls 4 [(0, .ref h), (1, .int x), (2, .int y), (3, .int (b2i w))] := hl
  have hin0 : ∀ w ∈ u_ws RX0 TX0 4, w ∈ wsX0_append := by decide +kernel
  have f22 := hts (.fieldLink RX0 22 "HorizonPeaks$Clouds" "size" "I") (by decide +kernel)
  have f9 := hts (.fieldLink RX0 9 "HorizonPeaks$Clouds" "points" "[I") (by decide +kernel)
  have f15 := hts (.fieldLink RX0 15 "HorizonPeaks$Clouds" "looks" "[I") (by decide +kernel)
  have f18 := hts (.fieldLink RX0 18 "HorizonPeaks$Clouds" "wholes" "[Z") (by decide +kernel)
  refine lv_aload_n hx hb dX0_append_0 rfl (lv_at hl 0 rfl) ?_
  refine va_get (D := G.1) (ci := 0) (v := .int (v 3)) (C := RX0) (T := TX0) (N := 4) hx hb hts hin0 hown hK.1 hP 0 rfl rfl 3 (by decide) f22 (fun _ h9 => h9) rfl dX0_append_1 ?_
  refine top_i (y := nI n) (hv) ?_
  refine lv_bipush (v := 6) hx hb dX0_append_4 (by decide) ?_
  refine lv_icmp_ge (tgt := 49) hx hb dX0_append_6 (by decide) (fun c_6 => ?_) (fun c_6 => ?_)
  · have c_6 : 6 ≤ n := (c_le (a := 6) (b := n) rfl rfl (by omega) (by omega)).mp c_6
    exfalso
    omega
  · have c_6 : ¬ 6 ≤ n := fun hne => c_6 ((c_le (a := 6) (b := n) rfl rfl (by omega) (by omega)).mpr hne)
    refine lv_aload_n hx hb dX0_append_9 rfl (lv_at hl 0 rfl) ?_
    refine va_get (D := G.1) (ci := 0) (v := .ref (q 0)) (C := RX0) (T := TX0) (N := 4) hx hb hts hin0 hown hK.1 hP 0 rfl rfl 0 (by decide) f9 (fun _ h9 => h9) rfl dX0_append_10 ?_
    refine lv_aload_n hx hb dX0_append_13 rfl (lv_at hl 0 rfl) ?_
    refine va_get (D := G.1) (ci := 0) (v := .int (v 3)) (C := RX0) (T := TX0) (N := 4) hx hb hts hin0 hown hK.1 hP 0 rfl rfl 3 (by decide) f22 (fun _ h9 => h9) rfl dX0_append_14 ?_
    refine top_i (y := nI n) (hv) ?_
    refine lv_iload_n hx hb dX0_append_17 rfl (lv_at hl 1 rfl) ?_
    refine as_i hx hb hK.1 hP hD hS 1 0 rfl rfl (j := n) (by omega) (Nat.le_of_ble_eq_true rfl) dX0_append_18 (fun H locs hP hD hS => ?_)
    have hP : va_P G.1 vwCl [oB h 0 (oF0 v q), aI G (q 0) 6 (upd ps n x), aI G (q 1) 6 lk, aZ G (q 2) 6 wh] H := hP
    have hD : va_D A [oB h 0 (oF0 v q), aI G (q 0) 6 (upd ps n x), aI G (q 1) 6 lk, aZ G (q 2) 6 wh] := hD
    refine lv_aload_n hx hb dX0_append_19 rfl (lv_at hl 0 rfl) ?_
    refine va_get (D := G.1) (ci := 0) (v := .ref (q 1)) (C := RX0) (T := TX0) (N := 4) hx hb hts hin0 hown hK.1 hP 0 rfl rfl 1 (by decide) f15 (fun _ h9 => h9) rfl dX0_append_20 ?_
    refine lv_aload_n hx hb dX0_append_23 rfl (lv_at hl 0 rfl) ?_
    refine va_get (D := G.1) (ci := 0) (v := .int (v 3)) (C := RX0) (T := TX0) (N := 4) hx hb hts hin0 hown hK.1 hP 0 rfl rfl 3 (by decide) f22 (fun _ h9 => h9) rfl dX0_append_24 ?_
    refine top_i (y := nI n) (hv) ?_
    refine lv_iload_n hx hb dX0_append_27 rfl (lv_at hl 2 rfl) ?_
    refine as_i hx hb hK.1 hP hD hS 2 0 rfl rfl (j := n) (by omega) (Nat.le_of_ble_eq_true rfl) dX0_append_28 (fun H locs hP hD hS => ?_)
    have hP : va_P G.1 vwCl [oB h 0 (oF0 v q), aI G (q 0) 6 (upd ps n x), aI G (q 1) 6 (upd lk n y), aZ G (q 2) 6 wh] H := hP
    have hD : va_D A [oB h 0 (oF0 v q), aI G (q 0) 6 (upd ps n x), aI G (q 1) 6 (upd lk n y), aZ G (q 2) 6 wh] := hD
    refine lv_aload_n hx hb dX0_append_29 rfl (lv_at hl 0 rfl) ?_
    refine va_get (D := G.1) (ci := 0) (v := .ref (q 2)) (C := RX0) (T := TX0) (N := 4) hx hb hts hin0 hown hK.1 hP 0 rfl rfl 2 (by decide) f18 (fun _ h9 => h9) rfl dX0_append_30 ?_
    refine lv_aload_n hx hb dX0_append_33 rfl (lv_at hl 0 rfl) ?_
    refine va_get (D := G.1) (ci := 0) (v := .int (v 3)) (C := RX0) (T := TX0) (N := 4) hx hb hts hin0 hown hK.1 hP 0 rfl rfl 3 (by decide) f22 (fun _ h9 => h9) rfl dX0_append_34 ?_
    refine top_i (y := nI n) (hv) ?_
    refine lv_iload_n hx hb dX0_append_37 rfl (lv_at hl 3 rfl) ?_
    refine as_z hx hb hK.1 hP hD hS 3 2 rfl rfl (j := n) (nar_b2i _) (by omega) (Nat.le_of_ble_eq_true rfl) dX0_append_38 (fun H locs hP hD hS => ?_)
    have hP : va_P G.1 vwCl [oB h 0 (oF0 v q), aI G (q 0) 6 (upd ps n x), aI G (q 1) 6 (upd lk n y), aZ G (q 2) 6 (upd wh n (b2i w))] H := hP
    have hD : va_D A [oB h 0 (oF0 v q), aI G (q 0) 6 (upd ps n x), aI G (q 1) 6 (upd lk n y), aZ G (q 2) 6 (upd wh n (b2i w))] := hD
    refine lv_aload_n hx hb dX0_append_39 rfl (lv_at hl 0 rfl) ?_
    refine lv_dup hx hb dX0_append_40 rfl ?_
    refine va_get (D := G.1) (ci := 0) (v := .int (v 3)) (C := RX0) (T := TX0) (N := 4) hx hb hts hin0 hown hK.1 hP 0 rfl rfl 3 (by decide) f22 (fun _ h9 => h9) rfl dX0_append_41 ?_
    refine top_i (y := nI n) (hv) ?_
    refine lv_iconst (v := 1) hx hb dX0_append_44 (by decide) ?_
    refine lv_iadd hx hb dX0_append_45 ?_
    refine top_i (y := nI (n + 1)) (nI_1 n) ?_
    refine va_put (D := G.1) (ci := 0) (v := .int (nI (n + 1))) (ty := .int) (C := RX0) (T := TX0) (N := 4) hx hb hts hin0 tyX0 tyX0_ok nmX0 hown hK.1 hP hD hS 0 rfl rfl 3 (by decide) f22 (fun _ h9 => h9) rfl (by decide +kernel) rfl rfl (Nat.le_of_ble_eq_true rfl) dX0_append_46 (fun H locs hP hD hS => ?_)
    have hP : va_P G.1 vwCl [oB h 0 (oF0 (upd v 3 (nI (n + 1))) q), aI G (q 0) 6 (upd ps n x), aI G (q 1) 6 (upd lk n y), aZ G (q 2) 6 (upd wh n (b2i w))] H := hP
    have hD : va_D A [oB h 0 (oF0 (upd v 3 (nI (n + 1))) q), aI G (q 0) 6 (upd ps n x), aI G (q 1) 6 (upd lk n y), aZ G (q 2) 6 (upd wh n (b2i w))] := hD
    exact hret () _ _ _ _ (trivial) hP hD hS dX0_append_49

abbrev rX5_append : Room := { frames := 0, cells := 0, slots := 0, locals := 0 }
set_option maxHeartbeats 4000000 in
set_option maxRecDepth 100000 in
theorem c_X5_append (l : Launch) (G : kG) (h : Nat) (v : Nat → Int32) (q : Nat → Nat) (tx : Nat → Int32) (n : Nat) (x : Int32) (hv : v 1 = nI n) (hn : n < 140) : Cv l G yX5_append wsX5_append rX5_append [.ref h, .int x] [oB h 5 (oF5 v q), aI G (q 0) 140 tx] (fun (u : Unit) => True) (fun u => [oB h 5 (oF5 (upd v 1 (nI (n + 1))) q), aI G (q 0) 140 (upd tx n x)]) 0 0 := by
  refine Cv.of (cc := cX5_append) (maxL := 2) (by decide) rfl (Nat.le_of_ble_eq_true rfl) ?_
  intro pM eM sM mM bM tM cM Q A hx hb hts hown hml hnm hA hK hP hD hS hret ls hl
  have hown : sM.vm.findClass RX5 = some mM.cls := hown
  have hl : lv_has ls 2 [(0, .ref h), (1, .int x)] := hl
  have hin5 : ∀ w ∈ u_ws RX5 TX5 6, w ∈ wsX5_append := by decide +kernel
  have f15 := hts (.fieldLink RX5 15 "HorizonPeaks$Text" "length" "I") (by decide +kernel)
  have f9 := hts (.fieldLink RX5 9 "HorizonPeaks$Text" "letters" "[I") (by decide +kernel)
  refine lv_aload_n hx hb dX5_append_0 rfl (lv_at hl 0 rfl) ?_
  refine va_get (D := G.1) (ci := 5) (v := .int (v 1)) (C := RX5) (T := TX5) (N := 6) hx hb hts hin5 hown hK.1 hP 0 rfl rfl 1 (by decide) f15 (fun _ h9 => h9) rfl dX5_append_1 ?_
  refine top_i (y := nI n) (hv) ?_
  refine lv_sipush (v := 140) hx hb dX5_append_4 (by decide) ?_
  refine lv_icmp_ge (tgt := 30) hx hb dX5_append_7 (by decide) (fun c_7 => ?_) (fun c_7 => ?_)
  · have c_7 : 140 ≤ n := (c_le (a := 140) (b := n) rfl rfl (by omega) (by omega)).mp c_7
    exfalso
    omega
  · have c_7 : ¬ 140 ≤ n := fun hne => c_7 ((c_le (a := 140) (b := n) rfl rfl (by omega) (by omega)).mpr hne)
    refine lv_aload_n hx hb dX5_append_10 rfl (lv_at hl 0 rfl) ?_
    refine va_get (D := G.1) (ci := 5) (v := .ref (q 0)) (C := RX5) (T := TX5) (N := 6) hx hb hts hin5 hown hK.1 hP 0 rfl rfl 0 (by decide) f9 (fun _ h9 => h9) rfl dX5_append_11 ?_
    refine lv_aload_n hx hb dX5_append_14 rfl (lv_at hl 0 rfl) ?_
    refine va_get (D := G.1) (ci := 5) (v := .int (v 1)) (C := RX5) (T := TX5) (N := 6) hx hb hts hin5 hown hK.1 hP 0 rfl rfl 1 (by decide) f15 (fun _ h9 => h9) rfl dX5_append_15 ?_
    refine top_i (y := nI n) (hv) ?_
    refine lv_iload_n hx hb dX5_append_18 rfl (lv_at hl 1 rfl) ?_
    refine as_i hx hb hK.1 hP hD hS 1 0 rfl rfl (j := n) (by omega) (Nat.le_of_ble_eq_true rfl) dX5_append_19 (fun H locs hP hD hS => ?_)
    have hP : va_P G.1 vwCl [oB h 5 (oF5 v q), aI G (q 0) 140 (upd tx n x)] H := hP
    have hD : va_D A [oB h 5 (oF5 v q), aI G (q 0) 140 (upd tx n x)] := hD
    refine lv_aload_n hx hb dX5_append_20 rfl (lv_at hl 0 rfl) ?_
    refine lv_dup hx hb dX5_append_21 rfl ?_
    refine va_get (D := G.1) (ci := 5) (v := .int (v 1)) (C := RX5) (T := TX5) (N := 6) hx hb hts hin5 hown hK.1 hP 0 rfl rfl 1 (by decide) f15 (fun _ h9 => h9) rfl dX5_append_22 ?_
    refine top_i (y := nI n) (hv) ?_
    refine lv_iconst (v := 1) hx hb dX5_append_25 (by decide) ?_
    refine lv_iadd hx hb dX5_append_26 ?_
    refine top_i (y := nI (n + 1)) (nI_1 n) ?_
    refine va_put (D := G.1) (ci := 5) (v := .int (nI (n + 1))) (ty := .int) (C := RX5) (T := TX5) (N := 6) hx hb hts hin5 tyX5 tyX5_ok nmX5 hown hK.1 hP hD hS 0 rfl rfl 1 (by decide) f15 (fun _ h9 => h9) rfl (by decide +kernel) rfl rfl (Nat.le_of_ble_eq_true rfl) dX5_append_27 (fun H locs hP hD hS => ?_)
    have hP : va_P G.1 vwCl [oB h 5 (oF5 (upd v 1 (nI (n + 1))) q), aI G (q 0) 140 (upd tx n x)] H := hP
    have hD : va_D A [oB h 5 (oF5 (upd v 1 (nI (n + 1))) q), aI G (q 0) 140 (upd tx n x)] := hD
    exact hret () _ _ _ _ (trivial) hP hD hS dX5_append_30

abbrev rX5_isFigure : Room := { frames := 0, cells := 0, slots := 0, locals := 0 }
set_option maxHeartbeats 4000000 in
set_option maxRecDepth 100000 in
theorem c_X5_isFigure (l : Launch) (G : kG) (x : Int32) : Ri l G yX5_isFigure wsX5_isFigure rX5_isFigure [.int x] [] (fun r => r = b2i (pFig x)) := by
  refine Ri.of (cc := cX5_isFigure) (maxL := 1) (by decide) rfl (Nat.le_of_ble_eq_true rfl) ?_
  intro pM eM sM mM bM tM cM Q hx hb hts hown hml hP hK hret ls hl
  have hown : sM.vm.findClass RX5 = some mM.cls := hown
  have hl : lv_has ls 1 [(0, .int x)] := hl
  refine lv_iload_n hx hb dX5_isFigure_0 rfl (lv_at hl 0 rfl) ?_
  refine lv_bipush (v := 48) hx hb dX5_isFigure_1 (by decide) ?_
  refine lv_icmp_lt (tgt := 16) hx hb dX5_isFigure_3 (by decide) (fun c_3 => ?_) (fun c_3 => ?_)
  · refine lv_iconst (v := 0) hx hb dX5_isFigure_16 (by decide) ?_
    exact hret _ _ _ (by simp [b2i, pFig, c_3]) (rfl) dX5_isFigure_17
  · refine lv_iload_n hx hb dX5_isFigure_6 rfl (lv_at hl 0 rfl) ?_
    refine lv_bipush (v := 57) hx hb dX5_isFigure_7 (by decide) ?_
    refine lv_icmp_gt (tgt := 16) hx hb dX5_isFigure_9 (by decide) (fun c_9 => ?_) (fun c_9 => ?_)
    · refine lv_iconst (v := 0) hx hb dX5_isFigure_16 (by decide) ?_
      exact hret _ _ _ (by simp [b2i, pFig, c_3, c_9]) (rfl) dX5_isFigure_17
    · refine lv_iconst (v := 1) hx hb dX5_isFigure_12 (by decide) ?_
      refine lv_goto (tgt := 17) hx hb dX5_isFigure_13 (by decide) ?_
      exact hret _ _ _ (by simp [b2i, pFig, c_3, c_9]) (rfl) dX5_isFigure_17
