/-! the law, call by call -/
set_option maxHeartbeats 4000000 in
set_option maxRecDepth 100000 in
theorem lc_mends {p : Program} {l : Launch} {e : Env} {s : State} {m : MethodId} {below : List Frame} {meth : Method} {c : Code} {b L : Nat} {xs : Nat → Int32} {G : kG} {hA : Nat} {a : Nat → Nat} {hM : Nat} {q : Nat → Nat} {i : Nat} {Q : State → Prop} (C0 : lw_At p s m meth c b L xs) (hK : kk G s) (hi : i + 6 ≤ L) (hL : L ≤ 3072) (K : LG p l e s m below meth c b G hA a hM q i Q 984) : LG p l e s m below meth c b G hA a hM q i Q 331 := by
  obtain ⟨hx, hb, hr, hml, hown, hts0, hX, hbl, hlocks, hgv⟩ := C0
  have hts : ∀ w ∈ wsL_law, w.before #[Value.ref b] s = true := fun w h => hts0 w (wsL_law_in w h)
  have hown : s.vm.findClass RL = some m.cls := hown
  have hA9 : ∀ q : Nat, s.heap.size ≤ q → (fun q : Nat => s.heap.size ≤ q) q := fun _ h => h
  have hbA : ¬ (fun q : Nat => s.heap.size ≤ q) b := Nat.not_le.mpr hbl
  intro A X M H locs ls hXI hMI hP hD hS hl
  obtain ⟨σ, N, T, P, C, I⟩ := A
  refine lv_aload_n hx hb dL_law_331 rfl (lv_at hl 1 rfl) ?_
  refine lv_aload_n hx hb dL_law_332 rfl (lv_at hl 0 rfl) ?_
  refine lv_iload_n hx hb dL_law_333 rfl (lv_at hl 3 rfl) ?_
  refine lv_iconst (v := 1) hx hb dL_law_334 (by decide) ?_
  refine lv_iadd hx hb dL_law_335 ?_
  refine top_i (y := nI (i + 1)) (nI_add i 1) ?_
  refine va_sld hx hb hX hbl hbA hS (vp_in_nI (by omega) (by omega)) dL_law_336 ?_
  refine lv_aload_n hx hb dL_law_337 rfl (lv_at hl 0 rfl) ?_
  refine lv_iload_n hx hb dL_law_338 rfl (lv_at hl 3 rfl) ?_
  refine lv_iconst (v := 2) hx hb dL_law_339 (by decide) ?_
  refine lv_iadd hx hb dL_law_340 ?_
  refine top_i (y := nI (i + 2)) (nI_add i 2) ?_
  refine va_sld hx hb hX hbl hbA hS (vp_in_nI (by omega) (by omega)) dL_law_341 ?_
  refine lv_aload_n hx hb dL_law_342 rfl (lv_at hl 0 rfl) ?_
  refine lv_iload_n hx hb dL_law_343 rfl (lv_at hl 3 rfl) ?_
  refine lv_iconst (v := 3) hx hb dL_law_344 (by decide) ?_
  refine lv_iadd hx hb dL_law_345 ?_
  refine top_i (y := nI (i + 3)) (nI_add i 3) ?_
  refine va_sld hx hb hX hbl hbA hS (vp_in_nI (by omega) (by omega)) dL_law_346 ?_
  refine ca_L (wx := XW G hA a X) (wm := MW G hM q M) (va_runV (As := [.int (xs (nI (i + 1)).toNatClampNeg), .int (xs (nI (i + 2)).toNatClampNeg), .int (xs (nI (i + 3)).toNatClampNeg)]) (rest := []) ⟨hx, hb, hml, hown, hts⟩ (x_mends l G hA a X σ N T P C I (xs (nI (i + 1)).toNatClampNeg) (xs (nI (i + 2)).toNatClampNeg) (xs (nI (i + 3)).toNatClampNeg) hXI _) (cwV 3 hts gL_law_X7_mends rfl rfl rfl (by decide +kernel) ⟨Nat.le_of_ble_eq_true rfl, Nat.le_of_ble_eq_true rfl⟩) (cPre_L hK hP hD (nd_L G hA a X) 7 rfl rfl) rfl rfl hl.1 rfl (lv_room (Nat.le_of_ble_eq_true rfl)) dL_law_347 ⟨Nat.le_of_ble_eq_true rfl, Nat.le_of_ble_eq_true rfl⟩) hP hD hS hA9 (nd_R G hA a X hM q M) (fun r1 X1 H locs q1 hP hD hS => ?_)
  refine lv_aload_n hx hb dL_law_350 rfl (lv_at hl 2 rfl) ?_
  refine lv_aload_n hx hb dL_law_351 rfl (lv_at hl 0 rfl) ?_
  refine lv_iload_n hx hb dL_law_352 rfl (lv_at hl 3 rfl) ?_
  refine lv_iconst (v := 1) hx hb dL_law_353 (by decide) ?_
  refine lv_iadd hx hb dL_law_354 ?_
  refine top_i (y := nI (i + 1)) (nI_add i 1) ?_
  refine va_sld hx hb hX hbl hbA hS (vp_in_nI (by omega) (by omega)) dL_law_355 ?_
  refine lv_aload_n hx hb dL_law_356 rfl (lv_at hl 0 rfl) ?_
  refine lv_iload_n hx hb dL_law_357 rfl (lv_at hl 3 rfl) ?_
  refine lv_iconst (v := 2) hx hb dL_law_358 (by decide) ?_
  refine lv_iadd hx hb dL_law_359 ?_
  refine top_i (y := nI (i + 2)) (nI_add i 2) ?_
  refine va_sld hx hb hX hbl hbA hS (vp_in_nI (by omega) (by omega)) dL_law_360 ?_
  refine lv_aload_n hx hb dL_law_361 rfl (lv_at hl 0 rfl) ?_
  refine lv_iload_n hx hb dL_law_362 rfl (lv_at hl 3 rfl) ?_
  refine lv_iconst (v := 3) hx hb dL_law_363 (by decide) ?_
  refine lv_iadd hx hb dL_law_364 ?_
  refine top_i (y := nI (i + 3)) (nI_add i 3) ?_
  refine va_sld hx hb hX hbl hbA hS (vp_in_nI (by omega) (by omega)) dL_law_365 ?_
  refine ca_R (wx := XW G hA a X1) (wm := MW G hM q M) (va_runV (As := [.int (xs (nI (i + 1)).toNatClampNeg), .int (xs (nI (i + 2)).toNatClampNeg), .int (xs (nI (i + 3)).toNatClampNeg)]) (rest := [.int r1]) ⟨hx, hb, hml, hown, hts⟩ (y_mends l G hM q M σ N T P C I (xs (nI (i + 1)).toNatClampNeg) (xs (nI (i + 2)).toNatClampNeg) (xs (nI (i + 3)).toNatClampNeg) hMI _) (cwV 3 hts gL_law_X8_mends rfl rfl rfl (by decide +kernel) ⟨Nat.le_of_ble_eq_true rfl, Nat.le_of_ble_eq_true rfl⟩) (cPre_R hK hP hD (nd_R G hA a X1 hM q M) 8 rfl rfl) rfl rfl hl.1 rfl (lv_room (Nat.le_of_ble_eq_true rfl)) dL_law_366 ⟨Nat.le_of_ble_eq_true rfl, Nat.le_of_ble_eq_true rfl⟩) hP hD hS hA9 (nd_L G hA a X1) (fun r2 M1 H locs q2 hP hD hS => ?_)
  have e12 : r1 = r2 := q1.1.trans q2.1.symm
  refine lv_icmp_eq (tgt := 984) hx hb dL_law_369 (by decide) (fun c9 => ?_) (fun c9 => ?_)
  · exact K _ _ _ _ _ _ q1.2 q2.2 hP hD hS hl
  · exact absurd e12 c9
set_option maxHeartbeats 4000000 in
set_option maxRecDepth 100000 in
theorem lc_sketches {p : Program} {l : Launch} {e : Env} {s : State} {m : MethodId} {below : List Frame} {meth : Method} {c : Code} {b L : Nat} {xs : Nat → Int32} {G : kG} {hA : Nat} {a : Nat → Nat} {hM : Nat} {q : Nat → Nat} {i : Nat} {Q : State → Prop} (C0 : lw_At p s m meth c b L xs) (hK : kk G s) (hi : i + 6 ≤ L) (hL : L ≤ 3072) (K : LG p l e s m below meth c b G hA a hM q i Q 984) : LG p l e s m below meth c b G hA a hM q i Q 374 := by
  obtain ⟨hx, hb, hr, hml, hown, hts0, hX, hbl, hlocks, hgv⟩ := C0
  have hts : ∀ w ∈ wsL_law, w.before #[Value.ref b] s = true := fun w h => hts0 w (wsL_law_in w h)
  have hown : s.vm.findClass RL = some m.cls := hown
  have hA9 : ∀ q : Nat, s.heap.size ≤ q → (fun q : Nat => s.heap.size ≤ q) q := fun _ h => h
  have hbA : ¬ (fun q : Nat => s.heap.size ≤ q) b := Nat.not_le.mpr hbl
  intro A X M H locs ls hXI hMI hP hD hS hl
  obtain ⟨σ, N, T, P, C, I⟩ := A
  refine lv_aload_n hx hb dL_law_374 rfl (lv_at hl 1 rfl) ?_
  refine lv_aload_n hx hb dL_law_375 rfl (lv_at hl 0 rfl) ?_
  refine lv_iload_n hx hb dL_law_376 rfl (lv_at hl 3 rfl) ?_
  refine lv_iconst (v := 1) hx hb dL_law_377 (by decide) ?_
  refine lv_iadd hx hb dL_law_378 ?_
  refine top_i (y := nI (i + 1)) (nI_add i 1) ?_
  refine va_sld hx hb hX hbl hbA hS (vp_in_nI (by omega) (by omega)) dL_law_379 ?_
  refine lv_aload_n hx hb dL_law_380 rfl (lv_at hl 0 rfl) ?_
  refine lv_iload_n hx hb dL_law_381 rfl (lv_at hl 3 rfl) ?_
  refine lv_iconst (v := 2) hx hb dL_law_382 (by decide) ?_
  refine lv_iadd hx hb dL_law_383 ?_
  refine top_i (y := nI (i + 2)) (nI_add i 2) ?_
  refine va_sld hx hb hX hbl hbA hS (vp_in_nI (by omega) (by omega)) dL_law_384 ?_
  refine lv_aload_n hx hb dL_law_385 rfl (lv_at hl 0 rfl) ?_
  refine lv_iload_n hx hb dL_law_386 rfl (lv_at hl 3 rfl) ?_
  refine lv_iconst (v := 3) hx hb dL_law_387 (by decide) ?_
  refine lv_iadd hx hb dL_law_388 ?_
  refine top_i (y := nI (i + 3)) (nI_add i 3) ?_
  refine va_sld hx hb hX hbl hbA hS (vp_in_nI (by omega) (by omega)) dL_law_389 ?_
  refine ca_L (wx := XW G hA a X) (wm := MW G hM q M) (va_runV (As := [.int (xs (nI (i + 1)).toNatClampNeg), .int (xs (nI (i + 2)).toNatClampNeg), .int (xs (nI (i + 3)).toNatClampNeg)]) (rest := []) ⟨hx, hb, hml, hown, hts⟩ (x_sketches l G hA a X σ N T P C I (xs (nI (i + 1)).toNatClampNeg) (xs (nI (i + 2)).toNatClampNeg) (xs (nI (i + 3)).toNatClampNeg) hXI _) (cwV 3 hts gL_law_X7_sketches rfl rfl rfl (by decide +kernel) ⟨Nat.le_of_ble_eq_true rfl, Nat.le_of_ble_eq_true rfl⟩) (cPre_L hK hP hD (nd_L G hA a X) 7 rfl rfl) rfl rfl hl.1 rfl (lv_room (Nat.le_of_ble_eq_true rfl)) dL_law_390 ⟨Nat.le_of_ble_eq_true rfl, Nat.le_of_ble_eq_true rfl⟩) hP hD hS hA9 (nd_R G hA a X hM q M) (fun r1 X1 H locs q1 hP hD hS => ?_)
  refine lv_aload_n hx hb dL_law_393 rfl (lv_at hl 2 rfl) ?_
  refine lv_aload_n hx hb dL_law_394 rfl (lv_at hl 0 rfl) ?_
  refine lv_iload_n hx hb dL_law_395 rfl (lv_at hl 3 rfl) ?_
  refine lv_iconst (v := 1) hx hb dL_law_396 (by decide) ?_
  refine lv_iadd hx hb dL_law_397 ?_
  refine top_i (y := nI (i + 1)) (nI_add i 1) ?_
  refine va_sld hx hb hX hbl hbA hS (vp_in_nI (by omega) (by omega)) dL_law_398 ?_
  refine lv_aload_n hx hb dL_law_399 rfl (lv_at hl 0 rfl) ?_
  refine lv_iload_n hx hb dL_law_400 rfl (lv_at hl 3 rfl) ?_
  refine lv_iconst (v := 2) hx hb dL_law_401 (by decide) ?_
  refine lv_iadd hx hb dL_law_402 ?_
  refine top_i (y := nI (i + 2)) (nI_add i 2) ?_
  refine va_sld hx hb hX hbl hbA hS (vp_in_nI (by omega) (by omega)) dL_law_403 ?_
  refine lv_aload_n hx hb dL_law_404 rfl (lv_at hl 0 rfl) ?_
  refine lv_iload_n hx hb dL_law_405 rfl (lv_at hl 3 rfl) ?_
  refine lv_iconst (v := 3) hx hb dL_law_406 (by decide) ?_
  refine lv_iadd hx hb dL_law_407 ?_
  refine top_i (y := nI (i + 3)) (nI_add i 3) ?_
  refine va_sld hx hb hX hbl hbA hS (vp_in_nI (by omega) (by omega)) dL_law_408 ?_
  refine ca_R (wx := XW G hA a X1) (wm := MW G hM q M) (va_runV (As := [.int (xs (nI (i + 1)).toNatClampNeg), .int (xs (nI (i + 2)).toNatClampNeg), .int (xs (nI (i + 3)).toNatClampNeg)]) (rest := [.int r1]) ⟨hx, hb, hml, hown, hts⟩ (y_sketches l G hM q M σ N T P C I (xs (nI (i + 1)).toNatClampNeg) (xs (nI (i + 2)).toNatClampNeg) (xs (nI (i + 3)).toNatClampNeg) hMI _) (cwV 3 hts gL_law_X8_sketches rfl rfl rfl (by decide +kernel) ⟨Nat.le_of_ble_eq_true rfl, Nat.le_of_ble_eq_true rfl⟩) (cPre_R hK hP hD (nd_R G hA a X1 hM q M) 8 rfl rfl) rfl rfl hl.1 rfl (lv_room (Nat.le_of_ble_eq_true rfl)) dL_law_409 ⟨Nat.le_of_ble_eq_true rfl, Nat.le_of_ble_eq_true rfl⟩) hP hD hS hA9 (nd_L G hA a X1) (fun r2 M1 H locs q2 hP hD hS => ?_)
  have e12 : r1 = r2 := q1.1.trans q2.1.symm
  refine lv_icmp_eq (tgt := 984) hx hb dL_law_412 (by decide) (fun c9 => ?_) (fun c9 => ?_)
  · exact K _ _ _ _ _ _ q1.2 q2.2 hP hD hS hl
  · exact absurd e12 c9
set_option maxHeartbeats 4000000 in
set_option maxRecDepth 100000 in
theorem lc_undo {p : Program} {l : Launch} {e : Env} {s : State} {m : MethodId} {below : List Frame} {meth : Method} {c : Code} {b L : Nat} {xs : Nat → Int32} {G : kG} {hA : Nat} {a : Nat → Nat} {hM : Nat} {q : Nat → Nat} {i : Nat} {Q : State → Prop} (C0 : lw_At p s m meth c b L xs) (hK : kk G s) (hi : i + 6 ≤ L) (hL : L ≤ 3072) (K : LG p l e s m below meth c b G hA a hM q i Q 984) : LG p l e s m below meth c b G hA a hM q i Q 417 := by
  obtain ⟨hx, hb, hr, hml, hown, hts0, hX, hbl, hlocks, hgv⟩ := C0
  have hts : ∀ w ∈ wsL_law, w.before #[Value.ref b] s = true := fun w h => hts0 w (wsL_law_in w h)
  have hown : s.vm.findClass RL = some m.cls := hown
  have hA9 : ∀ q : Nat, s.heap.size ≤ q → (fun q : Nat => s.heap.size ≤ q) q := fun _ h => h
  have hbA : ¬ (fun q : Nat => s.heap.size ≤ q) b := Nat.not_le.mpr hbl
  intro A X M H locs ls hXI hMI hP hD hS hl
  obtain ⟨σ, N, T, P, C, I⟩ := A
  refine lv_aload_n hx hb dL_law_417 rfl (lv_at hl 1 rfl) ?_
  refine ca_L (wx := XW G hA a X) (wm := MW G hM q M) (va_runV (As := []) (rest := []) ⟨hx, hb, hml, hown, hts⟩ (x_undo l G hA a X σ N T P C I hXI _) (cwV 0 hts gL_law_X7_undo rfl rfl rfl (by decide +kernel) ⟨Nat.le_of_ble_eq_true rfl, Nat.le_of_ble_eq_true rfl⟩) (cPre_L hK hP hD (nd_L G hA a X) 7 rfl rfl) rfl rfl hl.1 rfl (lv_room (Nat.le_of_ble_eq_true rfl)) dL_law_418 ⟨Nat.le_of_ble_eq_true rfl, Nat.le_of_ble_eq_true rfl⟩) hP hD hS hA9 (nd_R G hA a X hM q M) (fun r1 X1 H locs q1 hP hD hS => ?_)
  refine lv_aload_n hx hb dL_law_421 rfl (lv_at hl 2 rfl) ?_
  refine ca_R (wx := XW G hA a X1) (wm := MW G hM q M) (va_runV (As := []) (rest := [.int r1]) ⟨hx, hb, hml, hown, hts⟩ (y_undo l G hM q M σ N T P C I hMI _) (cwV 0 hts gL_law_X8_undo rfl rfl rfl (by decide +kernel) ⟨Nat.le_of_ble_eq_true rfl, Nat.le_of_ble_eq_true rfl⟩) (cPre_R hK hP hD (nd_R G hA a X1 hM q M) 8 rfl rfl) rfl rfl hl.1 rfl (lv_room (Nat.le_of_ble_eq_true rfl)) dL_law_422 ⟨Nat.le_of_ble_eq_true rfl, Nat.le_of_ble_eq_true rfl⟩) hP hD hS hA9 (nd_L G hA a X1) (fun r2 M1 H locs q2 hP hD hS => ?_)
  have e12 : r1 = r2 := q1.1.trans q2.1.symm
  refine lv_icmp_eq (tgt := 984) hx hb dL_law_425 (by decide) (fun c9 => ?_) (fun c9 => ?_)
  · exact K _ _ _ _ _ _ q1.2 q2.2 hP hD hS hl
  · exact absurd e12 c9
set_option maxHeartbeats 4000000 in
set_option maxRecDepth 100000 in
theorem lc_seen {p : Program} {l : Launch} {e : Env} {s : State} {m : MethodId} {below : List Frame} {meth : Method} {c : Code} {b L : Nat} {xs : Nat → Int32} {G : kG} {hA : Nat} {a : Nat → Nat} {hM : Nat} {q : Nat → Nat} {i : Nat} {Q : State → Prop} (C0 : lw_At p s m meth c b L xs) (hK : kk G s) (hi : i + 6 ≤ L) (hL : L ≤ 3072) (K : LG p l e s m below meth c b G hA a hM q i Q 984) : LG p l e s m below meth c b G hA a hM q i Q 430 := by
  obtain ⟨hx, hb, hr, hml, hown, hts0, hX, hbl, hlocks, hgv⟩ := C0
  have hts : ∀ w ∈ wsL_law, w.before #[Value.ref b] s = true := fun w h => hts0 w (wsL_law_in w h)
  have hown : s.vm.findClass RL = some m.cls := hown
  have hA9 : ∀ q : Nat, s.heap.size ≤ q → (fun q : Nat => s.heap.size ≤ q) q := fun _ h => h
  have hbA : ¬ (fun q : Nat => s.heap.size ≤ q) b := Nat.not_le.mpr hbl
  intro A X M H locs ls hXI hMI hP hD hS hl
  obtain ⟨σ, N, T, P, C, I⟩ := A
  refine lv_aload_n hx hb dL_law_430 rfl (lv_at hl 1 rfl) ?_
  refine lv_aload_n hx hb dL_law_431 rfl (lv_at hl 0 rfl) ?_
  refine lv_iload_n hx hb dL_law_432 rfl (lv_at hl 3 rfl) ?_
  refine lv_iconst (v := 1) hx hb dL_law_433 (by decide) ?_
  refine lv_iadd hx hb dL_law_434 ?_
  refine top_i (y := nI (i + 1)) (nI_add i 1) ?_
  refine va_sld hx hb hX hbl hbA hS (vp_in_nI (by omega) (by omega)) dL_law_435 ?_
  refine lv_aload_n hx hb dL_law_436 rfl (lv_at hl 0 rfl) ?_
  refine lv_iload_n hx hb dL_law_437 rfl (lv_at hl 3 rfl) ?_
  refine lv_iconst (v := 2) hx hb dL_law_438 (by decide) ?_
  refine lv_iadd hx hb dL_law_439 ?_
  refine top_i (y := nI (i + 2)) (nI_add i 2) ?_
  refine va_sld hx hb hX hbl hbA hS (vp_in_nI (by omega) (by omega)) dL_law_440 ?_
  refine lv_aload_n hx hb dL_law_441 rfl (lv_at hl 0 rfl) ?_
  refine lv_iload_n hx hb dL_law_442 rfl (lv_at hl 3 rfl) ?_
  refine lv_iconst (v := 3) hx hb dL_law_443 (by decide) ?_
  refine lv_iadd hx hb dL_law_444 ?_
  refine top_i (y := nI (i + 3)) (nI_add i 3) ?_
  refine va_sld hx hb hX hbl hbA hS (vp_in_nI (by omega) (by omega)) dL_law_445 ?_
  refine ca_L (wx := XW G hA a X) (wm := MW G hM q M) (va_runV (As := [.int (xs (nI (i + 1)).toNatClampNeg), .int (xs (nI (i + 2)).toNatClampNeg), .int (xs (nI (i + 3)).toNatClampNeg)]) (rest := []) ⟨hx, hb, hml, hown, hts⟩ (x_seen l G hA a X σ N T P C I (xs (nI (i + 1)).toNatClampNeg) (xs (nI (i + 2)).toNatClampNeg) (xs (nI (i + 3)).toNatClampNeg) hXI _) (cwV 3 hts gL_law_X7_seen rfl rfl rfl (by decide +kernel) ⟨Nat.le_of_ble_eq_true rfl, Nat.le_of_ble_eq_true rfl⟩) (cPre_L hK hP hD (nd_L G hA a X) 7 rfl rfl) rfl rfl hl.1 rfl (lv_room (Nat.le_of_ble_eq_true rfl)) dL_law_446 ⟨Nat.le_of_ble_eq_true rfl, Nat.le_of_ble_eq_true rfl⟩) hP hD hS hA9 (nd_R G hA a X hM q M) (fun r1 X1 H locs q1 hP hD hS => ?_)
  refine lv_aload_n hx hb dL_law_449 rfl (lv_at hl 2 rfl) ?_
  refine lv_aload_n hx hb dL_law_450 rfl (lv_at hl 0 rfl) ?_
  refine lv_iload_n hx hb dL_law_451 rfl (lv_at hl 3 rfl) ?_
  refine lv_iconst (v := 1) hx hb dL_law_452 (by decide) ?_
  refine lv_iadd hx hb dL_law_453 ?_
  refine top_i (y := nI (i + 1)) (nI_add i 1) ?_
  refine va_sld hx hb hX hbl hbA hS (vp_in_nI (by omega) (by omega)) dL_law_454 ?_
  refine lv_aload_n hx hb dL_law_455 rfl (lv_at hl 0 rfl) ?_
  refine lv_iload_n hx hb dL_law_456 rfl (lv_at hl 3 rfl) ?_
  refine lv_iconst (v := 2) hx hb dL_law_457 (by decide) ?_
  refine lv_iadd hx hb dL_law_458 ?_
  refine top_i (y := nI (i + 2)) (nI_add i 2) ?_
  refine va_sld hx hb hX hbl hbA hS (vp_in_nI (by omega) (by omega)) dL_law_459 ?_
  refine lv_aload_n hx hb dL_law_460 rfl (lv_at hl 0 rfl) ?_
  refine lv_iload_n hx hb dL_law_461 rfl (lv_at hl 3 rfl) ?_
  refine lv_iconst (v := 3) hx hb dL_law_462 (by decide) ?_
  refine lv_iadd hx hb dL_law_463 ?_
  refine top_i (y := nI (i + 3)) (nI_add i 3) ?_
  refine va_sld hx hb hX hbl hbA hS (vp_in_nI (by omega) (by omega)) dL_law_464 ?_
  refine ca_R (wx := XW G hA a X1) (wm := MW G hM q M) (va_runV (As := [.int (xs (nI (i + 1)).toNatClampNeg), .int (xs (nI (i + 2)).toNatClampNeg), .int (xs (nI (i + 3)).toNatClampNeg)]) (rest := [.int r1]) ⟨hx, hb, hml, hown, hts⟩ (y_seen l G hM q M σ N T P C I (xs (nI (i + 1)).toNatClampNeg) (xs (nI (i + 2)).toNatClampNeg) (xs (nI (i + 3)).toNatClampNeg) hMI _) (cwV 3 hts gL_law_X8_seen rfl rfl rfl (by decide +kernel) ⟨Nat.le_of_ble_eq_true rfl, Nat.le_of_ble_eq_true rfl⟩) (cPre_R hK hP hD (nd_R G hA a X1 hM q M) 8 rfl rfl) rfl rfl hl.1 rfl (lv_room (Nat.le_of_ble_eq_true rfl)) dL_law_465 ⟨Nat.le_of_ble_eq_true rfl, Nat.le_of_ble_eq_true rfl⟩) hP hD hS hA9 (nd_L G hA a X1) (fun r2 M1 H locs q2 hP hD hS => ?_)
  have e12 : r1 = r2 := q1.1.trans q2.1.symm
  refine lv_icmp_eq (tgt := 984) hx hb dL_law_468 (by decide) (fun c9 => ?_) (fun c9 => ?_)
  · exact K _ _ _ _ _ _ q1.2 q2.2 hP hD hS hl
  · exact absurd e12 c9
set_option maxHeartbeats 4000000 in
set_option maxRecDepth 100000 in
theorem lc_bearing {p : Program} {l : Launch} {e : Env} {s : State} {m : MethodId} {below : List Frame} {meth : Method} {c : Code} {b L : Nat} {xs : Nat → Int32} {G : kG} {hA : Nat} {a : Nat → Nat} {hM : Nat} {q : Nat → Nat} {i : Nat} {Q : State → Prop} (C0 : lw_At p s m meth c b L xs) (hK : kk G s) (hi : i + 6 ≤ L) (hL : L ≤ 3072) (K : LG p l e s m below meth c b G hA a hM q i Q 984) : LG p l e s m below meth c b G hA a hM q i Q 473 := by
  obtain ⟨hx, hb, hr, hml, hown, hts0, hX, hbl, hlocks, hgv⟩ := C0
  have hts : ∀ w ∈ wsL_law, w.before #[Value.ref b] s = true := fun w h => hts0 w (wsL_law_in w h)
  have hown : s.vm.findClass RL = some m.cls := hown
  have hA9 : ∀ q : Nat, s.heap.size ≤ q → (fun q : Nat => s.heap.size ≤ q) q := fun _ h => h
  have hbA : ¬ (fun q : Nat => s.heap.size ≤ q) b := Nat.not_le.mpr hbl
  intro A X M H locs ls hXI hMI hP hD hS hl
  obtain ⟨σ, N, T, P, C, I⟩ := A
  refine lv_aload_n hx hb dL_law_473 rfl (lv_at hl 1 rfl) ?_
  refine lv_aload_n hx hb dL_law_474 rfl (lv_at hl 0 rfl) ?_
  refine lv_iload_n hx hb dL_law_475 rfl (lv_at hl 3 rfl) ?_
  refine lv_iconst (v := 1) hx hb dL_law_476 (by decide) ?_
  refine lv_iadd hx hb dL_law_477 ?_
  refine top_i (y := nI (i + 1)) (nI_add i 1) ?_
  refine va_sld hx hb hX hbl hbA hS (vp_in_nI (by omega) (by omega)) dL_law_478 ?_
  refine lv_aload_n hx hb dL_law_479 rfl (lv_at hl 0 rfl) ?_
  refine lv_iload_n hx hb dL_law_480 rfl (lv_at hl 3 rfl) ?_
  refine lv_iconst (v := 2) hx hb dL_law_481 (by decide) ?_
  refine lv_iadd hx hb dL_law_482 ?_
  refine top_i (y := nI (i + 2)) (nI_add i 2) ?_
  refine va_sld hx hb hX hbl hbA hS (vp_in_nI (by omega) (by omega)) dL_law_483 ?_
  refine lv_aload_n hx hb dL_law_484 rfl (lv_at hl 0 rfl) ?_
  refine lv_iload_n hx hb dL_law_485 rfl (lv_at hl 3 rfl) ?_
  refine lv_iconst (v := 3) hx hb dL_law_486 (by decide) ?_
  refine lv_iadd hx hb dL_law_487 ?_
  refine top_i (y := nI (i + 3)) (nI_add i 3) ?_
  refine va_sld hx hb hX hbl hbA hS (vp_in_nI (by omega) (by omega)) dL_law_488 ?_
  refine ca_L (wx := XW G hA a X) (wm := MW G hM q M) (va_runV (As := [.int (xs (nI (i + 1)).toNatClampNeg), .int (xs (nI (i + 2)).toNatClampNeg), .int (xs (nI (i + 3)).toNatClampNeg)]) (rest := []) ⟨hx, hb, hml, hown, hts⟩ (x_bearing l G hA a X σ N T P C I (xs (nI (i + 1)).toNatClampNeg) (xs (nI (i + 2)).toNatClampNeg) (xs (nI (i + 3)).toNatClampNeg) hXI _) (cwV 3 hts gL_law_X7_bearing rfl rfl rfl (by decide +kernel) ⟨Nat.le_of_ble_eq_true rfl, Nat.le_of_ble_eq_true rfl⟩) (cPre_L hK hP hD (nd_L G hA a X) 7 rfl rfl) rfl rfl hl.1 rfl (lv_room (Nat.le_of_ble_eq_true rfl)) dL_law_489 ⟨Nat.le_of_ble_eq_true rfl, Nat.le_of_ble_eq_true rfl⟩) hP hD hS hA9 (nd_R G hA a X hM q M) (fun r1 X1 H locs q1 hP hD hS => ?_)
  refine lv_aload_n hx hb dL_law_492 rfl (lv_at hl 2 rfl) ?_
  refine lv_aload_n hx hb dL_law_493 rfl (lv_at hl 0 rfl) ?_
  refine lv_iload_n hx hb dL_law_494 rfl (lv_at hl 3 rfl) ?_
  refine lv_iconst (v := 1) hx hb dL_law_495 (by decide) ?_
  refine lv_iadd hx hb dL_law_496 ?_
  refine top_i (y := nI (i + 1)) (nI_add i 1) ?_
  refine va_sld hx hb hX hbl hbA hS (vp_in_nI (by omega) (by omega)) dL_law_497 ?_
  refine lv_aload_n hx hb dL_law_498 rfl (lv_at hl 0 rfl) ?_
  refine lv_iload_n hx hb dL_law_499 rfl (lv_at hl 3 rfl) ?_
  refine lv_iconst (v := 2) hx hb dL_law_500 (by decide) ?_
  refine lv_iadd hx hb dL_law_501 ?_
  refine top_i (y := nI (i + 2)) (nI_add i 2) ?_
  refine va_sld hx hb hX hbl hbA hS (vp_in_nI (by omega) (by omega)) dL_law_502 ?_
  refine lv_aload_n hx hb dL_law_503 rfl (lv_at hl 0 rfl) ?_
  refine lv_iload_n hx hb dL_law_504 rfl (lv_at hl 3 rfl) ?_
  refine lv_iconst (v := 3) hx hb dL_law_505 (by decide) ?_
  refine lv_iadd hx hb dL_law_506 ?_
  refine top_i (y := nI (i + 3)) (nI_add i 3) ?_
  refine va_sld hx hb hX hbl hbA hS (vp_in_nI (by omega) (by omega)) dL_law_507 ?_
  refine ca_R (wx := XW G hA a X1) (wm := MW G hM q M) (va_runV (As := [.int (xs (nI (i + 1)).toNatClampNeg), .int (xs (nI (i + 2)).toNatClampNeg), .int (xs (nI (i + 3)).toNatClampNeg)]) (rest := [.int r1]) ⟨hx, hb, hml, hown, hts⟩ (y_bearing l G hM q M σ N T P C I (xs (nI (i + 1)).toNatClampNeg) (xs (nI (i + 2)).toNatClampNeg) (xs (nI (i + 3)).toNatClampNeg) hMI _) (cwV 3 hts gL_law_X8_bearing rfl rfl rfl (by decide +kernel) ⟨Nat.le_of_ble_eq_true rfl, Nat.le_of_ble_eq_true rfl⟩) (cPre_R hK hP hD (nd_R G hA a X1 hM q M) 8 rfl rfl) rfl rfl hl.1 rfl (lv_room (Nat.le_of_ble_eq_true rfl)) dL_law_508 ⟨Nat.le_of_ble_eq_true rfl, Nat.le_of_ble_eq_true rfl⟩) hP hD hS hA9 (nd_L G hA a X1) (fun r2 M1 H locs q2 hP hD hS => ?_)
  have e12 : r1 = r2 := q1.1.trans q2.1.symm
  refine lv_icmp_eq (tgt := 984) hx hb dL_law_511 (by decide) (fun c9 => ?_) (fun c9 => ?_)
  · exact K _ _ _ _ _ _ q1.2 q2.2 hP hD hS hl
  · exact absurd e12 c9
set_option maxHeartbeats 4000000 in
set_option maxRecDepth 100000 in
theorem lc_stands {p : Program} {l : Launch} {e : Env} {s : State} {m : MethodId} {below : List Frame} {meth : Method} {c : Code} {b L : Nat} {xs : Nat → Int32} {G : kG} {hA : Nat} {a : Nat → Nat} {hM : Nat} {q : Nat → Nat} {i : Nat} {Q : State → Prop} (C0 : lw_At p s m meth c b L xs) (hK : kk G s) (hi : i + 6 ≤ L) (hL : L ≤ 3072) (K : LG p l e s m below meth c b G hA a hM q i Q 984) : LG p l e s m below meth c b G hA a hM q i Q 516 := by
  obtain ⟨hx, hb, hr, hml, hown, hts0, hX, hbl, hlocks, hgv⟩ := C0
  have hts : ∀ w ∈ wsL_law, w.before #[Value.ref b] s = true := fun w h => hts0 w (wsL_law_in w h)
  have hown : s.vm.findClass RL = some m.cls := hown
  have hA9 : ∀ q : Nat, s.heap.size ≤ q → (fun q : Nat => s.heap.size ≤ q) q := fun _ h => h
  have hbA : ¬ (fun q : Nat => s.heap.size ≤ q) b := Nat.not_le.mpr hbl
  intro A X M H locs ls hXI hMI hP hD hS hl
  obtain ⟨σ, N, T, P, C, I⟩ := A
  refine lv_aload_n hx hb dL_law_516 rfl (lv_at hl 1 rfl) ?_
  refine lv_aload_n hx hb dL_law_517 rfl (lv_at hl 0 rfl) ?_
  refine lv_iload_n hx hb dL_law_518 rfl (lv_at hl 3 rfl) ?_
  refine lv_iconst (v := 1) hx hb dL_law_519 (by decide) ?_
  refine lv_iadd hx hb dL_law_520 ?_
  refine top_i (y := nI (i + 1)) (nI_add i 1) ?_
  refine va_sld hx hb hX hbl hbA hS (vp_in_nI (by omega) (by omega)) dL_law_521 ?_
  refine lv_aload_n hx hb dL_law_522 rfl (lv_at hl 0 rfl) ?_
  refine lv_iload_n hx hb dL_law_523 rfl (lv_at hl 3 rfl) ?_
  refine lv_iconst (v := 2) hx hb dL_law_524 (by decide) ?_
  refine lv_iadd hx hb dL_law_525 ?_
  refine top_i (y := nI (i + 2)) (nI_add i 2) ?_
  refine va_sld hx hb hX hbl hbA hS (vp_in_nI (by omega) (by omega)) dL_law_526 ?_
  refine lv_aload_n hx hb dL_law_527 rfl (lv_at hl 0 rfl) ?_
  refine lv_iload_n hx hb dL_law_528 rfl (lv_at hl 3 rfl) ?_
  refine lv_iconst (v := 3) hx hb dL_law_529 (by decide) ?_
  refine lv_iadd hx hb dL_law_530 ?_
  refine top_i (y := nI (i + 3)) (nI_add i 3) ?_
  refine va_sld hx hb hX hbl hbA hS (vp_in_nI (by omega) (by omega)) dL_law_531 ?_
  refine ca_L (wx := XW G hA a X) (wm := MW G hM q M) (va_runV (As := [.int (xs (nI (i + 1)).toNatClampNeg), .int (xs (nI (i + 2)).toNatClampNeg), .int (xs (nI (i + 3)).toNatClampNeg)]) (rest := []) ⟨hx, hb, hml, hown, hts⟩ (x_stands l G hA a X σ N T P C I (xs (nI (i + 1)).toNatClampNeg) (xs (nI (i + 2)).toNatClampNeg) (xs (nI (i + 3)).toNatClampNeg) hXI _) (cwV 3 hts gL_law_X7_stands rfl rfl rfl (by decide +kernel) ⟨Nat.le_of_ble_eq_true rfl, Nat.le_of_ble_eq_true rfl⟩) (cPre_L hK hP hD (nd_L G hA a X) 7 rfl rfl) rfl rfl hl.1 rfl (lv_room (Nat.le_of_ble_eq_true rfl)) dL_law_532 ⟨Nat.le_of_ble_eq_true rfl, Nat.le_of_ble_eq_true rfl⟩) hP hD hS hA9 (nd_R G hA a X hM q M) (fun r1 X1 H locs q1 hP hD hS => ?_)
  refine lv_aload_n hx hb dL_law_535 rfl (lv_at hl 2 rfl) ?_
  refine lv_aload_n hx hb dL_law_536 rfl (lv_at hl 0 rfl) ?_
  refine lv_iload_n hx hb dL_law_537 rfl (lv_at hl 3 rfl) ?_
  refine lv_iconst (v := 1) hx hb dL_law_538 (by decide) ?_
  refine lv_iadd hx hb dL_law_539 ?_
  refine top_i (y := nI (i + 1)) (nI_add i 1) ?_
  refine va_sld hx hb hX hbl hbA hS (vp_in_nI (by omega) (by omega)) dL_law_540 ?_
  refine lv_aload_n hx hb dL_law_541 rfl (lv_at hl 0 rfl) ?_
  refine lv_iload_n hx hb dL_law_542 rfl (lv_at hl 3 rfl) ?_
  refine lv_iconst (v := 2) hx hb dL_law_543 (by decide) ?_
  refine lv_iadd hx hb dL_law_544 ?_
  refine top_i (y := nI (i + 2)) (nI_add i 2) ?_
  refine va_sld hx hb hX hbl hbA hS (vp_in_nI (by omega) (by omega)) dL_law_545 ?_
  refine lv_aload_n hx hb dL_law_546 rfl (lv_at hl 0 rfl) ?_
  refine lv_iload_n hx hb dL_law_547 rfl (lv_at hl 3 rfl) ?_
  refine lv_iconst (v := 3) hx hb dL_law_548 (by decide) ?_
  refine lv_iadd hx hb dL_law_549 ?_
  refine top_i (y := nI (i + 3)) (nI_add i 3) ?_
  refine va_sld hx hb hX hbl hbA hS (vp_in_nI (by omega) (by omega)) dL_law_550 ?_
  refine ca_R (wx := XW G hA a X1) (wm := MW G hM q M) (va_runV (As := [.int (xs (nI (i + 1)).toNatClampNeg), .int (xs (nI (i + 2)).toNatClampNeg), .int (xs (nI (i + 3)).toNatClampNeg)]) (rest := [.int r1]) ⟨hx, hb, hml, hown, hts⟩ (y_stands l G hM q M σ N T P C I (xs (nI (i + 1)).toNatClampNeg) (xs (nI (i + 2)).toNatClampNeg) (xs (nI (i + 3)).toNatClampNeg) hMI _) (cwV 3 hts gL_law_X8_stands rfl rfl rfl (by decide +kernel) ⟨Nat.le_of_ble_eq_true rfl, Nat.le_of_ble_eq_true rfl⟩) (cPre_R hK hP hD (nd_R G hA a X1 hM q M) 8 rfl rfl) rfl rfl hl.1 rfl (lv_room (Nat.le_of_ble_eq_true rfl)) dL_law_551 ⟨Nat.le_of_ble_eq_true rfl, Nat.le_of_ble_eq_true rfl⟩) hP hD hS hA9 (nd_L G hA a X1) (fun r2 M1 H locs q2 hP hD hS => ?_)
  have e12 : r1 = r2 := q1.1.trans q2.1.symm
  refine lv_icmp_eq (tgt := 984) hx hb dL_law_554 (by decide) (fun c9 => ?_) (fun c9 => ?_)
  · exact K _ _ _ _ _ _ q1.2 q2.2 hP hD hS hl
  · exact absurd e12 c9
set_option maxHeartbeats 4000000 in
set_option maxRecDepth 100000 in
theorem lc_panorama {p : Program} {l : Launch} {e : Env} {s : State} {m : MethodId} {below : List Frame} {meth : Method} {c : Code} {b L : Nat} {xs : Nat → Int32} {G : kG} {hA : Nat} {a : Nat → Nat} {hM : Nat} {q : Nat → Nat} {i : Nat} {Q : State → Prop} (C0 : lw_At p s m meth c b L xs) (hK : kk G s) (hi : i + 6 ≤ L) (hL : L ≤ 3072) (K : LG p l e s m below meth c b G hA a hM q i Q 984) : LG p l e s m below meth c b G hA a hM q i Q 559 := by
  obtain ⟨hx, hb, hr, hml, hown, hts0, hX, hbl, hlocks, hgv⟩ := C0
  have hts : ∀ w ∈ wsL_law, w.before #[Value.ref b] s = true := fun w h => hts0 w (wsL_law_in w h)
  have hown : s.vm.findClass RL = some m.cls := hown
  have hA9 : ∀ q : Nat, s.heap.size ≤ q → (fun q : Nat => s.heap.size ≤ q) q := fun _ h => h
  have hbA : ¬ (fun q : Nat => s.heap.size ≤ q) b := Nat.not_le.mpr hbl
  intro A X M H locs ls hXI hMI hP hD hS hl
  obtain ⟨σ, N, T, P, C, I⟩ := A
  refine lv_aload_n hx hb dL_law_559 rfl (lv_at hl 1 rfl) ?_
  refine lv_aload_n hx hb dL_law_560 rfl (lv_at hl 0 rfl) ?_
  refine lv_iload_n hx hb dL_law_561 rfl (lv_at hl 3 rfl) ?_
  refine lv_iconst (v := 1) hx hb dL_law_562 (by decide) ?_
  refine lv_iadd hx hb dL_law_563 ?_
  refine top_i (y := nI (i + 1)) (nI_add i 1) ?_
  refine va_sld hx hb hX hbl hbA hS (vp_in_nI (by omega) (by omega)) dL_law_564 ?_
  refine lv_aload_n hx hb dL_law_565 rfl (lv_at hl 0 rfl) ?_
  refine lv_iload_n hx hb dL_law_566 rfl (lv_at hl 3 rfl) ?_
  refine lv_iconst (v := 2) hx hb dL_law_567 (by decide) ?_
  refine lv_iadd hx hb dL_law_568 ?_
  refine top_i (y := nI (i + 2)) (nI_add i 2) ?_
  refine va_sld hx hb hX hbl hbA hS (vp_in_nI (by omega) (by omega)) dL_law_569 ?_
  refine lv_aload_n hx hb dL_law_570 rfl (lv_at hl 0 rfl) ?_
  refine lv_iload_n hx hb dL_law_571 rfl (lv_at hl 3 rfl) ?_
  refine lv_iconst (v := 3) hx hb dL_law_572 (by decide) ?_
  refine lv_iadd hx hb dL_law_573 ?_
  refine top_i (y := nI (i + 3)) (nI_add i 3) ?_
  refine va_sld hx hb hX hbl hbA hS (vp_in_nI (by omega) (by omega)) dL_law_574 ?_
  refine ca_L (wx := XW G hA a X) (wm := MW G hM q M) (va_runV (As := [.int (xs (nI (i + 1)).toNatClampNeg), .int (xs (nI (i + 2)).toNatClampNeg), .int (xs (nI (i + 3)).toNatClampNeg)]) (rest := []) ⟨hx, hb, hml, hown, hts⟩ (x_panorama l G hA a X σ N T P C I (xs (nI (i + 1)).toNatClampNeg) (xs (nI (i + 2)).toNatClampNeg) (xs (nI (i + 3)).toNatClampNeg) hXI _) (cwV 3 hts gL_law_X7_panorama rfl rfl rfl (by decide +kernel) ⟨Nat.le_of_ble_eq_true rfl, Nat.le_of_ble_eq_true rfl⟩) (cPre_L hK hP hD (nd_L G hA a X) 7 rfl rfl) rfl rfl hl.1 rfl (lv_room (Nat.le_of_ble_eq_true rfl)) dL_law_575 ⟨Nat.le_of_ble_eq_true rfl, Nat.le_of_ble_eq_true rfl⟩) hP hD hS hA9 (nd_R G hA a X hM q M) (fun r1 X1 H locs q1 hP hD hS => ?_)
  refine lv_aload_n hx hb dL_law_578 rfl (lv_at hl 2 rfl) ?_
  refine lv_aload_n hx hb dL_law_579 rfl (lv_at hl 0 rfl) ?_
  refine lv_iload_n hx hb dL_law_580 rfl (lv_at hl 3 rfl) ?_
  refine lv_iconst (v := 1) hx hb dL_law_581 (by decide) ?_
  refine lv_iadd hx hb dL_law_582 ?_
  refine top_i (y := nI (i + 1)) (nI_add i 1) ?_
  refine va_sld hx hb hX hbl hbA hS (vp_in_nI (by omega) (by omega)) dL_law_583 ?_
  refine lv_aload_n hx hb dL_law_584 rfl (lv_at hl 0 rfl) ?_
  refine lv_iload_n hx hb dL_law_585 rfl (lv_at hl 3 rfl) ?_
  refine lv_iconst (v := 2) hx hb dL_law_586 (by decide) ?_
  refine lv_iadd hx hb dL_law_587 ?_
  refine top_i (y := nI (i + 2)) (nI_add i 2) ?_
  refine va_sld hx hb hX hbl hbA hS (vp_in_nI (by omega) (by omega)) dL_law_588 ?_
  refine lv_aload_n hx hb dL_law_589 rfl (lv_at hl 0 rfl) ?_
  refine lv_iload_n hx hb dL_law_590 rfl (lv_at hl 3 rfl) ?_
  refine lv_iconst (v := 3) hx hb dL_law_591 (by decide) ?_
  refine lv_iadd hx hb dL_law_592 ?_
  refine top_i (y := nI (i + 3)) (nI_add i 3) ?_
  refine va_sld hx hb hX hbl hbA hS (vp_in_nI (by omega) (by omega)) dL_law_593 ?_
  refine ca_R (wx := XW G hA a X1) (wm := MW G hM q M) (va_runV (As := [.int (xs (nI (i + 1)).toNatClampNeg), .int (xs (nI (i + 2)).toNatClampNeg), .int (xs (nI (i + 3)).toNatClampNeg)]) (rest := [.int r1]) ⟨hx, hb, hml, hown, hts⟩ (y_panorama l G hM q M σ N T P C I (xs (nI (i + 1)).toNatClampNeg) (xs (nI (i + 2)).toNatClampNeg) (xs (nI (i + 3)).toNatClampNeg) hMI _) (cwV 3 hts gL_law_X8_panorama rfl rfl rfl (by decide +kernel) ⟨Nat.le_of_ble_eq_true rfl, Nat.le_of_ble_eq_true rfl⟩) (cPre_R hK hP hD (nd_R G hA a X1 hM q M) 8 rfl rfl) rfl rfl hl.1 rfl (lv_room (Nat.le_of_ble_eq_true rfl)) dL_law_594 ⟨Nat.le_of_ble_eq_true rfl, Nat.le_of_ble_eq_true rfl⟩) hP hD hS hA9 (nd_L G hA a X1) (fun r2 M1 H locs q2 hP hD hS => ?_)
  have e12 : r1 = r2 := paN_one hXI.2.1.1 q1.1 q2.1
  refine lv_icmp_eq (tgt := 984) hx hb dL_law_597 (by decide) (fun c9 => ?_) (fun c9 => ?_)
  · exact K _ _ _ _ _ _ q1.2 q2.2 hP hD hS hl
  · exact absurd e12 c9
