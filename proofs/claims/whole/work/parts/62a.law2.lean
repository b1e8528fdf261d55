/-! the law, call by call -/
set_option maxHeartbeats 4000000 in
set_option maxRecDepth 100000 in
theorem lc_type {p : Program} {l : Launch} {e : Env} {s : State} {m : MethodId} {below : List Frame} {meth : Method} {c : Code} {b L : Nat} {xs : Nat → Int32} {G : kG} {hA : Nat} {a : Nat → Nat} {hM : Nat} {q : Nat → Nat} {i : Nat} {Q : State → Prop} (C0 : lw_At p s m meth c b L xs) (hK : kk G s) (hi : i + 6 ≤ L) (hL : L ≤ 3072) (K : LG p l e s m below meth c b G hA a hM q i Q 984) : LG p l e s m below meth c b G hA a hM q i Q 160 := by
  obtain ⟨hx, hb, hr, hml, hown, hts0, hX, hbl, hlocks, hgv⟩ := C0
  have hts : ∀ w ∈ wsL_law, w.before #[Value.ref b] s = true := fun w h => hts0 w (wsL_law_in w h)
  have hown : s.vm.findClass RL = some m.cls := hown
  have hA9 : ∀ q : Nat, s.heap.size ≤ q → (fun q : Nat => s.heap.size ≤ q) q := fun _ h => h
  have hbA : ¬ (fun q : Nat => s.heap.size ≤ q) b := Nat.not_le.mpr hbl
  intro A X M H locs ls hXI hMI hP hD hS hl
  obtain ⟨σ, N, T, P, C, I⟩ := A
  refine lv_aload_n hx hb dL_law_160 rfl (lv_at hl 1 rfl) ?_
  refine lv_aload_n hx hb dL_law_161 rfl (lv_at hl 0 rfl) ?_
  refine lv_iload_n hx hb dL_law_162 rfl (lv_at hl 3 rfl) ?_
  refine lv_iconst (v := 1) hx hb dL_law_163 (by decide) ?_
  refine lv_iadd hx hb dL_law_164 ?_
  refine top_i (y := nI (i + 1)) (nI_add i 1) ?_
  refine va_sld hx hb hX hbl hbA hS (vp_in_nI (by omega) (by omega)) dL_law_165 ?_
  refine ca_L (wx := XW G hA a X) (wm := MW G hM q M) (va_runV (As := [.int (xs (nI (i + 1)).toNatClampNeg)]) (rest := []) ⟨hx, hb, hml, hown, hts⟩ (x_type l G hA a X σ N T P C I (xs (nI (i + 1)).toNatClampNeg) hXI _) (cwV 1 hts gL_law_X7_type rfl rfl rfl (by decide +kernel) ⟨Nat.le_of_ble_eq_true rfl, Nat.le_of_ble_eq_true rfl⟩) (cPre_L hK hP hD (nd_L G hA a X) 7 rfl rfl) rfl rfl hl.1 rfl (lv_room (Nat.le_of_ble_eq_true rfl)) dL_law_166 ⟨Nat.le_of_ble_eq_true rfl, Nat.le_of_ble_eq_true rfl⟩) hP hD hS hA9 (nd_R G hA a X hM q M) (fun r1 X1 H locs q1 hP hD hS => ?_)
  refine lv_aload_n hx hb dL_law_169 rfl (lv_at hl 2 rfl) ?_
  refine lv_aload_n hx hb dL_law_170 rfl (lv_at hl 0 rfl) ?_
  refine lv_iload_n hx hb dL_law_171 rfl (lv_at hl 3 rfl) ?_
  refine lv_iconst (v := 1) hx hb dL_law_172 (by decide) ?_
  refine lv_iadd hx hb dL_law_173 ?_
  refine top_i (y := nI (i + 1)) (nI_add i 1) ?_
  refine va_sld hx hb hX hbl hbA hS (vp_in_nI (by omega) (by omega)) dL_law_174 ?_
  refine ca_R (wx := XW G hA a X1) (wm := MW G hM q M) (va_runV (As := [.int (xs (nI (i + 1)).toNatClampNeg)]) (rest := [.int r1]) ⟨hx, hb, hml, hown, hts⟩ (y_type l G hM q M σ N T P C I (xs (nI (i + 1)).toNatClampNeg) hMI _) (cwV 1 hts gL_law_X8_type rfl rfl rfl (by decide +kernel) ⟨Nat.le_of_ble_eq_true rfl, Nat.le_of_ble_eq_true rfl⟩) (cPre_R hK hP hD (nd_R G hA a X1 hM q M) 8 rfl rfl) rfl rfl hl.1 rfl (lv_room (Nat.le_of_ble_eq_true rfl)) dL_law_175 ⟨Nat.le_of_ble_eq_true rfl, Nat.le_of_ble_eq_true rfl⟩) hP hD hS hA9 (nd_L G hA a X1) (fun r2 M1 H locs q2 hP hD hS => ?_)
  have e12 : r1 = r2 := q1.1.trans q2.1.symm
  refine lv_icmp_eq (tgt := 984) hx hb dL_law_178 (by decide) (fun c9 => ?_) (fun c9 => ?_)
  · exact K _ _ _ _ _ _ q1.2 q2.2 hP hD hS hl
  · exact absurd e12 c9
set_option maxHeartbeats 4000000 in
set_option maxRecDepth 100000 in
theorem lc_clear {p : Program} {l : Launch} {e : Env} {s : State} {m : MethodId} {below : List Frame} {meth : Method} {c : Code} {b L : Nat} {xs : Nat → Int32} {G : kG} {hA : Nat} {a : Nat → Nat} {hM : Nat} {q : Nat → Nat} {i : Nat} {Q : State → Prop} (C0 : lw_At p s m meth c b L xs) (hK : kk G s) (hi : i + 6 ≤ L) (hL : L ≤ 3072) (K : LG p l e s m below meth c b G hA a hM q i Q 984) : LG p l e s m below meth c b G hA a hM q i Q 183 := by
  obtain ⟨hx, hb, hr, hml, hown, hts0, hX, hbl, hlocks, hgv⟩ := C0
  have hts : ∀ w ∈ wsL_law, w.before #[Value.ref b] s = true := fun w h => hts0 w (wsL_law_in w h)
  have hown : s.vm.findClass RL = some m.cls := hown
  have hA9 : ∀ q : Nat, s.heap.size ≤ q → (fun q : Nat => s.heap.size ≤ q) q := fun _ h => h
  have hbA : ¬ (fun q : Nat => s.heap.size ≤ q) b := Nat.not_le.mpr hbl
  intro A X M H locs ls hXI hMI hP hD hS hl
  obtain ⟨σ, N, T, P, C, I⟩ := A
  refine lv_aload_n hx hb dL_law_183 rfl (lv_at hl 1 rfl) ?_
  refine ca_L (wx := XW G hA a X) (wm := MW G hM q M) (va_runV (As := []) (rest := []) ⟨hx, hb, hml, hown, hts⟩ (x_clear l G hA a X σ N T P C I hXI _) (cwV 0 hts gL_law_X7_clear rfl rfl rfl (by decide +kernel) ⟨Nat.le_of_ble_eq_true rfl, Nat.le_of_ble_eq_true rfl⟩) (cPre_L hK hP hD (nd_L G hA a X) 7 rfl rfl) rfl rfl hl.1 rfl (lv_room (Nat.le_of_ble_eq_true rfl)) dL_law_184 ⟨Nat.le_of_ble_eq_true rfl, Nat.le_of_ble_eq_true rfl⟩) hP hD hS hA9 (nd_R G hA a X hM q M) (fun r1 X1 H locs q1 hP hD hS => ?_)
  refine lv_aload_n hx hb dL_law_187 rfl (lv_at hl 2 rfl) ?_
  refine ca_R (wx := XW G hA a X1) (wm := MW G hM q M) (va_runV (As := []) (rest := [.int r1]) ⟨hx, hb, hml, hown, hts⟩ (y_clear l G hM q M σ N T P C I hMI _) (cwV 0 hts gL_law_X8_clear rfl rfl rfl (by decide +kernel) ⟨Nat.le_of_ble_eq_true rfl, Nat.le_of_ble_eq_true rfl⟩) (cPre_R hK hP hD (nd_R G hA a X1 hM q M) 8 rfl rfl) rfl rfl hl.1 rfl (lv_room (Nat.le_of_ble_eq_true rfl)) dL_law_188 ⟨Nat.le_of_ble_eq_true rfl, Nat.le_of_ble_eq_true rfl⟩) hP hD hS hA9 (nd_L G hA a X1) (fun r2 M1 H locs q2 hP hD hS => ?_)
  have e12 : r1 = r2 := q1.1.trans q2.1.symm
  refine lv_icmp_eq (tgt := 984) hx hb dL_law_191 (by decide) (fun c9 => ?_) (fun c9 => ?_)
  · exact K _ _ _ _ _ _ q1.2 q2.2 hP hD hS hl
  · exact absurd e12 c9
set_option maxHeartbeats 4000000 in
set_option maxRecDepth 100000 in
theorem lc_land {p : Program} {l : Launch} {e : Env} {s : State} {m : MethodId} {below : List Frame} {meth : Method} {c : Code} {b L : Nat} {xs : Nat → Int32} {G : kG} {hA : Nat} {a : Nat → Nat} {hM : Nat} {q : Nat → Nat} {i : Nat} {Q : State → Prop} (C0 : lw_At p s m meth c b L xs) (hK : kk G s) (hi : i + 6 ≤ L) (hL : L ≤ 3072) (K : LG p l e s m below meth c b G hA a hM q i Q 984) : LG p l e s m below meth c b G hA a hM q i Q 196 := by
  obtain ⟨hx, hb, hr, hml, hown, hts0, hX, hbl, hlocks, hgv⟩ := C0
  have hts : ∀ w ∈ wsL_law, w.before #[Value.ref b] s = true := fun w h => hts0 w (wsL_law_in w h)
  have hown : s.vm.findClass RL = some m.cls := hown
  have hA9 : ∀ q : Nat, s.heap.size ≤ q → (fun q : Nat => s.heap.size ≤ q) q := fun _ h => h
  have hbA : ¬ (fun q : Nat => s.heap.size ≤ q) b := Nat.not_le.mpr hbl
  intro A X M H locs ls hXI hMI hP hD hS hl
  obtain ⟨σ, N, T, P, C, I⟩ := A
  refine lv_aload_n hx hb dL_law_196 rfl (lv_at hl 1 rfl) ?_
  refine ca_L (wx := XW G hA a X) (wm := MW G hM q M) (va_runV (As := []) (rest := []) ⟨hx, hb, hml, hown, hts⟩ (x_land l G hA a X σ N T P C I hXI _) (cwV 0 hts gL_law_X7_land rfl rfl rfl (by decide +kernel) ⟨Nat.le_of_ble_eq_true rfl, Nat.le_of_ble_eq_true rfl⟩) (cPre_L hK hP hD (nd_L G hA a X) 7 rfl rfl) rfl rfl hl.1 rfl (lv_room (Nat.le_of_ble_eq_true rfl)) dL_law_197 ⟨Nat.le_of_ble_eq_true rfl, Nat.le_of_ble_eq_true rfl⟩) hP hD hS hA9 (nd_R G hA a X hM q M) (fun r1 X1 H locs q1 hP hD hS => ?_)
  refine lv_aload_n hx hb dL_law_200 rfl (lv_at hl 2 rfl) ?_
  refine ca_R (wx := XW G hA a X1) (wm := MW G hM q M) (va_runV (As := []) (rest := [.int r1]) ⟨hx, hb, hml, hown, hts⟩ (y_land l G hM q M σ N T P C I hMI _) (cwV 0 hts gL_law_X8_land rfl rfl rfl (by decide +kernel) ⟨Nat.le_of_ble_eq_true rfl, Nat.le_of_ble_eq_true rfl⟩) (cPre_R hK hP hD (nd_R G hA a X1 hM q M) 8 rfl rfl) rfl rfl hl.1 rfl (lv_room (Nat.le_of_ble_eq_true rfl)) dL_law_201 ⟨Nat.le_of_ble_eq_true rfl, Nat.le_of_ble_eq_true rfl⟩) hP hD hS hA9 (nd_L G hA a X1) (fun r2 M1 H locs q2 hP hD hS => ?_)
  obtain ⟨RR, p1, p2, p3⟩ := q1
  obtain ⟨RS, p4, p5, p6⟩ := q2
  have eR : RR = RS := Prs.one p1 p4
  subst eR
  have e12 : r1 = r2 := p2.trans p5.symm
  refine lv_icmp_eq (tgt := 984) hx hb dL_law_204 (by decide) (fun c9 => ?_) (fun c9 => ?_)
  · exact K _ _ _ _ _ _ p3 p6 hP hD hS hl
  · exact absurd e12 c9
set_option maxHeartbeats 4000000 in
set_option maxRecDepth 100000 in
theorem lc_peak {p : Program} {l : Launch} {e : Env} {s : State} {m : MethodId} {below : List Frame} {meth : Method} {c : Code} {b L : Nat} {xs : Nat → Int32} {G : kG} {hA : Nat} {a : Nat → Nat} {hM : Nat} {q : Nat → Nat} {i : Nat} {Q : State → Prop} (C0 : lw_At p s m meth c b L xs) (hK : kk G s) (hi : i + 6 ≤ L) (hL : L ≤ 3072) (K : LG p l e s m below meth c b G hA a hM q i Q 984) : LG p l e s m below meth c b G hA a hM q i Q 209 := by
  obtain ⟨hx, hb, hr, hml, hown, hts0, hX, hbl, hlocks, hgv⟩ := C0
  have hts : ∀ w ∈ wsL_law, w.before #[Value.ref b] s = true := fun w h => hts0 w (wsL_law_in w h)
  have hown : s.vm.findClass RL = some m.cls := hown
  have hA9 : ∀ q : Nat, s.heap.size ≤ q → (fun q : Nat => s.heap.size ≤ q) q := fun _ h => h
  have hbA : ¬ (fun q : Nat => s.heap.size ≤ q) b := Nat.not_le.mpr hbl
  intro A X M H locs ls hXI hMI hP hD hS hl
  obtain ⟨σ, N, T, P, C, I⟩ := A
  refine lv_aload_n hx hb dL_law_209 rfl (lv_at hl 1 rfl) ?_
  refine lv_aload_n hx hb dL_law_210 rfl (lv_at hl 0 rfl) ?_
  refine lv_iload_n hx hb dL_law_211 rfl (lv_at hl 3 rfl) ?_
  refine lv_iconst (v := 1) hx hb dL_law_212 (by decide) ?_
  refine lv_iadd hx hb dL_law_213 ?_
  refine top_i (y := nI (i + 1)) (nI_add i 1) ?_
  refine va_sld hx hb hX hbl hbA hS (vp_in_nI (by omega) (by omega)) dL_law_214 ?_
  refine lv_aload_n hx hb dL_law_215 rfl (lv_at hl 0 rfl) ?_
  refine lv_iload_n hx hb dL_law_216 rfl (lv_at hl 3 rfl) ?_
  refine lv_iconst (v := 2) hx hb dL_law_217 (by decide) ?_
  refine lv_iadd hx hb dL_law_218 ?_
  refine top_i (y := nI (i + 2)) (nI_add i 2) ?_
  refine va_sld hx hb hX hbl hbA hS (vp_in_nI (by omega) (by omega)) dL_law_219 ?_
  refine ca_L (wx := XW G hA a X) (wm := MW G hM q M) (va_runV (As := [.int (xs (nI (i + 1)).toNatClampNeg), .int (xs (nI (i + 2)).toNatClampNeg)]) (rest := []) ⟨hx, hb, hml, hown, hts⟩ (x_peak l G hA a X σ N T P C I (xs (nI (i + 1)).toNatClampNeg) (xs (nI (i + 2)).toNatClampNeg) hXI _) (cwV 2 hts gL_law_X7_peak rfl rfl rfl (by decide +kernel) ⟨Nat.le_of_ble_eq_true rfl, Nat.le_of_ble_eq_true rfl⟩) (cPre_L hK hP hD (nd_L G hA a X) 7 rfl rfl) rfl rfl hl.1 rfl (lv_room (Nat.le_of_ble_eq_true rfl)) dL_law_220 ⟨Nat.le_of_ble_eq_true rfl, Nat.le_of_ble_eq_true rfl⟩) hP hD hS hA9 (nd_R G hA a X hM q M) (fun r1 X1 H locs q1 hP hD hS => ?_)
  refine lv_aload_n hx hb dL_law_223 rfl (lv_at hl 2 rfl) ?_
  refine lv_aload_n hx hb dL_law_224 rfl (lv_at hl 0 rfl) ?_
  refine lv_iload_n hx hb dL_law_225 rfl (lv_at hl 3 rfl) ?_
  refine lv_iconst (v := 1) hx hb dL_law_226 (by decide) ?_
  refine lv_iadd hx hb dL_law_227 ?_
  refine top_i (y := nI (i + 1)) (nI_add i 1) ?_
  refine va_sld hx hb hX hbl hbA hS (vp_in_nI (by omega) (by omega)) dL_law_228 ?_
  refine lv_aload_n hx hb dL_law_229 rfl (lv_at hl 0 rfl) ?_
  refine lv_iload_n hx hb dL_law_230 rfl (lv_at hl 3 rfl) ?_
  refine lv_iconst (v := 2) hx hb dL_law_231 (by decide) ?_
  refine lv_iadd hx hb dL_law_232 ?_
  refine top_i (y := nI (i + 2)) (nI_add i 2) ?_
  refine va_sld hx hb hX hbl hbA hS (vp_in_nI (by omega) (by omega)) dL_law_233 ?_
  refine ca_R (wx := XW G hA a X1) (wm := MW G hM q M) (va_runV (As := [.int (xs (nI (i + 1)).toNatClampNeg), .int (xs (nI (i + 2)).toNatClampNeg)]) (rest := [.int r1]) ⟨hx, hb, hml, hown, hts⟩ (y_peak l G hM q M σ N T P C I (xs (nI (i + 1)).toNatClampNeg) (xs (nI (i + 2)).toNatClampNeg) hMI _) (cwV 2 hts gL_law_X8_peak rfl rfl rfl (by decide +kernel) ⟨Nat.le_of_ble_eq_true rfl, Nat.le_of_ble_eq_true rfl⟩) (cPre_R hK hP hD (nd_R G hA a X1 hM q M) 8 rfl rfl) rfl rfl hl.1 rfl (lv_room (Nat.le_of_ble_eq_true rfl)) dL_law_234 ⟨Nat.le_of_ble_eq_true rfl, Nat.le_of_ble_eq_true rfl⟩) hP hD hS hA9 (nd_L G hA a X1) (fun r2 M1 H locs q2 hP hD hS => ?_)
  have e12 : r1 = r2 := q1.1.trans q2.1.symm
  refine lv_icmp_eq (tgt := 984) hx hb dL_law_237 (by decide) (fun c9 => ?_) (fun c9 => ?_)
  · exact K _ _ _ _ _ _ q1.2 q2.2 hP hD hS hl
  · exact absurd e12 c9
set_option maxHeartbeats 4000000 in
set_option maxRecDepth 100000 in
theorem lc_ridge {p : Program} {l : Launch} {e : Env} {s : State} {m : MethodId} {below : List Frame} {meth : Method} {c : Code} {b L : Nat} {xs : Nat → Int32} {G : kG} {hA : Nat} {a : Nat → Nat} {hM : Nat} {q : Nat → Nat} {i : Nat} {Q : State → Prop} (C0 : lw_At p s m meth c b L xs) (hK : kk G s) (hi : i + 6 ≤ L) (hL : L ≤ 3072) (K : LG p l e s m below meth c b G hA a hM q i Q 984) : LG p l e s m below meth c b G hA a hM q i Q 242 := by
  obtain ⟨hx, hb, hr, hml, hown, hts0, hX, hbl, hlocks, hgv⟩ := C0
  have hts : ∀ w ∈ wsL_law, w.before #[Value.ref b] s = true := fun w h => hts0 w (wsL_law_in w h)
  have hown : s.vm.findClass RL = some m.cls := hown
  have hA9 : ∀ q : Nat, s.heap.size ≤ q → (fun q : Nat => s.heap.size ≤ q) q := fun _ h => h
  have hbA : ¬ (fun q : Nat => s.heap.size ≤ q) b := Nat.not_le.mpr hbl
  intro A X M H locs ls hXI hMI hP hD hS hl
  obtain ⟨σ, N, T, P, C, I⟩ := A
  refine lv_aload_n hx hb dL_law_242 rfl (lv_at hl 1 rfl) ?_
  refine lv_aload_n hx hb dL_law_243 rfl (lv_at hl 0 rfl) ?_
  refine lv_iload_n hx hb dL_law_244 rfl (lv_at hl 3 rfl) ?_
  refine lv_iconst (v := 1) hx hb dL_law_245 (by decide) ?_
  refine lv_iadd hx hb dL_law_246 ?_
  refine top_i (y := nI (i + 1)) (nI_add i 1) ?_
  refine va_sld hx hb hX hbl hbA hS (vp_in_nI (by omega) (by omega)) dL_law_247 ?_
  refine lv_aload_n hx hb dL_law_248 rfl (lv_at hl 0 rfl) ?_
  refine lv_iload_n hx hb dL_law_249 rfl (lv_at hl 3 rfl) ?_
  refine lv_iconst (v := 2) hx hb dL_law_250 (by decide) ?_
  refine lv_iadd hx hb dL_law_251 ?_
  refine top_i (y := nI (i + 2)) (nI_add i 2) ?_
  refine va_sld hx hb hX hbl hbA hS (vp_in_nI (by omega) (by omega)) dL_law_252 ?_
  refine ca_L (wx := XW G hA a X) (wm := MW G hM q M) (va_runV (As := [.int (xs (nI (i + 1)).toNatClampNeg), .int (xs (nI (i + 2)).toNatClampNeg)]) (rest := []) ⟨hx, hb, hml, hown, hts⟩ (x_ridge l G hA a X σ N T P C I (xs (nI (i + 1)).toNatClampNeg) (xs (nI (i + 2)).toNatClampNeg) hXI _) (cwV 2 hts gL_law_X7_ridge rfl rfl rfl (by decide +kernel) ⟨Nat.le_of_ble_eq_true rfl, Nat.le_of_ble_eq_true rfl⟩) (cPre_L hK hP hD (nd_L G hA a X) 7 rfl rfl) rfl rfl hl.1 rfl (lv_room (Nat.le_of_ble_eq_true rfl)) dL_law_253 ⟨Nat.le_of_ble_eq_true rfl, Nat.le_of_ble_eq_true rfl⟩) hP hD hS hA9 (nd_R G hA a X hM q M) (fun r1 X1 H locs q1 hP hD hS => ?_)
  refine lv_aload_n hx hb dL_law_256 rfl (lv_at hl 2 rfl) ?_
  refine lv_aload_n hx hb dL_law_257 rfl (lv_at hl 0 rfl) ?_
  refine lv_iload_n hx hb dL_law_258 rfl (lv_at hl 3 rfl) ?_
  refine lv_iconst (v := 1) hx hb dL_law_259 (by decide) ?_
  refine lv_iadd hx hb dL_law_260 ?_
  refine top_i (y := nI (i + 1)) (nI_add i 1) ?_
  refine va_sld hx hb hX hbl hbA hS (vp_in_nI (by omega) (by omega)) dL_law_261 ?_
  refine lv_aload_n hx hb dL_law_262 rfl (lv_at hl 0 rfl) ?_
  refine lv_iload_n hx hb dL_law_263 rfl (lv_at hl 3 rfl) ?_
  refine lv_iconst (v := 2) hx hb dL_law_264 (by decide) ?_
  refine lv_iadd hx hb dL_law_265 ?_
  refine top_i (y := nI (i + 2)) (nI_add i 2) ?_
  refine va_sld hx hb hX hbl hbA hS (vp_in_nI (by omega) (by omega)) dL_law_266 ?_
  refine ca_R (wx := XW G hA a X1) (wm := MW G hM q M) (va_runV (As := [.int (xs (nI (i + 1)).toNatClampNeg), .int (xs (nI (i + 2)).toNatClampNeg)]) (rest := [.int r1]) ⟨hx, hb, hml, hown, hts⟩ (y_ridge l G hM q M σ N T P C I (xs (nI (i + 1)).toNatClampNeg) (xs (nI (i + 2)).toNatClampNeg) hMI _) (cwV 2 hts gL_law_X8_ridge rfl rfl rfl (by decide +kernel) ⟨Nat.le_of_ble_eq_true rfl, Nat.le_of_ble_eq_true rfl⟩) (cPre_R hK hP hD (nd_R G hA a X1 hM q M) 8 rfl rfl) rfl rfl hl.1 rfl (lv_room (Nat.le_of_ble_eq_true rfl)) dL_law_267 ⟨Nat.le_of_ble_eq_true rfl, Nat.le_of_ble_eq_true rfl⟩) hP hD hS hA9 (nd_L G hA a X1) (fun r2 M1 H locs q2 hP hD hS => ?_)
  have e12 : r1 = r2 := q1.1.trans q2.1.symm
  refine lv_icmp_eq (tgt := 984) hx hb dL_law_270 (by decide) (fun c9 => ?_) (fun c9 => ?_)
  · exact K _ _ _ _ _ _ q1.2 q2.2 hP hD hS hl
  · exact absurd e12 c9
set_option maxHeartbeats 4000000 in
set_option maxRecDepth 100000 in
theorem lc_notes {p : Program} {l : Launch} {e : Env} {s : State} {m : MethodId} {below : List Frame} {meth : Method} {c : Code} {b L : Nat} {xs : Nat → Int32} {G : kG} {hA : Nat} {a : Nat → Nat} {hM : Nat} {q : Nat → Nat} {i : Nat} {Q : State → Prop} (C0 : lw_At p s m meth c b L xs) (hK : kk G s) (hi : i + 6 ≤ L) (hL : L ≤ 3072) (K : LG p l e s m below meth c b G hA a hM q i Q 984) : LG p l e s m below meth c b G hA a hM q i Q 275 := by
  obtain ⟨hx, hb, hr, hml, hown, hts0, hX, hbl, hlocks, hgv⟩ := C0
  have hts : ∀ w ∈ wsL_law, w.before #[Value.ref b] s = true := fun w h => hts0 w (wsL_law_in w h)
  have hown : s.vm.findClass RL = some m.cls := hown
  have hA9 : ∀ q : Nat, s.heap.size ≤ q → (fun q : Nat => s.heap.size ≤ q) q := fun _ h => h
  have hbA : ¬ (fun q : Nat => s.heap.size ≤ q) b := Nat.not_le.mpr hbl
  intro A X M H locs ls hXI hMI hP hD hS hl
  obtain ⟨σ, N, T, P, C, I⟩ := A
  refine lv_aload_n hx hb dL_law_275 rfl (lv_at hl 1 rfl) ?_
  refine lv_aload_n hx hb dL_law_276 rfl (lv_at hl 0 rfl) ?_
  refine lv_iload_n hx hb dL_law_277 rfl (lv_at hl 3 rfl) ?_
  refine lv_iconst (v := 1) hx hb dL_law_278 (by decide) ?_
  refine lv_iadd hx hb dL_law_279 ?_
  refine top_i (y := nI (i + 1)) (nI_add i 1) ?_
  refine va_sld hx hb hX hbl hbA hS (vp_in_nI (by omega) (by omega)) dL_law_280 ?_
  refine lv_aload_n hx hb dL_law_281 rfl (lv_at hl 0 rfl) ?_
  refine lv_iload_n hx hb dL_law_282 rfl (lv_at hl 3 rfl) ?_
  refine lv_iconst (v := 2) hx hb dL_law_283 (by decide) ?_
  refine lv_iadd hx hb dL_law_284 ?_
  refine top_i (y := nI (i + 2)) (nI_add i 2) ?_
  refine va_sld hx hb hX hbl hbA hS (vp_in_nI (by omega) (by omega)) dL_law_285 ?_
  refine ca_L (wx := XW G hA a X) (wm := MW G hM q M) (va_runV (As := [.int (xs (nI (i + 1)).toNatClampNeg), .int (xs (nI (i + 2)).toNatClampNeg)]) (rest := []) ⟨hx, hb, hml, hown, hts⟩ (x_notes l G hA a X σ N T P C I (xs (nI (i + 1)).toNatClampNeg) (xs (nI (i + 2)).toNatClampNeg) hXI _) (cwV 2 hts gL_law_X7_notes rfl rfl rfl (by decide +kernel) ⟨Nat.le_of_ble_eq_true rfl, Nat.le_of_ble_eq_true rfl⟩) (cPre_L hK hP hD (nd_L G hA a X) 7 rfl rfl) rfl rfl hl.1 rfl (lv_room (Nat.le_of_ble_eq_true rfl)) dL_law_286 ⟨Nat.le_of_ble_eq_true rfl, Nat.le_of_ble_eq_true rfl⟩) hP hD hS hA9 (nd_R G hA a X hM q M) (fun r1 X1 H locs q1 hP hD hS => ?_)
  refine lv_aload_n hx hb dL_law_289 rfl (lv_at hl 2 rfl) ?_
  refine lv_aload_n hx hb dL_law_290 rfl (lv_at hl 0 rfl) ?_
  refine lv_iload_n hx hb dL_law_291 rfl (lv_at hl 3 rfl) ?_
  refine lv_iconst (v := 1) hx hb dL_law_292 (by decide) ?_
  refine lv_iadd hx hb dL_law_293 ?_
  refine top_i (y := nI (i + 1)) (nI_add i 1) ?_
  refine va_sld hx hb hX hbl hbA hS (vp_in_nI (by omega) (by omega)) dL_law_294 ?_
  refine lv_aload_n hx hb dL_law_295 rfl (lv_at hl 0 rfl) ?_
  refine lv_iload_n hx hb dL_law_296 rfl (lv_at hl 3 rfl) ?_
  refine lv_iconst (v := 2) hx hb dL_law_297 (by decide) ?_
  refine lv_iadd hx hb dL_law_298 ?_
  refine top_i (y := nI (i + 2)) (nI_add i 2) ?_
  refine va_sld hx hb hX hbl hbA hS (vp_in_nI (by omega) (by omega)) dL_law_299 ?_
  refine ca_R (wx := XW G hA a X1) (wm := MW G hM q M) (va_runV (As := [.int (xs (nI (i + 1)).toNatClampNeg), .int (xs (nI (i + 2)).toNatClampNeg)]) (rest := [.int r1]) ⟨hx, hb, hml, hown, hts⟩ (y_notes l G hM q M σ N T P C I (xs (nI (i + 1)).toNatClampNeg) (xs (nI (i + 2)).toNatClampNeg) hMI _) (cwV 2 hts gL_law_X8_notes rfl rfl rfl (by decide +kernel) ⟨Nat.le_of_ble_eq_true rfl, Nat.le_of_ble_eq_true rfl⟩) (cPre_R hK hP hD (nd_R G hA a X1 hM q M) 8 rfl rfl) rfl rfl hl.1 rfl (lv_room (Nat.le_of_ble_eq_true rfl)) dL_law_300 ⟨Nat.le_of_ble_eq_true rfl, Nat.le_of_ble_eq_true rfl⟩) hP hD hS hA9 (nd_L G hA a X1) (fun r2 M1 H locs q2 hP hD hS => ?_)
  have e12 : r1 = r2 := q1.1.trans q2.1.symm
  refine lv_icmp_eq (tgt := 984) hx hb dL_law_303 (by decide) (fun c9 => ?_) (fun c9 => ?_)
  · exact K _ _ _ _ _ _ q1.2 q2.2 hP hD hS hl
  · exact absurd e12 c9
set_option maxHeartbeats 4000000 in
set_option maxRecDepth 100000 in
theorem lc_erases {p : Program} {l : Launch} {e : Env} {s : State} {m : MethodId} {below : List Frame} {meth : Method} {c : Code} {b L : Nat} {xs : Nat → Int32} {G : kG} {hA : Nat} {a : Nat → Nat} {hM : Nat} {q : Nat → Nat} {i : Nat} {Q : State → Prop} (C0 : lw_At p s m meth c b L xs) (hK : kk G s) (hi : i + 6 ≤ L) (hL : L ≤ 3072) (K : LG p l e s m below meth c b G hA a hM q i Q 984) : LG p l e s m below meth c b G hA a hM q i Q 308 := by
  obtain ⟨hx, hb, hr, hml, hown, hts0, hX, hbl, hlocks, hgv⟩ := C0
  have hts : ∀ w ∈ wsL_law, w.before #[Value.ref b] s = true := fun w h => hts0 w (wsL_law_in w h)
  have hown : s.vm.findClass RL = some m.cls := hown
  have hA9 : ∀ q : Nat, s.heap.size ≤ q → (fun q : Nat => s.heap.size ≤ q) q := fun _ h => h
  have hbA : ¬ (fun q : Nat => s.heap.size ≤ q) b := Nat.not_le.mpr hbl
  intro A X M H locs ls hXI hMI hP hD hS hl
  obtain ⟨σ, N, T, P, C, I⟩ := A
  refine lv_aload_n hx hb dL_law_308 rfl (lv_at hl 1 rfl) ?_
  refine lv_aload_n hx hb dL_law_309 rfl (lv_at hl 0 rfl) ?_
  refine lv_iload_n hx hb dL_law_310 rfl (lv_at hl 3 rfl) ?_
  refine lv_iconst (v := 1) hx hb dL_law_311 (by decide) ?_
  refine lv_iadd hx hb dL_law_312 ?_
  refine top_i (y := nI (i + 1)) (nI_add i 1) ?_
  refine va_sld hx hb hX hbl hbA hS (vp_in_nI (by omega) (by omega)) dL_law_313 ?_
  refine ca_L (wx := XW G hA a X) (wm := MW G hM q M) (va_runV (As := [.int (xs (nI (i + 1)).toNatClampNeg)]) (rest := []) ⟨hx, hb, hml, hown, hts⟩ (x_erases l G hA a X σ N T P C I (xs (nI (i + 1)).toNatClampNeg) hXI _) (cwV 1 hts gL_law_X7_erases rfl rfl rfl (by decide +kernel) ⟨Nat.le_of_ble_eq_true rfl, Nat.le_of_ble_eq_true rfl⟩) (cPre_L hK hP hD (nd_L G hA a X) 7 rfl rfl) rfl rfl hl.1 rfl (lv_room (Nat.le_of_ble_eq_true rfl)) dL_law_314 ⟨Nat.le_of_ble_eq_true rfl, Nat.le_of_ble_eq_true rfl⟩) hP hD hS hA9 (nd_R G hA a X hM q M) (fun r1 X1 H locs q1 hP hD hS => ?_)
  refine lv_aload_n hx hb dL_law_317 rfl (lv_at hl 2 rfl) ?_
  refine lv_aload_n hx hb dL_law_318 rfl (lv_at hl 0 rfl) ?_
  refine lv_iload_n hx hb dL_law_319 rfl (lv_at hl 3 rfl) ?_
  refine lv_iconst (v := 1) hx hb dL_law_320 (by decide) ?_
  refine lv_iadd hx hb dL_law_321 ?_
  refine top_i (y := nI (i + 1)) (nI_add i 1) ?_
  refine va_sld hx hb hX hbl hbA hS (vp_in_nI (by omega) (by omega)) dL_law_322 ?_
  refine ca_R (wx := XW G hA a X1) (wm := MW G hM q M) (va_runV (As := [.int (xs (nI (i + 1)).toNatClampNeg)]) (rest := [.int r1]) ⟨hx, hb, hml, hown, hts⟩ (y_erases l G hM q M σ N T P C I (xs (nI (i + 1)).toNatClampNeg) hMI _) (cwV 1 hts gL_law_X8_erases rfl rfl rfl (by decide +kernel) ⟨Nat.le_of_ble_eq_true rfl, Nat.le_of_ble_eq_true rfl⟩) (cPre_R hK hP hD (nd_R G hA a X1 hM q M) 8 rfl rfl) rfl rfl hl.1 rfl (lv_room (Nat.le_of_ble_eq_true rfl)) dL_law_323 ⟨Nat.le_of_ble_eq_true rfl, Nat.le_of_ble_eq_true rfl⟩) hP hD hS hA9 (nd_L G hA a X1) (fun r2 M1 H locs q2 hP hD hS => ?_)
  have e12 : r1 = r2 := q1.1.trans q2.1.symm
  refine lv_icmp_eq (tgt := 984) hx hb dL_law_326 (by decide) (fun c9 => ?_) (fun c9 => ?_)
  · exact K _ _ _ _ _ _ q1.2 q2.2 hP hD hS hl
  · exact absurd e12 c9
