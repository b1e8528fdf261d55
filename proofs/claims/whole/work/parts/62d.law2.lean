/-! the law, call by call -/
set_option maxHeartbeats 4000000 in
set_option maxRecDepth 100000 in
theorem lc_odd {p : Program} {l : Launch} {e : Env} {s : State} {m : MethodId} {below : List Frame} {meth : Method} {c : Code} {b L : Nat} {xs : Nat → Int32} {G : kG} {hA : Nat} {a : Nat → Nat} {hM : Nat} {q : Nat → Nat} {i : Nat} {Q : State → Prop} (C0 : lw_At p s m meth c b L xs) (hK : kk G s) (hi : i + 6 ≤ L) (hL : L ≤ 3072) (K : LG p l e s m below meth c b G hA a hM q i Q 984) : LG p l e s m below meth c b G hA a hM q i Q 823 := by
  obtain ⟨hx, hb, hr, hml, hown, hts0, hX, hbl, hlocks, hgv⟩ := C0
  have hts : ∀ w ∈ wsL_law, w.before #[Value.ref b] s = true := fun w h => hts0 w (wsL_law_in w h)
  have hown : s.vm.findClass RL = some m.cls := hown
  have hA9 : ∀ q : Nat, s.heap.size ≤ q → (fun q : Nat => s.heap.size ≤ q) q := fun _ h => h
  have hbA : ¬ (fun q : Nat => s.heap.size ≤ q) b := Nat.not_le.mpr hbl
  intro A X M H locs ls hXI hMI hP hD hS hl
  obtain ⟨σ, N, T, P, C, I⟩ := A
  refine lv_aload_n hx hb dL_law_823 rfl (lv_at hl 1 rfl) ?_
  refine ca_L (wx := XW G hA a X) (wm := MW G hM q M) (va_runV (As := []) (rest := []) ⟨hx, hb, hml, hown, hts⟩ (x_odd l G hA a X σ N T P C I hXI _) (cwV 0 hts gL_law_X7_odd rfl rfl rfl (by decide +kernel) ⟨Nat.le_of_ble_eq_true rfl, Nat.le_of_ble_eq_true rfl⟩) (cPre_L hK hP hD (nd_L G hA a X) 7 rfl rfl) rfl rfl hl.1 rfl (lv_room (Nat.le_of_ble_eq_true rfl)) dL_law_824 ⟨Nat.le_of_ble_eq_true rfl, Nat.le_of_ble_eq_true rfl⟩) hP hD hS hA9 (nd_R G hA a X hM q M) (fun r1 X1 H locs q1 hP hD hS => ?_)
  refine lv_aload_n hx hb dL_law_827 rfl (lv_at hl 2 rfl) ?_
  refine ca_R (wx := XW G hA a X1) (wm := MW G hM q M) (va_runV (As := []) (rest := [.int r1]) ⟨hx, hb, hml, hown, hts⟩ (y_odd l G hM q M σ N T P C I hMI _) (cwV 0 hts gL_law_X8_odd rfl rfl rfl (by decide +kernel) ⟨Nat.le_of_ble_eq_true rfl, Nat.le_of_ble_eq_true rfl⟩) (cPre_R hK hP hD (nd_R G hA a X1 hM q M) 8 rfl rfl) rfl rfl hl.1 rfl (lv_room (Nat.le_of_ble_eq_true rfl)) dL_law_828 ⟨Nat.le_of_ble_eq_true rfl, Nat.le_of_ble_eq_true rfl⟩) hP hD hS hA9 (nd_L G hA a X1) (fun r2 M1 H locs q2 hP hD hS => ?_)
  have e12 : r1 = r2 := odd_one q1.1 q2.1
  refine lv_icmp_eq (tgt := 984) hx hb dL_law_831 (by decide) (fun c9 => ?_) (fun c9 => ?_)
  · exact K _ _ _ _ _ _ q1.2 q2.2 hP hD hS hl
  · exact absurd e12 c9
set_option maxHeartbeats 4000000 in
set_option maxRecDepth 100000 in
theorem lc_clouds {p : Program} {l : Launch} {e : Env} {s : State} {m : MethodId} {below : List Frame} {meth : Method} {c : Code} {b L : Nat} {xs : Nat → Int32} {G : kG} {hA : Nat} {a : Nat → Nat} {hM : Nat} {q : Nat → Nat} {i : Nat} {Q : State → Prop} (C0 : lw_At p s m meth c b L xs) (hK : kk G s) (hi : i + 6 ≤ L) (hL : L ≤ 3072) (K : LG p l e s m below meth c b G hA a hM q i Q 984) : LG p l e s m below meth c b G hA a hM q i Q 836 := by
  obtain ⟨hx, hb, hr, hml, hown, hts0, hX, hbl, hlocks, hgv⟩ := C0
  have hts : ∀ w ∈ wsL_law, w.before #[Value.ref b] s = true := fun w h => hts0 w (wsL_law_in w h)
  have hown : s.vm.findClass RL = some m.cls := hown
  have hA9 : ∀ q : Nat, s.heap.size ≤ q → (fun q : Nat => s.heap.size ≤ q) q := fun _ h => h
  have hbA : ¬ (fun q : Nat => s.heap.size ≤ q) b := Nat.not_le.mpr hbl
  intro A X M H locs ls hXI hMI hP hD hS hl
  obtain ⟨σ, N, T, P, C, I⟩ := A
  refine lv_aload_n hx hb dL_law_836 rfl (lv_at hl 1 rfl) ?_
  refine lv_aload_n hx hb dL_law_837 rfl (lv_at hl 0 rfl) ?_
  refine lv_iload_n hx hb dL_law_838 rfl (lv_at hl 3 rfl) ?_
  refine lv_iconst (v := 1) hx hb dL_law_839 (by decide) ?_
  refine lv_iadd hx hb dL_law_840 ?_
  refine top_i (y := nI (i + 1)) (nI_add i 1) ?_
  refine va_sld hx hb hX hbl hbA hS (vp_in_nI (by omega) (by omega)) dL_law_841 ?_
  refine lv_aload_n hx hb dL_law_842 rfl (lv_at hl 0 rfl) ?_
  refine lv_iload_n hx hb dL_law_843 rfl (lv_at hl 3 rfl) ?_
  refine lv_iconst (v := 2) hx hb dL_law_844 (by decide) ?_
  refine lv_iadd hx hb dL_law_845 ?_
  refine top_i (y := nI (i + 2)) (nI_add i 2) ?_
  refine va_sld hx hb hX hbl hbA hS (vp_in_nI (by omega) (by omega)) dL_law_846 ?_
  refine lv_aload_n hx hb dL_law_847 rfl (lv_at hl 0 rfl) ?_
  refine lv_iload_n hx hb dL_law_848 rfl (lv_at hl 3 rfl) ?_
  refine lv_iconst (v := 3) hx hb dL_law_849 (by decide) ?_
  refine lv_iadd hx hb dL_law_850 ?_
  refine top_i (y := nI (i + 3)) (nI_add i 3) ?_
  refine va_sld hx hb hX hbl hbA hS (vp_in_nI (by omega) (by omega)) dL_law_851 ?_
  refine lv_aload_n hx hb dL_law_852 rfl (lv_at hl 0 rfl) ?_
  refine lv_iload_n hx hb dL_law_853 rfl (lv_at hl 3 rfl) ?_
  refine lv_iconst (v := 4) hx hb dL_law_854 (by decide) ?_
  refine lv_iadd hx hb dL_law_855 ?_
  refine top_i (y := nI (i + 4)) (nI_add i 4) ?_
  refine va_sld hx hb hX hbl hbA hS (vp_in_nI (by omega) (by omega)) dL_law_856 ?_
  refine ca_L (wx := XW G hA a X) (wm := MW G hM q M) (va_runV (As := [.int (xs (nI (i + 1)).toNatClampNeg), .int (xs (nI (i + 2)).toNatClampNeg), .int (xs (nI (i + 3)).toNatClampNeg), .int (xs (nI (i + 4)).toNatClampNeg)]) (rest := []) ⟨hx, hb, hml, hown, hts⟩ (x_clouds l G hA a X σ N T P C I (xs (nI (i + 1)).toNatClampNeg) (xs (nI (i + 2)).toNatClampNeg) (xs (nI (i + 3)).toNatClampNeg) (xs (nI (i + 4)).toNatClampNeg) hXI _) (cwV 4 hts gL_law_X7_clouds rfl rfl rfl (by decide +kernel) ⟨Nat.le_of_ble_eq_true rfl, Nat.le_of_ble_eq_true rfl⟩) (cPre_L hK hP hD (nd_L G hA a X) 7 rfl rfl) rfl rfl hl.1 rfl (lv_room (Nat.le_of_ble_eq_true rfl)) dL_law_857 ⟨Nat.le_of_ble_eq_true rfl, Nat.le_of_ble_eq_true rfl⟩) hP hD hS hA9 (nd_R G hA a X hM q M) (fun r1 X1 H locs q1 hP hD hS => ?_)
  refine lv_aload_n hx hb dL_law_860 rfl (lv_at hl 2 rfl) ?_
  refine lv_aload_n hx hb dL_law_861 rfl (lv_at hl 0 rfl) ?_
  refine lv_iload_n hx hb dL_law_862 rfl (lv_at hl 3 rfl) ?_
  refine lv_iconst (v := 1) hx hb dL_law_863 (by decide) ?_
  refine lv_iadd hx hb dL_law_864 ?_
  refine top_i (y := nI (i + 1)) (nI_add i 1) ?_
  refine va_sld hx hb hX hbl hbA hS (vp_in_nI (by omega) (by omega)) dL_law_865 ?_
  refine lv_aload_n hx hb dL_law_866 rfl (lv_at hl 0 rfl) ?_
  refine lv_iload_n hx hb dL_law_867 rfl (lv_at hl 3 rfl) ?_
  refine lv_iconst (v := 2) hx hb dL_law_868 (by decide) ?_
  refine lv_iadd hx hb dL_law_869 ?_
  refine top_i (y := nI (i + 2)) (nI_add i 2) ?_
  refine va_sld hx hb hX hbl hbA hS (vp_in_nI (by omega) (by omega)) dL_law_870 ?_
  refine lv_aload_n hx hb dL_law_871 rfl (lv_at hl 0 rfl) ?_
  refine lv_iload_n hx hb dL_law_872 rfl (lv_at hl 3 rfl) ?_
  refine lv_iconst (v := 3) hx hb dL_law_873 (by decide) ?_
  refine lv_iadd hx hb dL_law_874 ?_
  refine top_i (y := nI (i + 3)) (nI_add i 3) ?_
  refine va_sld hx hb hX hbl hbA hS (vp_in_nI (by omega) (by omega)) dL_law_875 ?_
  refine lv_aload_n hx hb dL_law_876 rfl (lv_at hl 0 rfl) ?_
  refine lv_iload_n hx hb dL_law_877 rfl (lv_at hl 3 rfl) ?_
  refine lv_iconst (v := 4) hx hb dL_law_878 (by decide) ?_
  refine lv_iadd hx hb dL_law_879 ?_
  refine top_i (y := nI (i + 4)) (nI_add i 4) ?_
  refine va_sld hx hb hX hbl hbA hS (vp_in_nI (by omega) (by omega)) dL_law_880 ?_
  refine ca_R (wx := XW G hA a X1) (wm := MW G hM q M) (va_runV (As := [.int (xs (nI (i + 1)).toNatClampNeg), .int (xs (nI (i + 2)).toNatClampNeg), .int (xs (nI (i + 3)).toNatClampNeg), .int (xs (nI (i + 4)).toNatClampNeg)]) (rest := [.int r1]) ⟨hx, hb, hml, hown, hts⟩ (y_clouds l G hM q M σ N T P C I (xs (nI (i + 1)).toNatClampNeg) (xs (nI (i + 2)).toNatClampNeg) (xs (nI (i + 3)).toNatClampNeg) (xs (nI (i + 4)).toNatClampNeg) hMI _) (cwV 4 hts gL_law_X8_clouds rfl rfl rfl (by decide +kernel) ⟨Nat.le_of_ble_eq_true rfl, Nat.le_of_ble_eq_true rfl⟩) (cPre_R hK hP hD (nd_R G hA a X1 hM q M) 8 rfl rfl) rfl rfl hl.1 rfl (lv_room (Nat.le_of_ble_eq_true rfl)) dL_law_881 ⟨Nat.le_of_ble_eq_true rfl, Nat.le_of_ble_eq_true rfl⟩) hP hD hS hA9 (nd_L G hA a X1) (fun r2 M1 H locs q2 hP hD hS => ?_)
  have e12 : r1 = r2 := q1.1.trans q2.1.symm
  refine lv_icmp_eq (tgt := 984) hx hb dL_law_884 (by decide) (fun c9 => ?_) (fun c9 => ?_)
  · exact K _ _ _ _ _ _ q1.2 q2.2 hP hD hS hl
  · exact absurd e12 c9
set_option maxHeartbeats 4000000 in
set_option maxRecDepth 100000 in
theorem lc_forget {p : Program} {l : Launch} {e : Env} {s : State} {m : MethodId} {below : List Frame} {meth : Method} {c : Code} {b L : Nat} {xs : Nat → Int32} {G : kG} {hA : Nat} {a : Nat → Nat} {hM : Nat} {q : Nat → Nat} {i : Nat} {Q : State → Prop} (C0 : lw_At p s m meth c b L xs) (hK : kk G s) (hi : i + 6 ≤ L) (hL : L ≤ 3072) (K : LG p l e s m below meth c b G hA a hM q i Q 984) : LG p l e s m below meth c b G hA a hM q i Q 889 := by
  obtain ⟨hx, hb, hr, hml, hown, hts0, hX, hbl, hlocks, hgv⟩ := C0
  have hts : ∀ w ∈ wsL_law, w.before #[Value.ref b] s = true := fun w h => hts0 w (wsL_law_in w h)
  have hown : s.vm.findClass RL = some m.cls := hown
  have hA9 : ∀ q : Nat, s.heap.size ≤ q → (fun q : Nat => s.heap.size ≤ q) q := fun _ h => h
  have hbA : ¬ (fun q : Nat => s.heap.size ≤ q) b := Nat.not_le.mpr hbl
  intro A X M H locs ls hXI hMI hP hD hS hl
  obtain ⟨σ, N, T, P, C, I⟩ := A
  refine lv_aload_n hx hb dL_law_889 rfl (lv_at hl 1 rfl) ?_
  refine ca_L (wx := XW G hA a X) (wm := MW G hM q M) (va_runV (As := []) (rest := []) ⟨hx, hb, hml, hown, hts⟩ (x_forget l G hA a X σ N T P C I hXI _) (cwV 0 hts gL_law_X7_forget rfl rfl rfl (by decide +kernel) ⟨Nat.le_of_ble_eq_true rfl, Nat.le_of_ble_eq_true rfl⟩) (cPre_L hK hP hD (nd_L G hA a X) 7 rfl rfl) rfl rfl hl.1 rfl (lv_room (Nat.le_of_ble_eq_true rfl)) dL_law_890 ⟨Nat.le_of_ble_eq_true rfl, Nat.le_of_ble_eq_true rfl⟩) hP hD hS hA9 (nd_R G hA a X hM q M) (fun r1 X1 H locs q1 hP hD hS => ?_)
  refine lv_aload_n hx hb dL_law_893 rfl (lv_at hl 2 rfl) ?_
  refine ca_R (wx := XW G hA a X1) (wm := MW G hM q M) (va_runV (As := []) (rest := [.int r1]) ⟨hx, hb, hml, hown, hts⟩ (y_forget l G hM q M σ N T P C I hMI _) (cwV 0 hts gL_law_X8_forget rfl rfl rfl (by decide +kernel) ⟨Nat.le_of_ble_eq_true rfl, Nat.le_of_ble_eq_true rfl⟩) (cPre_R hK hP hD (nd_R G hA a X1 hM q M) 8 rfl rfl) rfl rfl hl.1 rfl (lv_room (Nat.le_of_ble_eq_true rfl)) dL_law_894 ⟨Nat.le_of_ble_eq_true rfl, Nat.le_of_ble_eq_true rfl⟩) hP hD hS hA9 (nd_L G hA a X1) (fun r2 M1 H locs q2 hP hD hS => ?_)
  have e12 : r1 = r2 := q1.1.trans q2.1.symm
  refine lv_icmp_eq (tgt := 984) hx hb dL_law_897 (by decide) (fun c9 => ?_) (fun c9 => ?_)
  · exact K _ _ _ _ _ _ q1.2 q2.2 hP hD hS hl
  · exact absurd e12 c9
set_option maxHeartbeats 4000000 in
set_option maxRecDepth 100000 in
theorem lc_unseen {p : Program} {l : Launch} {e : Env} {s : State} {m : MethodId} {below : List Frame} {meth : Method} {c : Code} {b L : Nat} {xs : Nat → Int32} {G : kG} {hA : Nat} {a : Nat → Nat} {hM : Nat} {q : Nat → Nat} {i : Nat} {Q : State → Prop} (C0 : lw_At p s m meth c b L xs) (hK : kk G s) (hi : i + 6 ≤ L) (hL : L ≤ 3072) (K : LG p l e s m below meth c b G hA a hM q i Q 984) : LG p l e s m below meth c b G hA a hM q i Q 902 := by
  obtain ⟨hx, hb, hr, hml, hown, hts0, hX, hbl, hlocks, hgv⟩ := C0
  have hts : ∀ w ∈ wsL_law, w.before #[Value.ref b] s = true := fun w h => hts0 w (wsL_law_in w h)
  have hown : s.vm.findClass RL = some m.cls := hown
  have hA9 : ∀ q : Nat, s.heap.size ≤ q → (fun q : Nat => s.heap.size ≤ q) q := fun _ h => h
  have hbA : ¬ (fun q : Nat => s.heap.size ≤ q) b := Nat.not_le.mpr hbl
  intro A X M H locs ls hXI hMI hP hD hS hl
  obtain ⟨σ, N, T, P, C, I⟩ := A
  refine lv_aload_n hx hb dL_law_902 rfl (lv_at hl 1 rfl) ?_
  refine ca_L (wx := XW G hA a X) (wm := MW G hM q M) (va_runV (As := []) (rest := []) ⟨hx, hb, hml, hown, hts⟩ (x_unseen l G hA a X σ N T P C I hXI _) (cwV 0 hts gL_law_X7_unseen rfl rfl rfl (by decide +kernel) ⟨Nat.le_of_ble_eq_true rfl, Nat.le_of_ble_eq_true rfl⟩) (cPre_L hK hP hD (nd_L G hA a X) 7 rfl rfl) rfl rfl hl.1 rfl (lv_room (Nat.le_of_ble_eq_true rfl)) dL_law_903 ⟨Nat.le_of_ble_eq_true rfl, Nat.le_of_ble_eq_true rfl⟩) hP hD hS hA9 (nd_R G hA a X hM q M) (fun r1 X1 H locs q1 hP hD hS => ?_)
  refine lv_aload_n hx hb dL_law_906 rfl (lv_at hl 2 rfl) ?_
  refine ca_R (wx := XW G hA a X1) (wm := MW G hM q M) (va_runV (As := []) (rest := [.int r1]) ⟨hx, hb, hml, hown, hts⟩ (y_unseen l G hM q M σ N T P C I hMI _) (cwV 0 hts gL_law_X8_unseen rfl rfl rfl (by decide +kernel) ⟨Nat.le_of_ble_eq_true rfl, Nat.le_of_ble_eq_true rfl⟩) (cPre_R hK hP hD (nd_R G hA a X1 hM q M) 8 rfl rfl) rfl rfl hl.1 rfl (lv_room (Nat.le_of_ble_eq_true rfl)) dL_law_907 ⟨Nat.le_of_ble_eq_true rfl, Nat.le_of_ble_eq_true rfl⟩) hP hD hS hA9 (nd_L G hA a X1) (fun r2 M1 H locs q2 hP hD hS => ?_)
  have e12 : r1 = r2 := q1.1.trans q2.1.symm
  refine lv_icmp_eq (tgt := 984) hx hb dL_law_910 (by decide) (fun c9 => ?_) (fun c9 => ?_)
  · exact K _ _ _ _ _ _ q1.2 q2.2 hP hD hS hl
  · exact absurd e12 c9
set_option maxHeartbeats 4000000 in
set_option maxRecDepth 100000 in
theorem lc_keep {p : Program} {l : Launch} {e : Env} {s : State} {m : MethodId} {below : List Frame} {meth : Method} {c : Code} {b L : Nat} {xs : Nat → Int32} {G : kG} {hA : Nat} {a : Nat → Nat} {hM : Nat} {q : Nat → Nat} {i : Nat} {Q : State → Prop} (C0 : lw_At p s m meth c b L xs) (hK : kk G s) (hi : i + 6 ≤ L) (hL : L ≤ 3072) (K : LG p l e s m below meth c b G hA a hM q i Q 984) : LG p l e s m below meth c b G hA a hM q i Q 915 := by
  obtain ⟨hx, hb, hr, hml, hown, hts0, hX, hbl, hlocks, hgv⟩ := C0
  have hts : ∀ w ∈ wsL_law, w.before #[Value.ref b] s = true := fun w h => hts0 w (wsL_law_in w h)
  have hown : s.vm.findClass RL = some m.cls := hown
  have hA9 : ∀ q : Nat, s.heap.size ≤ q → (fun q : Nat => s.heap.size ≤ q) q := fun _ h => h
  have hbA : ¬ (fun q : Nat => s.heap.size ≤ q) b := Nat.not_le.mpr hbl
  intro A X M H locs ls hXI hMI hP hD hS hl
  obtain ⟨σ, N, T, P, C, I⟩ := A
  refine lv_aload_n hx hb dL_law_915 rfl (lv_at hl 1 rfl) ?_
  refine lv_aload_n hx hb dL_law_916 rfl (lv_at hl 0 rfl) ?_
  refine lv_iload_n hx hb dL_law_917 rfl (lv_at hl 3 rfl) ?_
  refine lv_iconst (v := 1) hx hb dL_law_918 (by decide) ?_
  refine lv_iadd hx hb dL_law_919 ?_
  refine top_i (y := nI (i + 1)) (nI_add i 1) ?_
  refine va_sld hx hb hX hbl hbA hS (vp_in_nI (by omega) (by omega)) dL_law_920 ?_
  refine ca_L (wx := XW G hA a X) (wm := MW G hM q M) (va_runV (As := [.int (xs (nI (i + 1)).toNatClampNeg)]) (rest := []) ⟨hx, hb, hml, hown, hts⟩ (x_keep l G hA a X σ N T P C I (xs (nI (i + 1)).toNatClampNeg) hXI _) (cwV 1 hts gL_law_X7_keep rfl rfl rfl (by decide +kernel) ⟨Nat.le_of_ble_eq_true rfl, Nat.le_of_ble_eq_true rfl⟩) (cPre_L hK hP hD (nd_L G hA a X) 7 rfl rfl) rfl rfl hl.1 rfl (lv_room (Nat.le_of_ble_eq_true rfl)) dL_law_921 ⟨Nat.le_of_ble_eq_true rfl, Nat.le_of_ble_eq_true rfl⟩) hP hD hS hA9 (nd_R G hA a X hM q M) (fun r1 X1 H locs q1 hP hD hS => ?_)
  refine lv_aload_n hx hb dL_law_924 rfl (lv_at hl 2 rfl) ?_
  refine lv_aload_n hx hb dL_law_925 rfl (lv_at hl 0 rfl) ?_
  refine lv_iload_n hx hb dL_law_926 rfl (lv_at hl 3 rfl) ?_
  refine lv_iconst (v := 1) hx hb dL_law_927 (by decide) ?_
  refine lv_iadd hx hb dL_law_928 ?_
  refine top_i (y := nI (i + 1)) (nI_add i 1) ?_
  refine va_sld hx hb hX hbl hbA hS (vp_in_nI (by omega) (by omega)) dL_law_929 ?_
  refine ca_R (wx := XW G hA a X1) (wm := MW G hM q M) (va_runV (As := [.int (xs (nI (i + 1)).toNatClampNeg)]) (rest := [.int r1]) ⟨hx, hb, hml, hown, hts⟩ (y_keep l G hM q M σ N T P C I (xs (nI (i + 1)).toNatClampNeg) hMI _) (cwV 1 hts gL_law_X8_keep rfl rfl rfl (by decide +kernel) ⟨Nat.le_of_ble_eq_true rfl, Nat.le_of_ble_eq_true rfl⟩) (cPre_R hK hP hD (nd_R G hA a X1 hM q M) 8 rfl rfl) rfl rfl hl.1 rfl (lv_room (Nat.le_of_ble_eq_true rfl)) dL_law_930 ⟨Nat.le_of_ble_eq_true rfl, Nat.le_of_ble_eq_true rfl⟩) hP hD hS hA9 (nd_L G hA a X1) (fun r2 M1 H locs q2 hP hD hS => ?_)
  have e12 : r1 = r2 := q1.1.trans q2.1.symm
  refine lv_icmp_eq (tgt := 984) hx hb dL_law_933 (by decide) (fun c9 => ?_) (fun c9 => ?_)
  · exact K _ _ _ _ _ _ q1.2 q2.2 hP hD hS hl
  · exact absurd e12 c9
set_option maxHeartbeats 4000000 in
set_option maxRecDepth 100000 in
theorem lc_back {p : Program} {l : Launch} {e : Env} {s : State} {m : MethodId} {below : List Frame} {meth : Method} {c : Code} {b L : Nat} {xs : Nat → Int32} {G : kG} {hA : Nat} {a : Nat → Nat} {hM : Nat} {q : Nat → Nat} {i : Nat} {Q : State → Prop} (C0 : lw_At p s m meth c b L xs) (hK : kk G s) (hi : i + 6 ≤ L) (hL : L ≤ 3072) (K : LG p l e s m below meth c b G hA a hM q i Q 984) : LG p l e s m below meth c b G hA a hM q i Q 938 := by
  obtain ⟨hx, hb, hr, hml, hown, hts0, hX, hbl, hlocks, hgv⟩ := C0
  have hts : ∀ w ∈ wsL_law, w.before #[Value.ref b] s = true := fun w h => hts0 w (wsL_law_in w h)
  have hown : s.vm.findClass RL = some m.cls := hown
  have hA9 : ∀ q : Nat, s.heap.size ≤ q → (fun q : Nat => s.heap.size ≤ q) q := fun _ h => h
  have hbA : ¬ (fun q : Nat => s.heap.size ≤ q) b := Nat.not_le.mpr hbl
  intro A X M H locs ls hXI hMI hP hD hS hl
  obtain ⟨σ, N, T, P, C, I⟩ := A
  refine lv_aload_n hx hb dL_law_938 rfl (lv_at hl 1 rfl) ?_
  refine lv_aload_n hx hb dL_law_939 rfl (lv_at hl 0 rfl) ?_
  refine lv_iload_n hx hb dL_law_940 rfl (lv_at hl 3 rfl) ?_
  refine lv_iconst (v := 1) hx hb dL_law_941 (by decide) ?_
  refine lv_iadd hx hb dL_law_942 ?_
  refine top_i (y := nI (i + 1)) (nI_add i 1) ?_
  refine va_sld hx hb hX hbl hbA hS (vp_in_nI (by omega) (by omega)) dL_law_943 ?_
  refine ca_L (wx := XW G hA a X) (wm := MW G hM q M) (va_runV (As := [.int (xs (nI (i + 1)).toNatClampNeg)]) (rest := []) ⟨hx, hb, hml, hown, hts⟩ (x_back l G hA a X σ N T P C I (xs (nI (i + 1)).toNatClampNeg) hXI _) (cwV 1 hts gL_law_X7_back rfl rfl rfl (by decide +kernel) ⟨Nat.le_of_ble_eq_true rfl, Nat.le_of_ble_eq_true rfl⟩) (cPre_L hK hP hD (nd_L G hA a X) 7 rfl rfl) rfl rfl hl.1 rfl (lv_room (Nat.le_of_ble_eq_true rfl)) dL_law_944 ⟨Nat.le_of_ble_eq_true rfl, Nat.le_of_ble_eq_true rfl⟩) hP hD hS hA9 (nd_R G hA a X hM q M) (fun r1 X1 H locs q1 hP hD hS => ?_)
  refine lv_aload_n hx hb dL_law_947 rfl (lv_at hl 2 rfl) ?_
  refine lv_aload_n hx hb dL_law_948 rfl (lv_at hl 0 rfl) ?_
  refine lv_iload_n hx hb dL_law_949 rfl (lv_at hl 3 rfl) ?_
  refine lv_iconst (v := 1) hx hb dL_law_950 (by decide) ?_
  refine lv_iadd hx hb dL_law_951 ?_
  refine top_i (y := nI (i + 1)) (nI_add i 1) ?_
  refine va_sld hx hb hX hbl hbA hS (vp_in_nI (by omega) (by omega)) dL_law_952 ?_
  refine ca_R (wx := XW G hA a X1) (wm := MW G hM q M) (va_runV (As := [.int (xs (nI (i + 1)).toNatClampNeg)]) (rest := [.int r1]) ⟨hx, hb, hml, hown, hts⟩ (y_back l G hM q M σ N T P C I (xs (nI (i + 1)).toNatClampNeg) hMI _) (cwV 1 hts gL_law_X8_back rfl rfl rfl (by decide +kernel) ⟨Nat.le_of_ble_eq_true rfl, Nat.le_of_ble_eq_true rfl⟩) (cPre_R hK hP hD (nd_R G hA a X1 hM q M) 8 rfl rfl) rfl rfl hl.1 rfl (lv_room (Nat.le_of_ble_eq_true rfl)) dL_law_953 ⟨Nat.le_of_ble_eq_true rfl, Nat.le_of_ble_eq_true rfl⟩) hP hD hS hA9 (nd_L G hA a X1) (fun r2 M1 H locs q2 hP hD hS => ?_)
  have e12 : r1 = r2 := q1.1.trans q2.1.symm
  refine lv_icmp_eq (tgt := 984) hx hb dL_law_956 (by decide) (fun c9 => ?_) (fun c9 => ?_)
  · exact K _ _ _ _ _ _ q1.2 q2.2 hP hD hS hl
  · exact absurd e12 c9
set_option maxHeartbeats 4000000 in
set_option maxRecDepth 100000 in
theorem lc_count {p : Program} {l : Launch} {e : Env} {s : State} {m : MethodId} {below : List Frame} {meth : Method} {c : Code} {b L : Nat} {xs : Nat → Int32} {G : kG} {hA : Nat} {a : Nat → Nat} {hM : Nat} {q : Nat → Nat} {i : Nat} {Q : State → Prop} (C0 : lw_At p s m meth c b L xs) (hK : kk G s) (hi : i + 6 ≤ L) (hL : L ≤ 3072) (K : LG p l e s m below meth c b G hA a hM q i Q 984) : LG p l e s m below meth c b G hA a hM q i Q 961 := by
  obtain ⟨hx, hb, hr, hml, hown, hts0, hX, hbl, hlocks, hgv⟩ := C0
  have hts : ∀ w ∈ wsL_law, w.before #[Value.ref b] s = true := fun w h => hts0 w (wsL_law_in w h)
  have hown : s.vm.findClass RL = some m.cls := hown
  have hA9 : ∀ q : Nat, s.heap.size ≤ q → (fun q : Nat => s.heap.size ≤ q) q := fun _ h => h
  have hbA : ¬ (fun q : Nat => s.heap.size ≤ q) b := Nat.not_le.mpr hbl
  intro A X M H locs ls hXI hMI hP hD hS hl
  obtain ⟨σ, N, T, P, C, I⟩ := A
  refine lv_aload_n hx hb dL_law_961 rfl (lv_at hl 1 rfl) ?_
  refine lv_aload_n hx hb dL_law_962 rfl (lv_at hl 0 rfl) ?_
  refine lv_iload_n hx hb dL_law_963 rfl (lv_at hl 3 rfl) ?_
  refine lv_iconst (v := 1) hx hb dL_law_964 (by decide) ?_
  refine lv_iadd hx hb dL_law_965 ?_
  refine top_i (y := nI (i + 1)) (nI_add i 1) ?_
  refine va_sld hx hb hX hbl hbA hS (vp_in_nI (by omega) (by omega)) dL_law_966 ?_
  refine ca_L (wx := XW G hA a X) (wm := MW G hM q M) (va_runV (As := [.int (xs (nI (i + 1)).toNatClampNeg)]) (rest := []) ⟨hx, hb, hml, hown, hts⟩ (x_count l G hA a X σ N T P C I (xs (nI (i + 1)).toNatClampNeg) hXI _) (cwV 1 hts gL_law_X7_count rfl rfl rfl (by decide +kernel) ⟨Nat.le_of_ble_eq_true rfl, Nat.le_of_ble_eq_true rfl⟩) (cPre_L hK hP hD (nd_L G hA a X) 7 rfl rfl) rfl rfl hl.1 rfl (lv_room (Nat.le_of_ble_eq_true rfl)) dL_law_967 ⟨Nat.le_of_ble_eq_true rfl, Nat.le_of_ble_eq_true rfl⟩) hP hD hS hA9 (nd_R G hA a X hM q M) (fun r1 X1 H locs q1 hP hD hS => ?_)
  refine lv_aload_n hx hb dL_law_970 rfl (lv_at hl 2 rfl) ?_
  refine lv_aload_n hx hb dL_law_971 rfl (lv_at hl 0 rfl) ?_
  refine lv_iload_n hx hb dL_law_972 rfl (lv_at hl 3 rfl) ?_
  refine lv_iconst (v := 1) hx hb dL_law_973 (by decide) ?_
  refine lv_iadd hx hb dL_law_974 ?_
  refine top_i (y := nI (i + 1)) (nI_add i 1) ?_
  refine va_sld hx hb hX hbl hbA hS (vp_in_nI (by omega) (by omega)) dL_law_975 ?_
  refine ca_R (wx := XW G hA a X1) (wm := MW G hM q M) (va_runV (As := [.int (xs (nI (i + 1)).toNatClampNeg)]) (rest := [.int r1]) ⟨hx, hb, hml, hown, hts⟩ (y_count l G hM q M σ N T P C I (xs (nI (i + 1)).toNatClampNeg) hMI _) (cwV 1 hts gL_law_X8_count rfl rfl rfl (by decide +kernel) ⟨Nat.le_of_ble_eq_true rfl, Nat.le_of_ble_eq_true rfl⟩) (cPre_R hK hP hD (nd_R G hA a X1 hM q M) 8 rfl rfl) rfl rfl hl.1 rfl (lv_room (Nat.le_of_ble_eq_true rfl)) dL_law_976 ⟨Nat.le_of_ble_eq_true rfl, Nat.le_of_ble_eq_true rfl⟩) hP hD hS hA9 (nd_L G hA a X1) (fun r2 M1 H locs q2 hP hD hS => ?_)
  have e12 : r1 = r2 := q1.1.trans q2.1.symm
  refine lv_icmp_eq (tgt := 984) hx hb dL_law_979 (by decide) (fun c9 => ?_) (fun c9 => ?_)
  · exact K _ _ _ _ _ _ q1.2 q2.2 hP hD hS hl
  · exact absurd e12 c9
