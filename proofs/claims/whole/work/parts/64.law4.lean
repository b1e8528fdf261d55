def X00 : XS := (fun i k => if (i = 2 ∨ i = 11) ∧ k = 7 then 1 else 0, fun _ _ => 0, fun _ => 0)
def A00 : AS := (PS0, (0, fun _ => 0, fun _ => 0), (0, fun _ => 0), (0, fun _ => (0, fun _ => 0, fun _ => 0)), (0, fun _ => 0, fun _ => 0, fun _ => false), (fun _ => false, fun _ => (0, fun _ => 0, fun _ => 0)))
theorem XI00 : XI A00 X00 := by
  refine ⟨⟨rfl, rfl, okT_0⟩, ⟨okPS0, ⟨rfl, rfl, rfl⟩, arL_0 (fun _ _ => rfl), fun i hi => ?_⟩, ⟨rfl, Nat.zero_le _, fun k hk => absurd hk (Nat.not_lt_zero k)⟩, ⟨0, by omega, rfl, rfl, Nat.zero_le _, fun i hi => absurd hi (Nat.not_lt_zero i)⟩, Or.inl rfl, ⟨⟨rfl, Nat.zero_le _, fun k hk => absurd hk (Nat.not_lt_zero k)⟩, fun k hk => absurd hk (Nat.not_lt_zero k)⟩, fun i hi => ⟨rfl, fun q => by cases q⟩⟩
  rw [gvis, if_pos (show X00.2.1 8 i = 0 from rfl)]; rfl
theorem kn_in {w : Cond} {i : Nat} (h : tables_1[i]? = some w) : w ∈ lw_tbl := List.mem_append_right _ (List.mem_of_getElem? h)
theorem kn0_in : kn0 ∈ lw_tbl := kn_in (i := 21) (by decide +kernel)
theorem kn1_in : kn1 ∈ lw_tbl := kn_in (i := 48) (by decide +kernel)
theorem kn2_in : kn2 ∈ lw_tbl := kn_in (i := 105) (by decide +kernel)
theorem kn3_in : kn3 ∈ lw_tbl := kn_in (i := 133) (by decide +kernel)
theorem kn4_in : kn4 ∈ lw_tbl := kn_in (i := 153) (by decide +kernel)
theorem kn5_in : kn5 ∈ lw_tbl := kn_in (i := 206) (by decide +kernel)
theorem kn6_in : kn6 ∈ lw_tbl := kn_in (i := 305) (by decide +kernel)
theorem ac_i_in : (Cond.arrayClass .int) ∈ lw_tbl := kn_in (i := 45) (by decide +kernel)
theorem ac_z_in : (Cond.arrayClass .boolean) ∈ lw_tbl := kn_in (i := 102) (by decide +kernel)
theorem ac_j_in : (Cond.arrayClass .long) ∈ lw_tbl := kn_in (i := 203) (by decide +kernel)
theorem ao_in : (Cond.arrayOver (.object "HorizonPeaks$Notches")) ∈ lw_tbl := kn_in (i := 132) (by decide +kernel)
theorem arr_of {ty : FieldType} {s : State} {A : Array Value} (h : (Cond.arrayClass ty).before A s = true) : ∃ c : ClassId, ArrOfT s c ty ∧ s.vm.findClass ("[" ++ ty.toString) = some c := by
  obtain ⟨c, k, comp, h1, h2, h3⟩ := Cond.arrayClass_spec h
  exact ⟨c, fun n z => ⟨fun k h => (by cases h), k, h2, comp, h3⟩, h1⟩
theorem arr_ofN {C : String} {s : State} {A : Array Value} (h : (Cond.arrayOver (.object C)).before A s = true) : ∃ c : ClassId, ArrOfT s c (.object C) ∧ va_RA s c (.object C) := by
  obtain ⟨comp, c, k, h1, h2, h3, h4, h5⟩ := Cond.arrayOver_spec h
  exact ⟨c, fun n z => ⟨fun k h => (by cases h), k, h3, comp, h4⟩, k, comp, h3, h4, h1, h5⟩
theorem kk_start {s : State} {b : Nat} (hts0 : ∀ w ∈ lw_tbl, w.before #[Value.ref b] s = true) : ∃ G : kG, kk G s := by
  have hts : ∀ w ∈ wsL_law, w.before #[Value.ref b] s = true := fun w h => hts0 w (wsL_law_in w h)
  obtain ⟨c0, i0, hk0⟩ := u_known (C := RX0) (T := TX0) (N := 4) (n := 4) hts inlX0 (hts (.instantiable RX0 4) (by decide +kernel))
  obtain ⟨c1, i1, hk1⟩ := u_known (C := RX1) (T := TX1) (N := 11) (n := 11) hts inlX1 (hts (.instantiable RX1 11) (by decide +kernel))
  obtain ⟨c2, i2, hk2⟩ := u_known (C := RX2) (T := TX2) (N := 3) (n := 3) hts inlX2 (hts (.instantiable RX2 3) (by decide +kernel))
  obtain ⟨c3, i3, hk3⟩ := u_known (C := RX3) (T := TX3) (N := 3) (n := 3) hts inlX3 (hts (.instantiable RX3 3) (by decide +kernel))
  obtain ⟨c4, i4, hk4⟩ := u_known (C := RX4) (T := TX4) (N := 3) (n := 3) hts inlX4 (hts (.instantiable RX4 3) (by decide +kernel))
  obtain ⟨c5, i5, hk5⟩ := u_known (C := RX5) (T := TX5) (N := 6) (n := 6) hts inlX5 (hts (.instantiable RX5 6) (by decide +kernel))
  obtain ⟨c6, i6, hk6⟩ := u_known (C := RX6) (T := TX6) (N := 10) (n := 10) hts inlX6 (hts (.instantiable RX6 10) (by decide +kernel))
  obtain ⟨c7, i7, hk7⟩ := u_known (C := RX7) (T := TX7) (N := 9) (n := 9) hts inlX7 (hts (.instantiable RX7 9) (by decide +kernel))
  obtain ⟨c8, i8, hk8⟩ := u_known (C := RX8) (T := TX8) (N := 44) (n := 44) hts inlX8 (hts (.instantiable RX8 44) (by decide +kernel))
  obtain ⟨ai, hai1, hai2⟩ := arr_of (hts0 _ ac_i_in)
  obtain ⟨aj, haj1, haj2⟩ := arr_of (hts0 _ ac_j_in)
  obtain ⟨az, haz1, haz2⟩ := arr_of (hts0 _ ac_z_in)
  obtain ⟨an, han1, han2⟩ := arr_ofN (hts0 _ ao_in)
  refine ⟨((fun k => match k with | 0 => c0 | 1 => c1 | 2 => c2 | 3 => c3 | 4 => c4 | 5 => c5 | 6 => c6 | 7 => c7 | _ => c8, fun k => match k with | 0 => i0 | 1 => i1 | 2 => i2 | 3 => i3 | 4 => i4 | 5 => i5 | 6 => i6 | 7 => i7 | _ => i8), (ai, aj, az, an)), ⟨?_, ?_⟩, va_AO.of (hts0 _ ao_in), va_Nw.of rfl (hts0 _ kn0_in), va_Nw.of rfl (hts0 _ kn1_in), va_Nw.of rfl (hts0 _ kn2_in), va_Nw.of rfl (hts0 _ kn3_in), va_Nw.of rfl (hts0 _ kn4_in), va_Nw.of rfl (hts0 _ kn5_in), va_Nw.of rfl (hts0 _ kn6_in)⟩
  · intro k w hw
    match k, hw with
    | 0, hw => cases hw; exact hk0
    | 1, hw => cases hw; exact hk1
    | 2, hw => cases hw; exact hk2
    | 3, hw => cases hw; exact hk3
    | 4, hw => cases hw; exact hk4
    | 5, hw => cases hw; exact hk5
    | 6, hw => cases hw; exact hk6
    | 7, hw => cases hw; exact hk7
    | 8, hw => cases hw; exact hk8
    | k + 9, hw => simp [vwCl] at hw
  · intro k w hw
    match k, hw with
    | 0, hw => cases hw; exact ⟨hai1, hai2⟩
    | 1, hw => cases hw; exact ⟨haj1, haj2⟩
    | 2, hw => cases hw; exact ⟨haz1, haz2⟩
    | 3, hw => cases hw; exact ⟨han1, han2⟩
    | k + 4, hw => simp [kTy] at hw
set_option maxHeartbeats 4000000 in
set_option maxRecDepth 100000 in
theorem whole_start {p : Program} {e : Env} {s : State} {m : MethodId} {below : List Frame} {meth : Method} {c : Code} (l : Launch) (hflags : l.flags = flags0) {b L : Nat} {xs : Nat → Int32} (hL : L ≤ 3072) (C0 : lw_At p s m meth c b L xs) : W p l e room_1 s m #[Value.ref b] below meth c s.heap [] 0 0 (lw_Z below #[Value.ref b] s) (entryFrame m ([Value.ref b] : List Value).toArray 4) := by
  obtain ⟨hx, hb, hr, hml, hown, hts0, hX, hbl, hlocks, hgv⟩ := id C0
  have hts : ∀ w ∈ wsL_law, w.before #[Value.ref b] s = true := fun w h => hts0 w (wsL_law_in w h)
  have hown : s.vm.findClass RL = some m.cls := hown
  have hA9 : ∀ q : Nat, s.heap.size ≤ q → (fun q : Nat => s.heap.size ≤ q) q := fun _ h => h
  obtain ⟨G, hK⟩ := kk_start hts0
  have hS : va_S (fun q : Nat => s.heap.size ≤ q) s.heap s.heap [] := va_S.rf
  have hP : va_P G.1 vwCl [] s.heap := fun k q h => by simp at h
  have hD : va_D (fun q : Nat => s.heap.size ≤ q) [] := ⟨fun i j p q h => by simp at h, fun k q h => by simp at h⟩
  have hl := lv_entry ([.ref b]) (n := 4) (Nat.le_of_ble_eq_true rfl)
  rw [lg_entry_eq]
  generalize (lg_sl ([.ref b]) ++ List.replicate (4 - (lg_sl ([.ref b])).length) Slot.unset).toArray = ls at hl ⊢
  have hl : lv_has ls 4 [(0, .ref b)] := hl
  refine va_new (D := G.1) (ci := 7) (fs := [.null, .null, .null, .null, .null, .null, .null, .null, .null]) (C := RX7) (T := TX7) (N := 9) hx hb hts inlX7 tyX7 tyX7_ok hown (hts (.classLink RL 7 RX7) (by decide +kernel)) (hts (.instantiable RX7 9) (by decide +kernel)) (hts (.initialized RX7) (by decide +kernel)) hK.1 hP hD hS hA9 rfl (fun j hj => match j, hj with | 0, _ => rfl | 1, _ => rfl | 2, _ => rfl | 3, _ => rfl | 4, _ => rfl | 5, _ => rfl | 6, _ => rfl | 7, _ => rfl | 8, _ => rfl | _ + 9, h9 => absurd h9 (by omega)) (Nat.le_of_ble_eq_true rfl) (Nat.le_of_ble_eq_true rfl) dL_law_0 (fun hA H hP hD hS => ?_)
  have hP : va_P G.1 vwCl ([] ++ [oB hA 7 [.null, .null, .null, .null, .null, .null, .null, .null, .null]]) H := hP
  have hD : va_D (fun q : Nat => s.heap.size ≤ q) ([] ++ [oB hA 7 [.null, .null, .null, .null, .null, .null, .null, .null, .null]]) := hD
  refine lv_dup hx hb dL_law_3 rfl ?_
  refine ca_Rv (wx := []) (wm := [oB hA 7 [.null, .null, .null, .null, .null, .null, .null, .null, .null]]) (va_runI (As := []) (rest := [.ref hA]) ⟨hx, hb, hml, hown, hts⟩ (c_X7_init l G hA _) (cwI 0 hts gL_law_X7_init rfl rfl rfl (hts (.initialized RX7) (by decide +kernel)) (hts (.methodLink RL 9 yX7_init) (by decide +kernel)) (hts (.instanceMethod yX7_init) (by decide +kernel)) rfl (by decide +kernel) ⟨Nat.le_of_ble_eq_true rfl, Nat.le_of_ble_eq_true rfl⟩) (cPre_S hK hP hD [0] (by decide) rfl) rfl rfl hl.1 rfl (lv_room (Nat.le_of_ble_eq_true rfl)) dL_law_4 ⟨Nat.le_of_ble_eq_true rfl, Nat.le_of_ble_eq_true rfl⟩) hP hD hS hA9 (by decide) (fun a H locs _ hP hD hS => ?_)
  have hP : va_P G.1 vwCl (XW G hA a X00) H := hP
  have hD : va_D (fun q : Nat => s.heap.size ≤ q) (XW G hA a X00) := hD
  refine lv_astore_n (lv' := [(1, .ref hA), (0, .ref b)]) hx hb dL_law_7 rfl hl (by decide) rfl (fun ls hl => ?_)
  refine va_new (D := G.1) (ci := 8) (fs := [.int 0, .int 0, .null, .null, .null, .int 0, .null, .null, .int 0, .null, .null, .null, .null, .null, .null, .int 0, .null, .null, .int 0, .null, .null, .null, .int 0, .null, .int 0, .int 0, .int 0, .int 0, .int 0, .null, .null, .null, .int 0, .null, .null, .int 0, .null, .null, .null, .null, .null, .int 0, .int 0, .int 0]) (C := RX8) (T := TX8) (N := 44) hx hb hts inlX8 tyX8 tyX8_ok hown (hts (.classLink RL 10 RX8) (by decide +kernel)) (hts (.instantiable RX8 44) (by decide +kernel)) (hts (.initialized RX8) (by decide +kernel)) hK.1 hP hD hS hA9 rfl (fun j hj => match j, hj with | 0, _ => rfl | 1, _ => rfl | 2, _ => rfl | 3, _ => rfl | 4, _ => rfl | 5, _ => rfl | 6, _ => rfl | 7, _ => rfl | 8, _ => rfl | 9, _ => rfl | 10, _ => rfl | 11, _ => rfl | 12, _ => rfl | 13, _ => rfl | 14, _ => rfl | 15, _ => rfl | 16, _ => rfl | 17, _ => rfl | 18, _ => rfl | 19, _ => rfl | 20, _ => rfl | 21, _ => rfl | 22, _ => rfl | 23, _ => rfl | 24, _ => rfl | 25, _ => rfl | 26, _ => rfl | 27, _ => rfl | 28, _ => rfl | 29, _ => rfl | 30, _ => rfl | 31, _ => rfl | 32, _ => rfl | 33, _ => rfl | 34, _ => rfl | 35, _ => rfl | 36, _ => rfl | 37, _ => rfl | 38, _ => rfl | 39, _ => rfl | 40, _ => rfl | 41, _ => rfl | 42, _ => rfl | 43, _ => rfl | _ + 44, h9 => absurd h9 (by omega)) (Nat.le_of_ble_eq_true rfl) (Nat.le_of_ble_eq_true rfl) dL_law_8 (fun hM H hP hD hS => ?_)
  have hP : va_P G.1 vwCl (XW G hA a X00 ++ [oB hM 8 [.int 0, .int 0, .null, .null, .null, .int 0, .null, .null, .int 0, .null, .null, .null, .null, .null, .null, .int 0, .null, .null, .int 0, .null, .null, .null, .int 0, .null, .int 0, .int 0, .int 0, .int 0, .int 0, .null, .null, .null, .int 0, .null, .null, .int 0, .null, .null, .null, .null, .null, .int 0, .int 0, .int 0]]) H := hP
  have hD : va_D (fun q : Nat => s.heap.size ≤ q) (XW G hA a X00 ++ [oB hM 8 [.int 0, .int 0, .null, .null, .null, .int 0, .null, .null, .int 0, .null, .null, .null, .null, .null, .null, .int 0, .null, .null, .int 0, .null, .null, .null, .int 0, .null, .int 0, .int 0, .int 0, .int 0, .int 0, .null, .null, .null, .int 0, .null, .null, .int 0, .null, .null, .null, .null, .null, .int 0, .int 0, .int 0]]) := hD
  refine lv_dup hx hb dL_law_11 rfl ?_
  refine ca_Rv (wx := XW G hA a X00) (wm := [oB hM 8 [.int 0, .int 0, .null, .null, .null, .int 0, .null, .null, .int 0, .null, .null, .null, .null, .null, .null, .int 0, .null, .null, .int 0, .null, .null, .null, .int 0, .null, .int 0, .int 0, .int 0, .int 0, .int 0, .null, .null, .null, .int 0, .null, .null, .int 0, .null, .null, .null, .null, .null, .int 0, .int 0, .int 0]]) (va_runI (As := []) (rest := [.ref hM]) ⟨hx, hb, hml, hown, hts⟩ (c_X8_init l G hM _) (cwI 0 hts gL_law_X8_init rfl rfl rfl (hts (.initialized RX8) (by decide +kernel)) (hts (.methodLink RL 12 yX8_init) (by decide +kernel)) (hts (.instanceMethod yX8_init) (by decide +kernel)) rfl (by decide +kernel) ⟨Nat.le_of_ble_eq_true rfl, Nat.le_of_ble_eq_true rfl⟩) (cPre_S hK hP hD [75] (by decide) rfl) rfl rfl hl.1 rfl (lv_room (Nat.le_of_ble_eq_true rfl)) dL_law_12 ⟨Nat.le_of_ble_eq_true rfl, Nat.le_of_ble_eq_true rfl⟩) hP hD hS hA9 (nd_L G hA a X00) (fun u H locs hq hP hD hS => ?_)
  have hP : va_P G.1 vwCl (XW G hA a X00 ++ MW G hM u.1 (u.2.1, fun k => match k with | 2 => u.2.2.1 | 3 => u.2.2.2.1 | 4 => u.2.2.2.2.1 | 6 => u.2.2.2.2.2.1 | 7 => u.2.2.2.2.2.2.1 | 9 => u.2.2.2.2.2.2.2.1 | 10 => u.2.2.2.2.2.2.2.2.1 | 11 => u.2.2.2.2.2.2.2.2.2.1 | 12 => u.2.2.2.2.2.2.2.2.2.2.1 | 13 => u.2.2.2.2.2.2.2.2.2.2.2.1 | 17 => u.2.2.2.2.2.2.2.2.2.2.2.2 | _ => fun _ => 0)) H := hP
  have hD : va_D (fun q : Nat => s.heap.size ≤ q) (XW G hA a X00 ++ MW G hM u.1 (u.2.1, fun k => match k with | 2 => u.2.2.1 | 3 => u.2.2.2.1 | 4 => u.2.2.2.2.1 | 6 => u.2.2.2.2.2.1 | 7 => u.2.2.2.2.2.2.1 | 9 => u.2.2.2.2.2.2.2.1 | 10 => u.2.2.2.2.2.2.2.2.1 | 11 => u.2.2.2.2.2.2.2.2.2.1 | 12 => u.2.2.2.2.2.2.2.2.2.2.1 | 13 => u.2.2.2.2.2.2.2.2.2.2.2.1 | 17 => u.2.2.2.2.2.2.2.2.2.2.2.2 | _ => fun _ => 0)) := hD
  refine W.widen (k := 103) (n := 7015) (Nat.le_of_ble_eq_true rfl) (Nat.le_of_ble_eq_true rfl) ?_
  refine lv_astore_n (lv' := [(2, .ref hM), (1, .ref hA), (0, .ref b)]) hx hb dL_law_15 rfl hl (by decide) rfl (fun ls hl => ?_)
  refine lv_iconst (v := 0) hx hb dL_law_16 (by decide) ?_
  refine lv_istore_n (lv' := [(3, .int 0), (2, .ref hM), (1, .ref hA), (0, .ref b)]) hx hb dL_law_17 rfl hl (by decide) rfl (fun ls hl => ?_)
  have hM0 : MI A00 (u.2.1, fun k => match k with | 2 => u.2.2.1 | 3 => u.2.2.2.1 | 4 => u.2.2.2.2.1 | 6 => u.2.2.2.2.2.1 | 7 => u.2.2.2.2.2.2.1 | 9 => u.2.2.2.2.2.2.2.1 | 10 => u.2.2.2.2.2.2.2.2.1 | 11 => u.2.2.2.2.2.2.2.2.2.1 | 12 => u.2.2.2.2.2.2.2.2.2.2.1 | 13 => u.2.2.2.2.2.2.2.2.2.2.2.1 | 17 => u.2.2.2.2.2.2.2.2.2.2.2.2 | _ => fun _ => 0) := by
    obtain ⟨g1, g2, g3, g4, g5, g6, g7⟩ := hq
    refine ⟨⟨g4, rfl, okT_0⟩, g1, ⟨g5, Nat.zero_le _, fun k hk => absurd hk (Nat.not_lt_zero k)⟩, ⟨g2, Nat.zero_le _, fun i hi => absurd hi (Nat.not_lt_zero i)⟩, ⟨⟨g3, Nat.zero_le _, fun k hk => absurd hk (Nat.not_lt_zero k)⟩, fun k hk => absurd hk (Nat.not_lt_zero k)⟩, fun i hi => ⟨?_, fun q => by cases q⟩⟩
    rcases (show i = 0 ∨ i = 1 by omega) with rfl | rfl
    · exact g6
    · exact g7
  exact law_loop hL C0 hK (L + 1) 0 (Nat.zero_le L) (by omega) A00 X00 _ _ _ _ XI00 hM0 hP hD hS (lv_sub hl [3, 2, 1, 0] rfl)
