abbrev qVw (a b c d e f : Nat) : Nat → Nat := fun k => match k with
  | 0 => a
  | 1 => b
  | 2 => c
  | 3 => d
  | 8 => e
  | _ => f
/-- notches: how many, the bearing and how it stands of each -/
abbrev NL : Type := Nat × (Nat → Nat) × (Nat → Nat)
def NRep (N : NL) (vN bs zs : Nat → Int32) : Prop := vN 2 = nI N.1 ∧ N.1 ≤ 8 ∧ ∀ k, k < N.1 → bs k = nI (N.2.1 k) ∧ N.2.1 k < 64 ∧ zs k = nI (N.2.2 k) ∧ N.2.2 k ≤ 480
theorem NRep.copy {N : NL} {vN bs zs v2 b2 z2 : Nat → Int32} (h : NRep N vN bs zs) (hv : v2 2 = nI N.1) (hc : ∀ i, i < N.1 → b2 i = bs i ∧ z2 i = zs i) : NRep N v2 b2 z2 :=
  ⟨hv, h.2.1, fun k hk => by rw [(hc k hk).1, (hc k hk).2]; exact h.2.2 k hk⟩
theorem rem10 {a : Nat} (ha : a < 2147483648) : nI a - nI a / 10 * 10 = nI (a % 10) := pk_rem (d := 10) ha (by omega) (by omega)
theorem imin10 {a : Nat} (ha : a < 2147483648) : imin (nI a) 10 = nI (min a 10) := by
  rw [imin, show (10 : Int32) = nI 10 from rfl]
  by_cases c : 10 < a
  · rw [if_pos (nI_lt c ha), Nat.min_eq_right (by omega)]
  · rw [if_neg (nI_nlt (by omega) (by omega)), Nat.min_eq_left (by omega)]
abbrev rX4_push : Room := { frames := 1, cells := 0, slots := 0, locals := 22 }
set_option maxHeartbeats 4000000 in
set_option maxRecDepth 100000 in
theorem c_X4_push (l : Launch) (G : kG) (h : Nat) (v : Nat → Int32) (q : Nat → Nat) (r : Nat → Nat) (vj : Nat → Int32) (qj : Nat → Nat) (bj : Nat → Int32) (zj : Nat → Int32) (h2 : Nat) (v2 : Nat → Int32) (q2 : Nat → Nat) (bs2 : Nat → Int32) (zs2 : Nat → Int32) (j : Nat) (U : Nat) (n : Nat) (hv1 : v 1 = nI j) (hj : j < 10) (hv2 : v 2 = nI U) (hU : U ≤ 10) (hn2 : v2 2 = nI n) (hn : n ≤ 8) : Cv l G yX4_push wsX4_push rX4_push [.ref h, .ref h2] [oB h 4 (oF4 v q), aN G (q 0) 10 (fun k => some (r k)), oB (r j) 3 (oF3 vj qj), aI G (qj 0) 8 bj, aI G (qj 1) 8 zj, oB h2 3 (oF3 v2 q2), aI G (q2 0) 8 bs2, aI G (q2 1) 8 zs2] (fun (u : (Nat → Int32) × (Nat → Int32)) => ∀ i, i < n → u.1 i = bs2 i ∧ u.2 i = zs2 i) (fun u => [oB h 4 (oF4 (upd (upd v 1 (nI ((j + 1) % 10))) 2 (nI (min (U + 1) 10))) q), aN G (q 0) 10 (fun k => some (r k)), oB (r j) 3 (oF3 (upd vj 2 (nI n)) qj), aI G (qj 0) 8 u.1, aI G (qj 1) 8 u.2, oB h2 3 (oF3 v2 q2), aI G (q2 0) 8 bs2, aI G (q2 1) 8 zs2]) 0 0 := by
  refine Cv.of (cc := cX4_push) (maxL := 2) (by decide) rfl (Nat.le_of_ble_eq_true rfl) ?_
  intro pM eM sM mM bM tM cM Q A hx hb hts hown hml hnm hA hK hP hD hS hret ls hl
  have hown : sM.vm.findClass RX4 = some mM.cls := hown
  have hl : lv_has ls 2 [(0, .ref h), (1, .ref h2)] := hl
  have hin4 : ∀ w ∈ u_ws RX4 TX4 3, w ∈ wsX4_push := by decide +kernel
  have f11 := hts (.fieldLink RX4 11 "HorizonPeaks$Past" "ring" "[LHorizonPeaks$Notches;") (by decide +kernel)
  have f18 := hts (.fieldLink RX4 18 "HorizonPeaks$Past" "next" "I") (by decide +kernel)
  have f26 := hts (.fieldLink RX4 26 "HorizonPeaks$Past" "size" "I") (by decide +kernel)
  refine lv_aload_n hx hb dX4_push_0 rfl (lv_at hl 0 rfl) ?_
  refine va_get (D := G.1) (ci := 4) (v := .ref (q 0)) (C := RX4) (T := TX4) (N := 3) hx hb hts hin4 hown hK.1 hP 0 rfl rfl 0 (by decide) f11 (fun _ h9 => h9) rfl dX4_push_1 ?_
  refine lv_aload_n hx hb dX4_push_4 rfl (lv_at hl 0 rfl) ?_
  refine va_get (D := G.1) (ci := 4) (v := .int (v 1)) (C := RX4) (T := TX4) (N := 3) hx hb hts hin4 hown hK.1 hP 0 rfl rfl 1 (by decide) f18 (fun _ h9 => h9) rfl dX4_push_5 ?_
  refine top_i (y := nI j) (hv1) ?_
  refine al_n hx hb hK.1 hP 1 3 rfl rfl (j := j) (by omega) (Nat.le_of_ble_eq_true rfl) dX4_push_8 ?_
  refine lv_aload_n hx hb dX4_push_9 rfl (lv_at hl 1 rfl) ?_
  refine ca_v (wr := [oB h 4 (oF4 v q), aN G (q 0) 10 (fun k => some (r k))]) (va_runV (As := [.ref h2]) (rest := []) ⟨hx, hb, hml, hown, hts⟩ ((c_X3_become l G (r j) vj qj h2 v2 q2 bj zj bs2 zs2 n (hn2) (hn)) _) (cwV 1 hts gX4_push_X3_become rfl rfl rfl (by decide +kernel) ⟨Nat.le_of_ble_eq_true rfl, Nat.le_of_ble_eq_true rfl⟩) (cPre_V hK hP hD [2, 3, 4, 5, 6, 7] (by decide) rfl 0 3 rfl rfl) rfl rfl hl.1 rfl (lv_room (Nat.le_of_ble_eq_true rfl)) dX4_push_10 ⟨Nat.zero_le _, Nat.zero_le _⟩) hP hD hS hA [2, 3, 4, 5, 6, 7] [0, 1] rfl rfl (by decide) (by decide) [0, 1, 2, 3, 4, 5, 6, 7] (fun u_10 => [oB h 4 (oF4 v q), aN G (q 0) 10 (fun k => some (r k)), oB (r j) 3 (oF3 (upd vj 2 (nI n)) qj), aI G (qj 0) 8 u_10.1, aI G (qj 1) 8 u_10.2, oB h2 3 (oF3 v2 q2), aI G (q2 0) 8 bs2, aI G (q2 1) 8 zs2]) (by decide) (fun _ => rfl) (fun u_10 H locs q_10 hP hD hS => ?_)
  have q_10 : ∀ i, i < n → u_10.1 i = bs2 i ∧ u_10.2 i = zs2 i := q_10
  have hP : va_P G.1 vwCl [oB h 4 (oF4 v q), aN G (q 0) 10 (fun k => some (r k)), oB (r j) 3 (oF3 (upd vj 2 (nI n)) qj), aI G (qj 0) 8 u_10.1, aI G (qj 1) 8 u_10.2, oB h2 3 (oF3 v2 q2), aI G (q2 0) 8 bs2, aI G (q2 1) 8 zs2] H := hP
  have hD : va_D A [oB h 4 (oF4 v q), aN G (q 0) 10 (fun k => some (r k)), oB (r j) 3 (oF3 (upd vj 2 (nI n)) qj), aI G (qj 0) 8 u_10.1, aI G (qj 1) 8 u_10.2, oB h2 3 (oF3 v2 q2), aI G (q2 0) 8 bs2, aI G (q2 1) 8 zs2] := hD
  refine lv_aload_n hx hb dX4_push_13 rfl (lv_at hl 0 rfl) ?_
  refine lv_aload_n hx hb dX4_push_14 rfl (lv_at hl 0 rfl) ?_
  refine va_get (D := G.1) (ci := 4) (v := .int (v 1)) (C := RX4) (T := TX4) (N := 3) hx hb hts hin4 hown hK.1 hP 0 rfl rfl 1 (by decide) f18 (fun _ h9 => h9) rfl dX4_push_15 ?_
  refine top_i (y := nI j) (hv1) ?_
  refine lv_iconst (v := 1) hx hb dX4_push_18 (by decide) ?_
  refine lv_iadd hx hb dX4_push_19 ?_
  refine top_i (y := nI (j + 1)) (nI_1 j) ?_
  refine lv_bipush (v := 10) hx hb dX4_push_20 (by decide) ?_
  refine lv_irem hx hb dX4_push_22 (by decide) ?_
  refine top_i (y := nI ((j + 1) % 10)) (rem10 (by omega)) ?_
  refine va_put (D := G.1) (ci := 4) (v := .int (nI ((j + 1) % 10))) (ty := .int) (C := RX4) (T := TX4) (N := 3) hx hb hts hin4 tyX4 tyX4_ok nmX4 hown hK.1 hP hD hS 0 rfl rfl 1 (by decide) f18 (fun _ h9 => h9) rfl (by decide +kernel) rfl rfl (Nat.le_of_ble_eq_true rfl) dX4_push_23 (fun H locs hP hD hS => ?_)
  have hP : va_P G.1 vwCl [oB h 4 (oF4 (upd v 1 (nI ((j + 1) % 10))) q), aN G (q 0) 10 (fun k => some (r k)), oB (r j) 3 (oF3 (upd vj 2 (nI n)) qj), aI G (qj 0) 8 u_10.1, aI G (qj 1) 8 u_10.2, oB h2 3 (oF3 v2 q2), aI G (q2 0) 8 bs2, aI G (q2 1) 8 zs2] H := hP
  have hD : va_D A [oB h 4 (oF4 (upd v 1 (nI ((j + 1) % 10))) q), aN G (q 0) 10 (fun k => some (r k)), oB (r j) 3 (oF3 (upd vj 2 (nI n)) qj), aI G (qj 0) 8 u_10.1, aI G (qj 1) 8 u_10.2, oB h2 3 (oF3 v2 q2), aI G (q2 0) 8 bs2, aI G (q2 1) 8 zs2] := hD
  refine lv_aload_n hx hb dX4_push_26 rfl (lv_at hl 0 rfl) ?_
  refine lv_aload_n hx hb dX4_push_27 rfl (lv_at hl 0 rfl) ?_
  refine va_get (D := G.1) (ci := 4) (v := .int (v 2)) (C := RX4) (T := TX4) (N := 3) hx hb hts hin4 hown hK.1 hP 0 rfl rfl 2 (by decide) f26 (fun _ h9 => h9) rfl dX4_push_28 ?_
  refine top_i (y := nI U) (hv2) ?_
  refine lv_iconst (v := 1) hx hb dX4_push_31 (by decide) ?_
  refine lv_iadd hx hb dX4_push_32 ?_
  refine top_i (y := nI (U + 1)) (nI_1 U) ?_
  refine lv_bipush (v := 10) hx hb dX4_push_33 (by decide) ?_
  refine va_mmin hx hb (hml.trans hl.1.symm) hown (hts (.methodLink RX4 29 Lib.Math.min.name) (by decide +kernel)) (hts (.static Lib.Math.min.name) (by decide +kernel)) (hts (.initialized "java/lang/Math") (by decide +kernel)) (hts (.code Lib.Math.min.name Lib.Math.min.code 2 (some .int)) (by decide +kernel)) (Nat.le_of_ble_eq_true rfl) (Nat.le_of_ble_eq_true rfl) (Nat.zero_le _) (Nat.zero_le _) dX4_push_35 ?_
  refine top_i (y := imin (nI (U + 1)) 10) rfl ?_
  refine top_i (y := nI (min (U + 1) 10)) (imin10 (by omega)) ?_
  refine va_put (D := G.1) (ci := 4) (v := .int (nI (min (U + 1) 10))) (ty := .int) (C := RX4) (T := TX4) (N := 3) hx hb hts hin4 tyX4 tyX4_ok nmX4 hown hK.1 hP hD hS 0 rfl rfl 2 (by decide) f26 (fun _ h9 => h9) rfl (by decide +kernel) rfl rfl (Nat.le_of_ble_eq_true rfl) dX4_push_38 (fun H locs hP hD hS => ?_)
  have hP : va_P G.1 vwCl [oB h 4 (oF4 (upd (upd v 1 (nI ((j + 1) % 10))) 2 (nI (min (U + 1) 10))) q), aN G (q 0) 10 (fun k => some (r k)), oB (r j) 3 (oF3 (upd vj 2 (nI n)) qj), aI G (qj 0) 8 u_10.1, aI G (qj 1) 8 u_10.2, oB h2 3 (oF3 v2 q2), aI G (q2 0) 8 bs2, aI G (q2 1) 8 zs2] H := hP
  have hD : va_D A [oB h 4 (oF4 (upd (upd v 1 (nI ((j + 1) % 10))) 2 (nI (min (U + 1) 10))) q), aN G (q 0) 10 (fun k => some (r k)), oB (r j) 3 (oF3 (upd vj 2 (nI n)) qj), aI G (qj 0) 8 u_10.1, aI G (qj 1) 8 u_10.2, oB h2 3 (oF3 v2 q2), aI G (q2 0) 8 bs2, aI G (q2 1) 8 zs2] := hD
  exact hret u_10 _ _ _ _ (q_10) hP hD hS dX4_push_41

abbrev rX4_restore : Room := { frames := 1, cells := 0, slots := 0, locals := 22 }
set_option maxHeartbeats 4000000 in
set_option maxRecDepth 100000 in
theorem c_X4_restore (l : Launch) (G : kG) (h : Nat) (v : Nat → Int32) (q : Nat → Nat) (r : Nat → Nat) (vj : Nat → Int32) (qj : Nat → Nat) (bj : Nat → Int32) (zj : Nat → Int32) (h2 : Nat) (v2 : Nat → Int32) (q2 : Nat → Nat) (bs2 : Nat → Int32) (zs2 : Nat → Int32) (j2 : Nat) (U : Nat) (n : Nat) (j : Nat) (hv1 : v 1 = nI j) (hj : j < 10) (hj2 : (j + 9) % 10 = j2) (hv2 : v 2 = nI U) (hU : U ≤ 10) (hU0 : 0 < U) (hn2 : vj 2 = nI n) (hn : n ≤ 8) : Cv l G yX4_restore wsX4_restore rX4_restore [.ref h, .ref h2] [oB h 4 (oF4 v q), aN G (q 0) 10 (fun k => some (r k)), oB (r j2) 3 (oF3 vj qj), aI G (qj 0) 8 bj, aI G (qj 1) 8 zj, oB h2 3 (oF3 v2 q2), aI G (q2 0) 8 bs2, aI G (q2 1) 8 zs2] (fun (u : (Nat → Int32) × (Nat → Int32)) => ∀ i, i < n → u.1 i = bj i ∧ u.2 i = zj i) (fun u => [oB h 4 (oF4 (upd (upd v 1 (nI j2)) 2 (nI (U - 1))) q), aN G (q 0) 10 (fun k => some (r k)), oB (r j2) 3 (oF3 vj qj), aI G (qj 0) 8 bj, aI G (qj 1) 8 zj, oB h2 3 (oF3 (upd v2 2 (nI n)) q2), aI G (q2 0) 8 u.1, aI G (q2 1) 8 u.2]) 0 0 := by
  refine Cv.of (cc := cX4_restore) (maxL := 2) (by decide) rfl (Nat.le_of_ble_eq_true rfl) ?_
  intro pM eM sM mM bM tM cM Q A hx hb hts hown hml hnm hA hK hP hD hS hret ls hl
  have hown : sM.vm.findClass RX4 = some mM.cls := hown
  have hl : lv_has ls 2 [(0, .ref h), (1, .ref h2)] := hl
  have hin4 : ∀ w ∈ u_ws RX4 TX4 3, w ∈ wsX4_restore := by decide +kernel
  have f26 := hts (.fieldLink RX4 26 "HorizonPeaks$Past" "size" "I") (by decide +kernel)
  have f18 := hts (.fieldLink RX4 18 "HorizonPeaks$Past" "next" "I") (by decide +kernel)
  have f11 := hts (.fieldLink RX4 11 "HorizonPeaks$Past" "ring" "[LHorizonPeaks$Notches;") (by decide +kernel)
  have hj210 : j2 < 10 := by omega
  refine lv_aload_n hx hb dX4_restore_0 rfl (lv_at hl 0 rfl) ?_
  refine va_get (D := G.1) (ci := 4) (v := .int (v 2)) (C := RX4) (T := TX4) (N := 3) hx hb hts hin4 hown hK.1 hP 0 rfl rfl 2 (by decide) f26 (fun _ h9 => h9) rfl dX4_restore_1 ?_
  refine top_i (y := nI U) (hv2) ?_
  refine lv_if_le (tgt := 46) hx hb dX4_restore_4 (by decide) (fun c_4 => ?_) (fun c_4 => ?_)
  · have c_4 : U ≤ 0 := (c_le (a := U) (b := 0) rfl rfl (by omega) (by omega)).mp c_4
    exfalso
    omega
  · have c_4 : ¬ U ≤ 0 := fun hne => c_4 ((c_le (a := U) (b := 0) rfl rfl (by omega) (by omega)).mpr hne)
    refine lv_aload_n hx hb dX4_restore_7 rfl (lv_at hl 0 rfl) ?_
    refine lv_aload_n hx hb dX4_restore_8 rfl (lv_at hl 0 rfl) ?_
    refine va_get (D := G.1) (ci := 4) (v := .int (v 1)) (C := RX4) (T := TX4) (N := 3) hx hb hts hin4 hown hK.1 hP 0 rfl rfl 1 (by decide) f18 (fun _ h9 => h9) rfl dX4_restore_9 ?_
    refine top_i (y := nI j) (hv1) ?_
    refine lv_bipush (v := 10) hx hb dX4_restore_12 (by decide) ?_
    refine lv_iadd hx hb dX4_restore_14 ?_
    refine top_i (y := nI (j + 10)) (nI_add j 10) ?_
    refine lv_iconst (v := 1) hx hb dX4_restore_15 (by decide) ?_
    refine lv_isub hx hb dX4_restore_16 ?_
    refine top_i (y := nI (j + 9)) (pk_sub (a := j + 10) (b := 1) (by omega)) ?_
    refine lv_bipush (v := 10) hx hb dX4_restore_17 (by decide) ?_
    refine lv_irem hx hb dX4_restore_19 (by decide) ?_
    refine top_i (y := nI j2) (by rw [rem10 (by omega), hj2]) ?_
    refine va_put (D := G.1) (ci := 4) (v := .int (nI j2)) (ty := .int) (C := RX4) (T := TX4) (N := 3) hx hb hts hin4 tyX4 tyX4_ok nmX4 hown hK.1 hP hD hS 0 rfl rfl 1 (by decide) f18 (fun _ h9 => h9) rfl (by decide +kernel) rfl rfl (Nat.le_of_ble_eq_true rfl) dX4_restore_20 (fun H locs hP hD hS => ?_)
    have hP : va_P G.1 vwCl [oB h 4 (oF4 (upd v 1 (nI j2)) q), aN G (q 0) 10 (fun k => some (r k)), oB (r j2) 3 (oF3 vj qj), aI G (qj 0) 8 bj, aI G (qj 1) 8 zj, oB h2 3 (oF3 v2 q2), aI G (q2 0) 8 bs2, aI G (q2 1) 8 zs2] H := hP
    have hD : va_D A [oB h 4 (oF4 (upd v 1 (nI j2)) q), aN G (q 0) 10 (fun k => some (r k)), oB (r j2) 3 (oF3 vj qj), aI G (qj 0) 8 bj, aI G (qj 1) 8 zj, oB h2 3 (oF3 v2 q2), aI G (q2 0) 8 bs2, aI G (q2 1) 8 zs2] := hD
    refine lv_aload_n hx hb dX4_restore_23 rfl (lv_at hl 1 rfl) ?_
    refine lv_aload_n hx hb dX4_restore_24 rfl (lv_at hl 0 rfl) ?_
    refine va_get (D := G.1) (ci := 4) (v := .ref (q 0)) (C := RX4) (T := TX4) (N := 3) hx hb hts hin4 hown hK.1 hP 0 rfl rfl 0 (by decide) f11 (fun _ h9 => h9) rfl dX4_restore_25 ?_
    refine lv_aload_n hx hb dX4_restore_28 rfl (lv_at hl 0 rfl) ?_
    refine va_get (D := G.1) (ci := 4) (v := .int (nI j2)) (C := RX4) (T := TX4) (N := 3) hx hb hts hin4 hown hK.1 hP 0 rfl rfl 1 (by decide) f18 (fun _ h9 => h9) rfl dX4_restore_29 ?_
    refine al_n hx hb hK.1 hP 1 3 rfl rfl (j := j2) (by omega) (Nat.le_of_ble_eq_true rfl) dX4_restore_32 ?_
    refine ca_v (wr := [oB h 4 (oF4 (upd v 1 (nI j2)) q), aN G (q 0) 10 (fun k => some (r k))]) (va_runV (As := [.ref (r j2)]) (rest := []) ⟨hx, hb, hml, hown, hts⟩ ((c_X3_become l G h2 v2 q2 (r j2) vj qj bs2 zs2 bj zj n (hn2) (hn)) _) (cwV 1 hts gX4_restore_X3_become rfl rfl rfl (by decide +kernel) ⟨Nat.le_of_ble_eq_true rfl, Nat.le_of_ble_eq_true rfl⟩) (cPre_V hK hP hD [5, 6, 7, 2, 3, 4] (by decide) rfl 0 3 rfl rfl) rfl rfl hl.1 rfl (lv_room (Nat.le_of_ble_eq_true rfl)) dX4_restore_33 ⟨Nat.zero_le _, Nat.zero_le _⟩) hP hD hS hA [5, 6, 7, 2, 3, 4] [0, 1] rfl rfl (by decide) (by decide) [0, 1, 5, 6, 7, 2, 3, 4] (fun u_33 => [oB h 4 (oF4 (upd v 1 (nI j2)) q), aN G (q 0) 10 (fun k => some (r k)), oB (r j2) 3 (oF3 vj qj), aI G (qj 0) 8 bj, aI G (qj 1) 8 zj, oB h2 3 (oF3 (upd v2 2 (nI n)) q2), aI G (q2 0) 8 u_33.1, aI G (q2 1) 8 u_33.2]) (by decide) (fun _ => rfl) (fun u_33 H locs q_33 hP hD hS => ?_)
    have q_33 : ∀ i, i < n → u_33.1 i = bj i ∧ u_33.2 i = zj i := q_33
    have hP : va_P G.1 vwCl [oB h 4 (oF4 (upd v 1 (nI j2)) q), aN G (q 0) 10 (fun k => some (r k)), oB (r j2) 3 (oF3 vj qj), aI G (qj 0) 8 bj, aI G (qj 1) 8 zj, oB h2 3 (oF3 (upd v2 2 (nI n)) q2), aI G (q2 0) 8 u_33.1, aI G (q2 1) 8 u_33.2] H := hP
    have hD : va_D A [oB h 4 (oF4 (upd v 1 (nI j2)) q), aN G (q 0) 10 (fun k => some (r k)), oB (r j2) 3 (oF3 vj qj), aI G (qj 0) 8 bj, aI G (qj 1) 8 zj, oB h2 3 (oF3 (upd v2 2 (nI n)) q2), aI G (q2 0) 8 u_33.1, aI G (q2 1) 8 u_33.2] := hD
    refine lv_aload_n hx hb dX4_restore_36 rfl (lv_at hl 0 rfl) ?_
    refine lv_dup hx hb dX4_restore_37 rfl ?_
    refine va_get (D := G.1) (ci := 4) (v := .int (v 2)) (C := RX4) (T := TX4) (N := 3) hx hb hts hin4 hown hK.1 hP 0 rfl rfl 2 (by decide) f26 (fun _ h9 => h9) rfl dX4_restore_38 ?_
    refine top_i (y := nI U) (hv2) ?_
    refine lv_iconst (v := 1) hx hb dX4_restore_41 (by decide) ?_
    refine lv_isub hx hb dX4_restore_42 ?_
    refine top_i (y := nI (U - 1)) (pk_sub (b := 1) (by omega)) ?_
    refine va_put (D := G.1) (ci := 4) (v := .int (nI (U - 1))) (ty := .int) (C := RX4) (T := TX4) (N := 3) hx hb hts hin4 tyX4 tyX4_ok nmX4 hown hK.1 hP hD hS 0 rfl rfl 2 (by decide) f26 (fun _ h9 => h9) rfl (by decide +kernel) rfl rfl (Nat.le_of_ble_eq_true rfl) dX4_restore_43 (fun H locs hP hD hS => ?_)
    have hP : va_P G.1 vwCl [oB h 4 (oF4 (upd (upd v 1 (nI j2)) 2 (nI (U - 1))) q), aN G (q 0) 10 (fun k => some (r k)), oB (r j2) 3 (oF3 vj qj), aI G (qj 0) 8 bj, aI G (qj 1) 8 zj, oB h2 3 (oF3 (upd v2 2 (nI n)) q2), aI G (q2 0) 8 u_33.1, aI G (q2 1) 8 u_33.2] H := hP
    have hD : va_D A [oB h 4 (oF4 (upd (upd v 1 (nI j2)) 2 (nI (U - 1))) q), aN G (q 0) 10 (fun k => some (r k)), oB (r j2) 3 (oF3 vj qj), aI G (qj 0) 8 bj, aI G (qj 1) 8 zj, oB h2 3 (oF3 (upd v2 2 (nI n)) q2), aI G (q2 0) 8 u_33.1, aI G (q2 1) 8 u_33.2] := hD
    exact hret u_33 _ _ _ _ (q_33) hP hD hS dX4_restore_46
