def paN (σ : PS) (x y z r : Int32) : Prop := ((pPlace (cPk σ) x y && !decide (z < -1)) = false → r = -1) ∧ ((pPlace (cPk σ) x y && !decide (z < -1)) = true → (z < 0 → r = nI (fb_ct (cVi σ (ptN x y)) (zn σ))) ∧ (¬ z < 0 → pnQ (cVi σ (ptN x y)) (gahead (cX σ) (cY σ) (ptN x y)) (zn σ) (zn σ) z r))
def gT (σ : PS) (N : NL) (pt j : Nat) (cl : Int32) (k p : Nat) : Bool := !decide (nI p = cl) && (cVi σ pt p && fitB σ N pt j k p)
def gS (σ : PS) (N : NL) (pt j : Nat) (wo cl : Int32) (k p : Nat) : Bool := decide (p < zn σ) && (!decide (nI k = wo) && gT σ N pt j cl k p)
theorem or_z {a b : Int32} (h : a ||| b = 0) : a = 0 ∧ b = 0 := by
  have key : ∀ i, (bt a i || bt b i) = false := fun i => by rw [← b_or, h, b_0]
  exact ⟨b_ext (fun i _ => by rw [b_0]; exact (Bool.or_eq_false_iff.mp (key i)).1), b_ext (fun i _ => by rw [b_0]; exact (Bool.or_eq_false_iff.mp (key i)).2)⟩
theorem gS_row {σ : PS} {N : NL} {pt j : Nat} {wo cl : Int32} {k m : Nat} (hok : okPS σ) (hm : m = zn σ ∨ nI k = wo) (hz : ¬ nI k = wo ∨ m = 0) {q : Nat} (hq : q < 10) : bt (gbits (gT σ N pt j cl k) m) q = gS σ N pt j wo cl k q := by
  have h10 := hok.1
  by_cases c : nI k = wo
  · have e0 := hz.resolve_left (fun q => q c)
    rw [e0, gbits, b_0]; simp [gS, c]
  · rw [hm.resolve_right c, bt_gbits h10 (by omega)]; simp [gS, c]
abbrev rX8_panorama : Room := { frames := 4, cells := 0, slots := 0, locals := 99 }
set_option maxHeartbeats 4000000 in
set_option maxRecDepth 100000 in
theorem c_X8_panorama (l : Launch) (G : kG) (h : Nat) (v : Nat → Int32) (q : Nat → Nat) (px : Nat → Int32) (py : Nat → Int32) (hi : Nat → Int32) (la : Nat → Int32) (lb : Nat → Int32) (ip : Nat → Int32) (se : Nat → Int32) (be : Nat → Int32) (he : Nat → Int32) (σ : PS) (x : Int32) (y : Int32) (z : Int32) (hLM : LM σ v px py hi la lb ip se be he) : Ci l G yX8_panorama wsX8_panorama rX8_panorama [.ref h, .int x, .int y, .int z] [oB h 8 (oF8 v q), aZ G (q 9) 64 ip, aI G (q 2) 10 px, aI G (q 3) 10 py, aI G (q 10) 64 se] (fun r (u : Unit) => paN σ x y z r) (fun u => [oB h 8 (oF8 (upd v 0 0) q), aZ G (q 9) 64 ip, aI G (q 2) 10 px, aI G (q 3) 10 py, aI G (q 10) 64 se]) := by
  refine Ci.of (cc := cX8_panorama) (maxL := 4) (by decide) rfl (Nat.le_of_ble_eq_true rfl) ?_
  intro pM eM sM mM bM tM cM Q A hx hb hts hown hml hA hK hP hD hS hret ls hl
  have hown : sM.vm.findClass RX8 = some mM.cls := hown
  have hl : lv_has ls 4 [(0, .ref h), (1, .int x), (2, .int y), (3, .int z)] := hl
  have hin8 : ∀ w ∈ u_ws RX8 TX8 44, w ∈ wsX8_panorama := by decide +kernel
  have f98 := hts (.fieldLink RX8 98 "HorizonPeaksModel" "thrown" "I") (by decide +kernel)
  have hLM0 := hLM
  obtain ⟨hok, ⟨hv1, hv5, hv8⟩, har, hLP⟩ := hLM
  have hn10 := hok.1
  have hm8 := hok.2.1
  have hl3 := hok.2.2.1
  have hip : ∀ i, i < 64 → ip i = b2i (decide (cPk σ i = 0)) := fun i hh => (hLP i hh).1
  refine lv_aload_n hx hb dX8_panorama_0 rfl (lv_at hl 0 rfl) ?_
  refine lv_iconst (v := 0) hx hb dX8_panorama_1 (by decide) ?_
  refine va_put (D := G.1) (ci := 8) (v := .int 0) (ty := .int) (C := RX8) (T := TX8) (N := 44) hx hb hts hin8 tyX8 tyX8_ok nmX8 hown hK.1 hP hD hS 0 rfl rfl 0 (by decide) f98 (fun _ h9 => h9) rfl (by decide +kernel) rfl rfl (Nat.le_of_ble_eq_true rfl) dX8_panorama_2 (fun H locs hP hD hS => ?_)
  have hP : va_P G.1 vwCl [oB h 8 (oF8 (upd v 0 0) q), aZ G (q 9) 64 ip, aI G (q 2) 10 px, aI G (q 3) 10 py, aI G (q 10) 64 se] H := hP
  have hD : va_D A [oB h 8 (oF8 (upd v 0 0) q), aZ G (q 9) 64 ip, aI G (q 2) 10 px, aI G (q 3) 10 py, aI G (q 10) 64 se] := hD
  refine lv_aload_n hx hb dX8_panorama_5 rfl (lv_at hl 0 rfl) ?_
  refine lv_iload_n hx hb dX8_panorama_6 rfl (lv_at hl 1 rfl) ?_
  refine lv_iload_n hx hb dX8_panorama_7 rfl (lv_at hl 2 rfl) ?_
  refine rd_i (va_runV (As := [.int x, .int y]) (rest := []) ⟨hx, hb, hml, hown, hts⟩ (c_X8_isThere l G h (upd v 0 0) q ip (cPk σ) x y (hip)) (cwV 2 hts gX8_panorama_X8_isThere rfl rfl rfl (by decide +kernel) ⟨Nat.le_of_ble_eq_true rfl, Nat.le_of_ble_eq_true rfl⟩) (rPre_V hK hP [0, 1] rfl 0 8 rfl rfl) rfl rfl hl.1 rfl (lv_room (Nat.le_of_ble_eq_true rfl)) dX8_panorama_8 ⟨Nat.zero_le _, Nat.zero_le _⟩) (fun r_8 q_8 => ?_)
  obtain rfl : r_8 = b2i (pPlace (cPk σ) x y) := q_8
  refine lv_if_eq (tgt := 29) hx hb dX8_panorama_11 (by decide) (fun c_11 => ?_) (fun c_11 => ?_)
  · have c_11 : (pPlace (cPk σ) x y) = false := b2i_0.mp c_11
    refine lv_iconst (v := -1) hx hb dX8_panorama_29 (by decide) ?_
    have hpost : paN σ x y z (-1 : Int32) := by
      exact ⟨fun _ => rfl, fun h9 => by simp [c_11] at h9⟩
    exact hret _ () _ _ _ _ (hpost) (rfl) hP hD hS dX8_panorama_30
  · have c_11 : (pPlace (cPk σ) x y) = true := b2i_n0.mp c_11
    obtain ⟨X, Y, hX, hY, rfl, rfl, hc⟩ := pPlace_of c_11
    refine lv_iload_n hx hb dX8_panorama_14 rfl (lv_at hl 3 rfl) ?_
    refine lv_iconst (v := -1) hx hb dX8_panorama_15 (by decide) ?_
    refine lv_icmp_lt (tgt := 29) hx hb dX8_panorama_16 (by decide) (fun c_16 => ?_) (fun c_16 => ?_)
    · refine lv_iconst (v := -1) hx hb dX8_panorama_29 (by decide) ?_
      have hpost : paN σ (nI X) (nI Y) z (-1 : Int32) := by
        exact ⟨fun _ => rfl, fun h9 => by simp [c_11, c_16] at h9⟩
      exact hret _ () _ _ _ _ (hpost) (rfl) hP hD hS dX8_panorama_30
    · refine lv_aload_n hx hb dX8_panorama_19 rfl (lv_at hl 0 rfl) ?_
      refine lv_iload_n hx hb dX8_panorama_20 rfl (lv_at hl 1 rfl) ?_
      refine lv_iload_n hx hb dX8_panorama_21 rfl (lv_at hl 2 rfl) ?_
      refine lv_iload_n hx hb dX8_panorama_22 rfl (lv_at hl 3 rfl) ?_
      refine rd_i (va_runV (As := [.int (nI X), .int (nI Y), .int z]) (rest := []) ⟨hx, hb, hml, hown, hts⟩ (c_X8_panoramaAt l G h (upd v 0 0) q px py hi la lb ip se be he σ X Y (X * 8 + Y) z (hLM0) (by omega) (by omega) (by omega) (hc)) (cwV 3 hts gX8_panorama_X8_panoramaAt rfl rfl rfl (by decide +kernel) ⟨Nat.le_of_ble_eq_true rfl, Nat.le_of_ble_eq_true rfl⟩) (rPre_V hK hP [0, 2, 3, 4] rfl 0 8 rfl rfl) rfl rfl hl.1 rfl (lv_room (Nat.le_of_ble_eq_true rfl)) dX8_panorama_23 ⟨Nat.zero_le _, Nat.zero_le _⟩) (fun r_23 q_23 => ?_)
      have q_23 : (z < 0 → r_23 = nI (fb_ct (cVi σ (X * 8 + Y)) (zn σ))) ∧ (¬ z < 0 → pnQ (cVi σ (X * 8 + Y)) (gahead (cX σ) (cY σ) (X * 8 + Y)) (zn σ) (zn σ) z r_23) := q_23
      refine lv_goto (tgt := 30) hx hb dX8_panorama_26 (by decide) ?_
      have hpost : paN σ (nI X) (nI Y) z (r_23 : Int32) := by
        refine ⟨fun h9 => by simp [c_11, c_16] at h9, fun _ => ?_⟩
        rw [ptN_nI hX hY]
        exact q_23
      exact hret _ () _ _ _ _ (hpost) (rfl) hP hD hS dX8_panorama_30

abbrev rX8_isFit : Room := { frames := 1, cells := 0, slots := 0, locals := 20 }
set_option maxHeartbeats 4000000 in
set_option maxRecDepth 100000 in
theorem c_X8_isFit (l : Launch) (G : kG) (h : Nat) (v : Nat → Int32) (q : Nat → Nat) (px : Nat → Int32) (py : Nat → Int32) (hi : Nat → Int32) (la : Nat → Int32) (lb : Nat → Int32) (ip : Nat → Int32) (se : Nat → Int32) (be : Nat → Int32) (he : Nat → Int32) (σ : PS) (sa : Nat → Int32) (N : NL) (pt : Nat) (j : Nat) (k : Nat) (p : Nat) (hLM : LM σ v px py hi la lb ip se be he) (hSM : SMr N sa) (hpt : pt < 64) (hj : j < 64) (hc : cPk σ pt = 0) (hk : k < N.1) (hp : p < zn σ) : Ri l G yX8_isFit wsX8_isFit rX8_isFit [.ref h, .int (nI pt), .int (nI j), .int (nI k), .int (nI p)] [oB h 8 (oF8 v q), aI G (q 11) 640 be, aI G (q 12) 640 he, aI G (q 13) 17 sa] (fun r => r = b2i (fitB σ N pt j k p)) := by
  refine Ri.of (cc := cX8_isFit) (maxL := 6) (by decide) rfl (Nat.le_of_ble_eq_true rfl) ?_
  intro pM eM sM mM bM tM cM Q hx hb hts hown hml hP hK hret ls hl
  have hown : sM.vm.findClass RX8 = some mM.cls := hown
  have hl : lv_has ls 6 [(0, .ref h), (1, .int (nI pt)), (2, .int (nI j)), (3, .int (nI k)), (4, .int (nI p))] := hl
  have hin8 : ∀ w ∈ u_ws RX8 TX8 44, w ∈ wsX8_isFit := by decide +kernel
  have f32 := hts (.fieldLink RX8 32 "HorizonPeaksModel" "bearings" "[I") (by decide +kernel)
  have f38 := hts (.fieldLink RX8 38 "HorizonPeaksModel" "s" "[I") (by decide +kernel)
  have f154 := hts (.fieldLink RX8 154 "HorizonPeaksModel" "slack" "I") (by decide +kernel)
  have f35 := hts (.fieldLink RX8 35 "HorizonPeaksModel" "heights" "[I") (by decide +kernel)
  obtain ⟨hok, ⟨hv1, hv5, hv8⟩, har, hLP⟩ := hLM
  have hn10 := hok.1
  have hm8 := hok.2.1
  have hl3 := hok.2.2.1
  have hip : ∀ i, i < 64 → ip i = b2i (decide (cPk σ i = 0)) := fun i hh => (hLP i hh).1
  have hN8 := hSM.2.1
  have hN := hSM.2.2 k hk
  obtain ⟨hbe, hhe⟩ := (hLP pt hpt).2.2 hc p hp
  have hb64 := (cBe_is hok hpt hc hp).2
  refine lv_aload_n hx hb dX8_isFit_0 rfl (lv_at hl 0 rfl) ?_
  refine va_get (D := G.1) (ci := 8) (v := .ref (q 11)) (C := RX8) (T := TX8) (N := 44) hx hb hts hin8 hown hK.1 hP 0 rfl rfl 11 (by decide) f32 (fun _ h9 => h9) rfl dX8_isFit_1 ?_
  refine lv_bipush (v := 10) hx hb dX8_isFit_4 (by decide) ?_
  refine lv_iload_n hx hb dX8_isFit_6 rfl (lv_at hl 1 rfl) ?_
  refine lv_imul hx hb dX8_isFit_7 ?_
  refine lv_iload hx hb dX8_isFit_8 (lv_at hl 4 rfl) ?_
  refine lv_iadd hx hb dX8_isFit_10 ?_
  refine top_i (y := nI (10 * pt + p)) (mul10' pt p) ?_
  refine al_i hx hb hK.1 hP 1 0 rfl rfl (j := 10 * pt + p) (by omega) (Nat.le_of_ble_eq_true rfl) dX8_isFit_11 ?_
  refine top_i (y := nI (cBe σ pt p)) (hbe) ?_
  refine lv_aload_n hx hb dX8_isFit_12 rfl (lv_at hl 0 rfl) ?_
  refine va_get (D := G.1) (ci := 8) (v := .ref (q 13)) (C := RX8) (T := TX8) (N := 44) hx hb hts hin8 hown hK.1 hP 0 rfl rfl 13 (by decide) f38 (fun _ h9 => h9) rfl dX8_isFit_13 ?_
  refine lv_iconst (v := 1) hx hb dX8_isFit_16 (by decide) ?_
  refine lv_iconst (v := 2) hx hb dX8_isFit_17 (by decide) ?_
  refine lv_iload_n hx hb dX8_isFit_18 rfl (lv_at hl 3 rfl) ?_
  refine lv_imul hx hb dX8_isFit_19 ?_
  refine lv_iadd hx hb dX8_isFit_20 ?_
  refine top_i (y := nI (2 * k + 1)) (two1 k) ?_
  refine al_i hx hb hK.1 hP 3 0 rfl rfl (j := 2 * k + 1) (by omega) (Nat.le_of_ble_eq_true rfl) dX8_isFit_21 ?_
  refine top_i (y := nI (N.2.1 k)) (hN.1) ?_
  refine lv_isub hx hb dX8_isFit_22 ?_
  refine lv_iload_n hx hb dX8_isFit_23 rfl (lv_at hl 2 rfl) ?_
  refine lv_isub hx hb dX8_isFit_24 ?_
  refine lv_sipush (v := 128) hx hb dX8_isFit_25 (by decide) ?_
  refine lv_iadd hx hb dX8_isFit_28 ?_
  refine top_i (y := nI (cBe σ pt p + 128 - N.2.1 k - j)) (ft_arg hN.2.1 hj) ?_
  refine lv_bipush (v := 64) hx hb dX8_isFit_29 (by decide) ?_
  refine lv_irem hx hb dX8_isFit_31 (by decide) ?_
  refine top_i (y := nI ((cBe σ pt p + 128 - N.2.1 k - j) % 64)) (rem64 (by omega)) ?_
  refine lv_istore (lv' := [(5, .int (nI ((cBe σ pt p + 128 - N.2.1 k - j) % 64))), (0, .ref h), (1, .int (nI pt)), (2, .int (nI j)), (3, .int (nI k)), (4, .int (nI p))]) hx hb dX8_isFit_32 hl (by decide) rfl (fun ls hl => ?_)
  refine lv_iload hx hb dX8_isFit_34 (lv_at hl 0 rfl) ?_
  refine lv_bipush (v := 32) hx hb dX8_isFit_36 (by decide) ?_
  refine lv_icmp_le (tgt := 49) hx hb dX8_isFit_38 (by decide) (fun c_38 => ?_) (fun c_38 => ?_)
  · have c_38 : ((cBe σ pt p + 128 - N.2.1 k - j) % 64) ≤ 32 := (c_le (a := (cBe σ pt p + 128 - N.2.1 k - j) % 64) (b := 32) rfl rfl (by omega) (by omega)).mp c_38
    refine lv_iload hx hb dX8_isFit_49 (lv_at hl 0 rfl) ?_
    refine lv_istore (lv' := [(5, .int (nI ((cBe σ pt p + 128 - N.2.1 k - j) % 64))), (0, .ref h), (1, .int (nI pt)), (2, .int (nI j)), (3, .int (nI k)), (4, .int (nI p))]) hx hb dX8_isFit_51 hl (by decide) rfl (fun ls hl => ?_)
    refine lv_iload hx hb dX8_isFit_53 (lv_at hl 0 rfl) ?_
    refine lv_aload_n hx hb dX8_isFit_55 rfl (lv_at hl 1 rfl) ?_
    refine va_get (D := G.1) (ci := 8) (v := .int (v 8)) (C := RX8) (T := TX8) (N := 44) hx hb hts hin8 hown hK.1 hP 0 rfl rfl 8 (by decide) f154 (fun _ h9 => h9) rfl dX8_isFit_56 ?_
    refine top_i (y := nI (zl σ)) (hv8) ?_
    refine lv_icmp_gt (tgt := 99) hx hb dX8_isFit_59 (by decide) (fun c_59 => ?_) (fun c_59 => ?_)
    · have c_59 : (zl σ) < ((cBe σ pt p + 128 - N.2.1 k - j) % 64) := (c_lt (a := zl σ) (b := (cBe σ pt p + 128 - N.2.1 k - j) % 64) rfl rfl (by omega) (by omega)).mp c_59
      refine lv_iconst (v := 0) hx hb dX8_isFit_99 (by decide) ?_
      have hpost : (0 : Int32) = b2i (fitB σ N pt j k p) := by
        have hfar : mFar (cBe σ pt p) (N.2.1 k) j = (cBe σ pt p + 128 - N.2.1 k - j) % 64 := by unfold mFar; rw [if_neg (by omega)]
        rw [fitB, lkB_far hb64 hN.2.1 hl3 hj, hfar]
        rw [decide_eq_false (show ¬ (cBe σ pt p + 128 - N.2.1 k - j) % 64 ≤ zl σ by omega), Bool.and_false]
        rfl
      exact hret _ _ _ (hpost) (rfl) dX8_isFit_100
    · have c_59 : ¬ (zl σ) < ((cBe σ pt p + 128 - N.2.1 k - j) % 64) := fun hne => c_59 ((c_lt (a := zl σ) (b := (cBe σ pt p + 128 - N.2.1 k - j) % 64) rfl rfl (by omega) (by omega)).mpr hne)
      refine lv_aload_n hx hb dX8_isFit_62 rfl (lv_at hl 1 rfl) ?_
      refine va_get (D := G.1) (ci := 8) (v := .ref (q 12)) (C := RX8) (T := TX8) (N := 44) hx hb hts hin8 hown hK.1 hP 0 rfl rfl 12 (by decide) f35 (fun _ h9 => h9) rfl dX8_isFit_63 ?_
      refine lv_bipush (v := 10) hx hb dX8_isFit_66 (by decide) ?_
      refine lv_iload_n hx hb dX8_isFit_68 rfl (lv_at hl 2 rfl) ?_
      refine lv_imul hx hb dX8_isFit_69 ?_
      refine lv_iload hx hb dX8_isFit_70 (lv_at hl 5 rfl) ?_
      refine lv_iadd hx hb dX8_isFit_72 ?_
      refine top_i (y := nI (10 * pt + p)) (mul10' pt p) ?_
      refine al_i hx hb hK.1 hP 2 0 rfl rfl (j := 10 * pt + p) (by omega) (Nat.le_of_ble_eq_true rfl) dX8_isFit_73 ?_
      refine top_i (y := nI (cHg σ pt p)) (hhe) ?_
      refine lv_aload_n hx hb dX8_isFit_74 rfl (lv_at hl 1 rfl) ?_
      refine va_get (D := G.1) (ci := 8) (v := .ref (q 13)) (C := RX8) (T := TX8) (N := 44) hx hb hts hin8 hown hK.1 hP 0 rfl rfl 13 (by decide) f38 (fun _ h9 => h9) rfl dX8_isFit_75 ?_
      refine lv_iconst (v := 2) hx hb dX8_isFit_78 (by decide) ?_
      refine lv_iconst (v := 2) hx hb dX8_isFit_79 (by decide) ?_
      refine lv_iload_n hx hb dX8_isFit_80 rfl (lv_at hl 4 rfl) ?_
      refine lv_imul hx hb dX8_isFit_81 ?_
      refine lv_iadd hx hb dX8_isFit_82 ?_
      refine top_i (y := nI (2 * k + 2)) (two2 k) ?_
      refine al_i hx hb hK.1 hP 3 0 rfl rfl (j := 2 * k + 2) (by omega) (Nat.le_of_ble_eq_true rfl) dX8_isFit_83 ?_
      refine top_i (y := nI (N.2.2 k)) (hN.2.2.1) ?_
      refine lv_isub hx hb dX8_isFit_84 ?_
      refine rd_i (va_runS (As := [.int ((nI (cHg σ pt p)) - (nI (N.2.2 k)))]) (rest := []) ⟨hx, hb, hml, hown, hts⟩ (c_X8_size l G ((nI (cHg σ pt p)) - (nI (N.2.2 k)))) (va_cwS 1 hts gX8_isFit_X8_size rfl rfl rfl (by decide +kernel) ⟨Nat.le_of_ble_eq_true rfl, Nat.le_of_ble_eq_true rfl⟩) (rPre_S hK hP [] rfl) rfl rfl hl.1 rfl (lv_room (Nat.le_of_ble_eq_true rfl)) dX8_isFit_85 ⟨Nat.zero_le _, Nat.zero_le _⟩) (fun r_85 q_85 => ?_)
      obtain rfl : r_85 = isz ((nI (cHg σ pt p)) - (nI (N.2.2 k))) := q_85
      refine top_i (y := iabs (nI (cHg σ pt p) - nI (N.2.2 k))) (isz_abs _) ?_
      refine lv_aload_n hx hb dX8_isFit_88 rfl (lv_at hl 1 rfl) ?_
      refine va_get (D := G.1) (ci := 8) (v := .int (v 8)) (C := RX8) (T := TX8) (N := 44) hx hb hts hin8 hown hK.1 hP 0 rfl rfl 8 (by decide) f154 (fun _ h9 => h9) rfl dX8_isFit_89 ?_
      refine top_i (y := nI (zl σ)) (hv8) ?_
      refine lv_icmp_gt (tgt := 99) hx hb dX8_isFit_92 (by decide) (fun c_92 => ?_) (fun c_92 => ?_)
      · refine lv_iconst (v := 0) hx hb dX8_isFit_99 (by decide) ?_
        have hpost : (0 : Int32) = b2i (fitB σ N pt j k p) := by
          have hfar : mFar (cBe σ pt p) (N.2.1 k) j = (cBe σ pt p + 128 - N.2.1 k - j) % 64 := by unfold mFar; rw [if_neg (by omega)]
          rw [fitB, lkB_far hb64 hN.2.1 hl3 hj, hfar]
          rw [decide_eq_true c_92]
          rfl
        exact hret _ _ _ (hpost) (rfl) dX8_isFit_100
      · refine lv_iconst (v := 1) hx hb dX8_isFit_95 (by decide) ?_
        refine lv_goto (tgt := 100) hx hb dX8_isFit_96 (by decide) ?_
        have hpost : (1 : Int32) = b2i (fitB σ N pt j k p) := by
          have hfar : mFar (cBe σ pt p) (N.2.1 k) j = (cBe σ pt p + 128 - N.2.1 k - j) % 64 := by unfold mFar; rw [if_neg (by omega)]
          rw [fitB, lkB_far hb64 hN.2.1 hl3 hj, hfar]
          rw [decide_eq_false c_92, decide_eq_true (show (cBe σ pt p + 128 - N.2.1 k - j) % 64 ≤ zl σ by omega)]
          rfl
        exact hret _ _ _ (hpost) (rfl) dX8_isFit_100
  · have c_38 : ¬ ((cBe σ pt p + 128 - N.2.1 k - j) % 64) ≤ 32 := fun hne => c_38 ((c_le (a := (cBe σ pt p + 128 - N.2.1 k - j) % 64) (b := 32) rfl rfl (by omega) (by omega)).mpr hne)
    refine lv_bipush (v := 64) hx hb dX8_isFit_41 (by decide) ?_
    refine lv_iload hx hb dX8_isFit_43 (lv_at hl 0 rfl) ?_
    refine lv_isub hx hb dX8_isFit_45 ?_
    refine top_i (y := nI (64 - (cBe σ pt p + 128 - N.2.1 k - j) % 64)) (pk_sub (a := 64) (b := (cBe σ pt p + 128 - N.2.1 k - j) % 64) (by omega)) ?_
    refine lv_goto (tgt := 51) hx hb dX8_isFit_46 (by decide) ?_
    refine lv_istore (lv' := [(5, .int (nI (64 - (cBe σ pt p + 128 - N.2.1 k - j) % 64))), (0, .ref h), (1, .int (nI pt)), (2, .int (nI j)), (3, .int (nI k)), (4, .int (nI p))]) hx hb dX8_isFit_51 hl (by decide) rfl (fun ls hl => ?_)
    refine lv_iload hx hb dX8_isFit_53 (lv_at hl 0 rfl) ?_
    refine lv_aload_n hx hb dX8_isFit_55 rfl (lv_at hl 1 rfl) ?_
    refine va_get (D := G.1) (ci := 8) (v := .int (v 8)) (C := RX8) (T := TX8) (N := 44) hx hb hts hin8 hown hK.1 hP 0 rfl rfl 8 (by decide) f154 (fun _ h9 => h9) rfl dX8_isFit_56 ?_
    refine top_i (y := nI (zl σ)) (hv8) ?_
    refine lv_icmp_gt (tgt := 99) hx hb dX8_isFit_59 (by decide) (fun c_59 => ?_) (fun c_59 => ?_)
    · have c_59 : (zl σ) < (64 - (cBe σ pt p + 128 - N.2.1 k - j) % 64) := (c_lt (a := zl σ) (b := 64 - (cBe σ pt p + 128 - N.2.1 k - j) % 64) rfl rfl (by omega) (by omega)).mp c_59
      refine lv_iconst (v := 0) hx hb dX8_isFit_99 (by decide) ?_
      have hpost : (0 : Int32) = b2i (fitB σ N pt j k p) := by
        have hfar : mFar (cBe σ pt p) (N.2.1 k) j = 64 - (cBe σ pt p + 128 - N.2.1 k - j) % 64 := by unfold mFar; rw [if_pos (by omega)]
        rw [fitB, lkB_far hb64 hN.2.1 hl3 hj, hfar]
        rw [decide_eq_false (show ¬ (64 - (cBe σ pt p + 128 - N.2.1 k - j) % 64) ≤ zl σ by omega), Bool.and_false]
        rfl
      exact hret _ _ _ (hpost) (rfl) dX8_isFit_100
    · have c_59 : ¬ (zl σ) < (64 - (cBe σ pt p + 128 - N.2.1 k - j) % 64) := fun hne => c_59 ((c_lt (a := zl σ) (b := 64 - (cBe σ pt p + 128 - N.2.1 k - j) % 64) rfl rfl (by omega) (by omega)).mpr hne)
      refine lv_aload_n hx hb dX8_isFit_62 rfl (lv_at hl 1 rfl) ?_
      refine va_get (D := G.1) (ci := 8) (v := .ref (q 12)) (C := RX8) (T := TX8) (N := 44) hx hb hts hin8 hown hK.1 hP 0 rfl rfl 12 (by decide) f35 (fun _ h9 => h9) rfl dX8_isFit_63 ?_
      refine lv_bipush (v := 10) hx hb dX8_isFit_66 (by decide) ?_
      refine lv_iload_n hx hb dX8_isFit_68 rfl (lv_at hl 2 rfl) ?_
      refine lv_imul hx hb dX8_isFit_69 ?_
      refine lv_iload hx hb dX8_isFit_70 (lv_at hl 5 rfl) ?_
      refine lv_iadd hx hb dX8_isFit_72 ?_
      refine top_i (y := nI (10 * pt + p)) (mul10' pt p) ?_
      refine al_i hx hb hK.1 hP 2 0 rfl rfl (j := 10 * pt + p) (by omega) (Nat.le_of_ble_eq_true rfl) dX8_isFit_73 ?_
      refine top_i (y := nI (cHg σ pt p)) (hhe) ?_
      refine lv_aload_n hx hb dX8_isFit_74 rfl (lv_at hl 1 rfl) ?_
      refine va_get (D := G.1) (ci := 8) (v := .ref (q 13)) (C := RX8) (T := TX8) (N := 44) hx hb hts hin8 hown hK.1 hP 0 rfl rfl 13 (by decide) f38 (fun _ h9 => h9) rfl dX8_isFit_75 ?_
      refine lv_iconst (v := 2) hx hb dX8_isFit_78 (by decide) ?_
      refine lv_iconst (v := 2) hx hb dX8_isFit_79 (by decide) ?_
      refine lv_iload_n hx hb dX8_isFit_80 rfl (lv_at hl 4 rfl) ?_
      refine lv_imul hx hb dX8_isFit_81 ?_
      refine lv_iadd hx hb dX8_isFit_82 ?_
      refine top_i (y := nI (2 * k + 2)) (two2 k) ?_
      refine al_i hx hb hK.1 hP 3 0 rfl rfl (j := 2 * k + 2) (by omega) (Nat.le_of_ble_eq_true rfl) dX8_isFit_83 ?_
      refine top_i (y := nI (N.2.2 k)) (hN.2.2.1) ?_
      refine lv_isub hx hb dX8_isFit_84 ?_
      refine rd_i (va_runS (As := [.int ((nI (cHg σ pt p)) - (nI (N.2.2 k)))]) (rest := []) ⟨hx, hb, hml, hown, hts⟩ (c_X8_size l G ((nI (cHg σ pt p)) - (nI (N.2.2 k)))) (va_cwS 1 hts gX8_isFit_X8_size rfl rfl rfl (by decide +kernel) ⟨Nat.le_of_ble_eq_true rfl, Nat.le_of_ble_eq_true rfl⟩) (rPre_S hK hP [] rfl) rfl rfl hl.1 rfl (lv_room (Nat.le_of_ble_eq_true rfl)) dX8_isFit_85 ⟨Nat.zero_le _, Nat.zero_le _⟩) (fun r_85 q_85 => ?_)
      obtain rfl : r_85 = isz ((nI (cHg σ pt p)) - (nI (N.2.2 k))) := q_85
      refine top_i (y := iabs (nI (cHg σ pt p) - nI (N.2.2 k))) (isz_abs _) ?_
      refine lv_aload_n hx hb dX8_isFit_88 rfl (lv_at hl 1 rfl) ?_
      refine va_get (D := G.1) (ci := 8) (v := .int (v 8)) (C := RX8) (T := TX8) (N := 44) hx hb hts hin8 hown hK.1 hP 0 rfl rfl 8 (by decide) f154 (fun _ h9 => h9) rfl dX8_isFit_89 ?_
      refine top_i (y := nI (zl σ)) (hv8) ?_
      refine lv_icmp_gt (tgt := 99) hx hb dX8_isFit_92 (by decide) (fun c_92 => ?_) (fun c_92 => ?_)
      · refine lv_iconst (v := 0) hx hb dX8_isFit_99 (by decide) ?_
        have hpost : (0 : Int32) = b2i (fitB σ N pt j k p) := by
          have hfar : mFar (cBe σ pt p) (N.2.1 k) j = 64 - (cBe σ pt p + 128 - N.2.1 k - j) % 64 := by unfold mFar; rw [if_pos (by omega)]
          rw [fitB, lkB_far hb64 hN.2.1 hl3 hj, hfar]
          rw [decide_eq_true c_92]
          rfl
        exact hret _ _ _ (hpost) (rfl) dX8_isFit_100
      · refine lv_iconst (v := 1) hx hb dX8_isFit_95 (by decide) ?_
        refine lv_goto (tgt := 100) hx hb dX8_isFit_96 (by decide) ?_
        have hpost : (1 : Int32) = b2i (fitB σ N pt j k p) := by
          have hfar : mFar (cBe σ pt p) (N.2.1 k) j = 64 - (cBe σ pt p + 128 - N.2.1 k - j) % 64 := by unfold mFar; rw [if_pos (by omega)]
          rw [fitB, lkB_far hb64 hN.2.1 hl3 hj, hfar]
          rw [decide_eq_false c_92, decide_eq_true (show (64 - (cBe σ pt p + 128 - N.2.1 k - j) % 64) ≤ zl σ by omega)]
          rfl
        exact hret _ _ _ (hpost) (rfl) dX8_isFit_100

abbrev rX8_scoreOf : Room := { frames := 2, cells := 0, slots := 0, locals := 51 }
set_option maxHeartbeats 4000000 in
set_option maxRecDepth 100000 in
theorem c_X8_scoreOf (l : Launch) (G : kG) (h : Nat) (v : Nat → Int32) (q : Nat → Nat) (px : Nat → Int32) (py : Nat → Int32) (hi : Nat → Int32) (la : Nat → Int32) (lb : Nat → Int32) (ip : Nat → Int32) (se : Nat → Int32) (be : Nat → Int32) (he : Nat → Int32) (σ : PS) (sa : Nat → Int32) (ft : Nat → Int32) (wh : Nat → Int32) (rA : Nat → Int32) (bA : Nat → Int32) (ha : Nat → Int32) (N : NL) (pt : Nat) (j : Nat) (wo : Int32) (cl : Int32) (hLM : LM σ v px py hi la lb ip se be he) (hSM : SMr N sa) (hpt : pt < 64) (hj : j < 64) (hc : cPk σ pt = 0) : Ci l G yX8_scoreOf wsX8_scoreOf rX8_scoreOf [.ref h, .int (nI pt), .int (nI j), .int wo, .int cl] [oB h 8 (oF8 v q), aI G (q 10) 64 se, aI G (q 11) 640 be, aI G (q 12) 640 he, aI G (q 13) 17 sa, aI G (q 36) 8 ft, aI G (q 37) 10 wh, aI G (q 38) 8 rA, aI G (q 39) 10 bA, aI G (q 40) 8 ha] (fun r (u : (Nat → Int32) × (Nat → Int32) × (Nat → Int32) × (Nat → Int32) × (Nat → Int32)) => r = nI (sc (gS σ N pt j wo cl) N.1)) (fun u => [oB h 8 (oF8 v q), aI G (q 10) 64 se, aI G (q 11) 640 be, aI G (q 12) 640 he, aI G (q 13) 17 sa, aI G (q 36) 8 u.1, aI G (q 37) 10 u.2.1, aI G (q 38) 8 u.2.2.1, aI G (q 39) 10 u.2.2.2.1, aI G (q 40) 8 u.2.2.2.2]) := by
  refine Ci.of (cc := cX8_scoreOf) (maxL := 9) (by decide) rfl (Nat.le_of_ble_eq_true rfl) ?_
  intro pM eM sM mM bM tM cM Q A hx hb hts hown hml hA hK hP hD hS hret ls hl
  have hown : sM.vm.findClass RX8 = some mM.cls := hown
  have hl : lv_has ls 9 [(0, .ref h), (1, .int (nI pt)), (2, .int (nI j)), (3, .int wo), (4, .int cl)] := hl
  have hin8 : ∀ w ∈ u_ws RX8 TX8 44, w ∈ wsX8_scoreOf := by decide +kernel
  have f38 := hts (.fieldLink RX8 38 "HorizonPeaksModel" "s" "[I") (by decide +kernel)
  have f77 := hts (.fieldLink RX8 77 "HorizonPeaksModel" "fit" "[I") (by decide +kernel)
  have f102 := hts (.fieldLink RX8 102 "HorizonPeaksModel" "peaks" "I") (by decide +kernel)
  have f29 := hts (.fieldLink RX8 29 "HorizonPeaksModel" "seen" "[I") (by decide +kernel)
  have f80 := hts (.fieldLink RX8 80 "HorizonPeaksModel" "whose" "[I") (by decide +kernel)
  have f89 := hts (.fieldLink RX8 89 "HorizonPeaksModel" "has" "[I") (by decide +kernel)
  have hLM0 := hLM
  obtain ⟨hok, ⟨hv1, hv5, hv8⟩, har, hLP⟩ := hLM
  have hn10 := hok.1
  have hm8 := hok.2.1
  have hl3 := hok.2.2.1
  have hip : ∀ i, i < 64 → ip i = b2i (decide (cPk σ i = 0)) := fun i hh => (hLP i hh).1
  have hN8 := hSM.2.1
  have hse := (hLP pt hpt).2.1
  refine lv_iconst (v := 0) hx hb dX8_scoreOf_0 (by decide) ?_
  refine lv_istore (lv' := [(5, .int 0), (0, .ref h), (1, .int (nI pt)), (2, .int (nI j)), (3, .int wo), (4, .int cl)]) hx hb dX8_scoreOf_1 hl (by decide) rfl (fun ls hl => ?_)
  refine lv_iconst (v := 0) hx hb dX8_scoreOf_3 (by decide) ?_
  refine lv_istore (lv' := [(6, .int 0), (5, .int 0), (0, .ref h), (1, .int (nI pt)), (2, .int (nI j)), (3, .int wo), (4, .int cl)]) hx hb dX8_scoreOf_4 hl (by decide) rfl (fun ls hl => ?_)
  have loop_6 : ∀ (nF : Nat) (k : Nat) (any : Int32) (f : Nat → Int32), (N.1 - k) < nF → (k ≤ N.1) → (∀ i p9, i < k → p9 < 10 → bt (f i) p9 = gS σ N pt j wo cl i p9) → (any = 0 → ∀ i, i < k → f i = 0) → ∀ (H : Heap) (locs : List Loc), va_P G.1 vwCl [oB h 8 (oF8 v q), aI G (q 10) 64 se, aI G (q 11) 640 be, aI G (q 12) 640 he, aI G (q 13) 17 sa, aI G (q 36) 8 f, aI G (q 37) 10 wh, aI G (q 38) 8 rA, aI G (q 39) 10 bA, aI G (q 40) 8 ha] H → va_D A [oB h 8 (oF8 v q), aI G (q 10) 64 se, aI G (q 11) 640 be, aI G (q 12) 640 he, aI G (q 13) 17 sa, aI G (q 36) 8 f, aI G (q 37) 10 wh, aI G (q 38) 8 rA, aI G (q 39) 10 bA, aI G (q 40) 8 ha] → va_S A sM.heap H locs → ∀ (ls : Array Slot), lv_has ls 9 [(6, .int (nI k)), (5, .int any), (0, .ref h), (1, .int (nI pt)), (2, .int (nI j)), (3, .int wo), (4, .int cl)] → W pM l eM rX8_scoreOf sM mM [.ref h, .int (nI pt), .int (nI j), .int wo, .int cl].toArray bM tM cM H locs 0 0 Q (F0 mM 6 ls []) := by
    intro nF
    induction nF with
    | zero => intro k any f hmF; exact absurd hmF (Nat.not_lt_zero _)
    | succ nF ih6 =>
      intro k any f hmF hk hfi hany H locs hP hD hS ls hl
      refine lv_iload hx hb dX8_scoreOf_6 (lv_at hl 0 rfl) ?_
      refine lv_aload_n hx hb dX8_scoreOf_8 rfl (lv_at hl 2 rfl) ?_
      refine va_get (D := G.1) (ci := 8) (v := .ref (q 13)) (C := RX8) (T := TX8) (N := 44) hx hb hts hin8 hown hK.1 hP 0 rfl rfl 13 (by decide) f38 (fun _ h9 => h9) rfl dX8_scoreOf_9 ?_
      refine lv_iconst (v := 0) hx hb dX8_scoreOf_12 (by decide) ?_
      refine top_i (y := nI 0) rfl ?_
      refine al_i hx hb hK.1 hP 4 0 rfl rfl (j := 0) (by omega) (Nat.le_of_ble_eq_true rfl) dX8_scoreOf_13 ?_
      refine top_i (y := nI N.1) (hSM.1) ?_
      refine lv_icmp_ge (tgt := 132) hx hb dX8_scoreOf_14 (by decide) (fun c_14 => ?_) (fun c_14 => ?_)
      · have c_14 : N.1 ≤ k := (c_le (a := N.1) (b := k) rfl rfl (by omega) (by omega)).mp c_14
        have hFT : ∀ i p9, i < N.1 → p9 < 10 → bt (f i) p9 = gS σ N pt j wo cl i p9 := fun i p9 hi => hfi i p9 (by omega)
        refine lv_iload hx hb dX8_scoreOf_132 (lv_at hl 1 rfl) ?_
        refine lv_if_ne (tgt := 139) hx hb dX8_scoreOf_134 (by decide) (fun c_134 => ?_) (fun c_134 => ?_)
        · refine lv_iconst (v := 0) hx hb dX8_scoreOf_139 (by decide) ?_
          refine lv_istore (lv' := [(6, .int 0), (5, .int any), (0, .ref h), (1, .int (nI pt)), (2, .int (nI j)), (3, .int wo), (4, .int cl)]) hx hb dX8_scoreOf_140 hl (by decide) rfl (fun ls hl => ?_)
          have loop_142 : ∀ (nF : Nat) (p2 : Nat) (w2 : Nat → Int32), (zn σ - p2) < nF → (p2 ≤ zn σ) → (∀ q9, q9 < p2 → w2 q9 = -9) → ∀ (H : Heap) (locs : List Loc), va_P G.1 vwCl [oB h 8 (oF8 v q), aI G (q 10) 64 se, aI G (q 11) 640 be, aI G (q 12) 640 he, aI G (q 13) 17 sa, aI G (q 36) 8 f, aI G (q 37) 10 w2, aI G (q 38) 8 rA, aI G (q 39) 10 bA, aI G (q 40) 8 ha] H → va_D A [oB h 8 (oF8 v q), aI G (q 10) 64 se, aI G (q 11) 640 be, aI G (q 12) 640 he, aI G (q 13) 17 sa, aI G (q 36) 8 f, aI G (q 37) 10 w2, aI G (q 38) 8 rA, aI G (q 39) 10 bA, aI G (q 40) 8 ha] → va_S A sM.heap H locs → ∀ (ls : Array Slot), lv_has ls 9 [(6, .int (nI p2)), (5, .int any), (0, .ref h), (1, .int (nI pt)), (2, .int (nI j)), (3, .int wo), (4, .int cl)] → W pM l eM rX8_scoreOf sM mM [.ref h, .int (nI pt), .int (nI j), .int wo, .int cl].toArray bM tM cM H locs 0 0 Q (F0 mM 142 ls []) := by
            intro nF
            induction nF with
            | zero => intro p2 w2 hmF; exact absurd hmF (Nat.not_lt_zero _)
            | succ nF ih142 =>
              intro p2 w2 hmF hp2 hw2 H locs hP hD hS ls hl
              refine lv_iload hx hb dX8_scoreOf_142 (lv_at hl 0 rfl) ?_
              refine lv_aload_n hx hb dX8_scoreOf_144 rfl (lv_at hl 2 rfl) ?_
              refine va_get (D := G.1) (ci := 8) (v := .int (v 1)) (C := RX8) (T := TX8) (N := 44) hx hb hts hin8 hown hK.1 hP 0 rfl rfl 1 (by decide) f102 (fun _ h9 => h9) rfl dX8_scoreOf_145 ?_
              refine top_i (y := nI (zn σ)) (hv1) ?_
              refine lv_icmp_ge (tgt := 166) hx hb dX8_scoreOf_148 (by decide) (fun c_148 => ?_) (fun c_148 => ?_)
              · have c_148 : (zn σ) ≤ p2 := (c_le (a := zn σ) (b := p2) rfl rfl (by omega) (by omega)).mp c_148
                refine lv_iconst (v := 0) hx hb dX8_scoreOf_166 (by decide) ?_
                refine lv_istore (lv' := [(6, .int 0), (5, .int any), (0, .ref h), (1, .int (nI pt)), (2, .int (nI j)), (3, .int wo), (4, .int cl)]) hx hb dX8_scoreOf_167 hl (by decide) rfl (fun ls hl => ?_)
                refine lv_iconst (v := 0) hx hb dX8_scoreOf_169 (by decide) ?_
                refine lv_istore (lv' := [(7, .int 0), (6, .int 0), (5, .int any), (0, .ref h), (1, .int (nI pt)), (2, .int (nI j)), (3, .int wo), (4, .int cl)]) hx hb dX8_scoreOf_170 hl (by decide) rfl (fun ls hl => ?_)
                have loop_172 : ∀ (nF : Nat) (k2 : Nat) (h2 : Nat → Int32), (N.1 - k2) < nF → (k2 ≤ N.1) → ∀ (H : Heap) (locs : List Loc), va_P G.1 vwCl [oB h 8 (oF8 v q), aI G (q 10) 64 se, aI G (q 11) 640 be, aI G (q 12) 640 he, aI G (q 13) 17 sa, aI G (q 36) 8 f, aI G (q 37) 10 w2, aI G (q 38) 8 rA, aI G (q 39) 10 bA, aI G (q 40) 8 h2] H → va_D A [oB h 8 (oF8 v q), aI G (q 10) 64 se, aI G (q 11) 640 be, aI G (q 12) 640 he, aI G (q 13) 17 sa, aI G (q 36) 8 f, aI G (q 37) 10 w2, aI G (q 38) 8 rA, aI G (q 39) 10 bA, aI G (q 40) 8 h2] → va_S A sM.heap H locs → ∀ (ls : Array Slot), lv_has ls 9 [(7, .int (nI k2)), (6, .int 0), (0, .ref h), (1, .int (nI pt)), (2, .int (nI j)), (3, .int wo), (4, .int cl)] → W pM l eM rX8_scoreOf sM mM [.ref h, .int (nI pt), .int (nI j), .int wo, .int cl].toArray bM tM cM H locs 0 0 Q (F0 mM 172 ls []) := by
                  intro nF
                  induction nF with
                  | zero => intro k2 h2 hmF; exact absurd hmF (Nat.not_lt_zero _)
                  | succ nF ih172 =>
                    intro k2 h2 hmF hk2 H locs hP hD hS ls hl
                    refine lv_iload hx hb dX8_scoreOf_172 (lv_at hl 0 rfl) ?_
                    refine lv_aload_n hx hb dX8_scoreOf_174 rfl (lv_at hl 2 rfl) ?_
                    refine va_get (D := G.1) (ci := 8) (v := .ref (q 13)) (C := RX8) (T := TX8) (N := 44) hx hb hts hin8 hown hK.1 hP 0 rfl rfl 13 (by decide) f38 (fun _ h9 => h9) rfl dX8_scoreOf_175 ?_
                    refine lv_iconst (v := 0) hx hb dX8_scoreOf_178 (by decide) ?_
                    refine top_i (y := nI 0) rfl ?_
                    refine al_i hx hb hK.1 hP 4 0 rfl rfl (j := 0) (by omega) (Nat.le_of_ble_eq_true rfl) dX8_scoreOf_179 ?_
                    refine top_i (y := nI N.1) (hSM.1) ?_
                    refine lv_icmp_ge (tgt := 198) hx hb dX8_scoreOf_180 (by decide) (fun c_180 => ?_) (fun c_180 => ?_)
                    · have c_180 : N.1 ≤ k2 := (c_le (a := N.1) (b := k2) rfl rfl (by omega) (by omega)).mp c_180
                      refine lv_iconst (v := 0) hx hb dX8_scoreOf_198 (by decide) ?_
                      refine lv_istore (lv' := [(7, .int 0), (6, .int 0), (0, .ref h), (1, .int (nI pt)), (2, .int (nI j)), (3, .int wo), (4, .int cl)]) hx hb dX8_scoreOf_199 hl (by decide) rfl (fun ls hl => ?_)
                      have loop_201 : ∀ (nF : Nat) (k3 : Nat) (cnt : Nat) (own : Nat → Nat) (wc : Nat → Int32) (rc : Nat → Int32) (bc : Nat → Int32) (hc2 : Nat → Int32), (N.1 - k3) < nF → (k3 ≤ N.1) → (whR wc own (zn σ)) → (haR hc2 own) → (maW (gS σ N pt j wo cl) own k3) → (fb_ct (hsW own) k3 = sc (gS σ N pt j wo cl) k3) → (cnt = sc (gS σ N pt j wo cl) k3) → ∀ (H : Heap) (locs : List Loc), va_P G.1 vwCl [oB h 8 (oF8 v q), aI G (q 10) 64 se, aI G (q 11) 640 be, aI G (q 12) 640 he, aI G (q 13) 17 sa, aI G (q 36) 8 f, aI G (q 37) 10 wc, aI G (q 38) 8 rc, aI G (q 39) 10 bc, aI G (q 40) 8 hc2] H → va_D A [oB h 8 (oF8 v q), aI G (q 10) 64 se, aI G (q 11) 640 be, aI G (q 12) 640 he, aI G (q 13) 17 sa, aI G (q 36) 8 f, aI G (q 37) 10 wc, aI G (q 38) 8 rc, aI G (q 39) 10 bc, aI G (q 40) 8 hc2] → va_S A sM.heap H locs → ∀ (ls : Array Slot), lv_has ls 9 [(7, .int (nI k3)), (6, .int (nI cnt)), (0, .ref h), (1, .int (nI pt)), (2, .int (nI j)), (3, .int wo), (4, .int cl)] → W pM l eM rX8_scoreOf sM mM [.ref h, .int (nI pt), .int (nI j), .int wo, .int cl].toArray bM tM cM H locs 0 0 Q (F0 mM 201 ls []) := by
                        intro nF
                        induction nF with
                        | zero => intro k3 cnt own wc rc bc hc2 hmF; exact absurd hmF (Nat.not_lt_zero _)
                        | succ nF ih201 =>
                          intro k3 cnt own wc rc bc hc2 hmF hk3 hwr hhr hma hct hcn H locs hP hD hS ls hl
                          refine lv_iload hx hb dX8_scoreOf_201 (lv_at hl 0 rfl) ?_
                          refine lv_aload_n hx hb dX8_scoreOf_203 rfl (lv_at hl 2 rfl) ?_
                          refine va_get (D := G.1) (ci := 8) (v := .ref (q 13)) (C := RX8) (T := TX8) (N := 44) hx hb hts hin8 hown hK.1 hP 0 rfl rfl 13 (by decide) f38 (fun _ h9 => h9) rfl dX8_scoreOf_204 ?_
                          refine lv_iconst (v := 0) hx hb dX8_scoreOf_207 (by decide) ?_
                          refine top_i (y := nI 0) rfl ?_
                          refine al_i hx hb hK.1 hP 4 0 rfl rfl (j := 0) (by omega) (Nat.le_of_ble_eq_true rfl) dX8_scoreOf_208 ?_
                          refine top_i (y := nI N.1) (hSM.1) ?_
                          refine lv_icmp_ge (tgt := 247) hx hb dX8_scoreOf_209 (by decide) (fun c_209 => ?_) (fun c_209 => ?_)
                          · have c_209 : N.1 ≤ k3 := (c_le (a := N.1) (b := k3) rfl rfl (by omega) (by omega)).mp c_209
                            refine lv_iload hx hb dX8_scoreOf_247 (lv_at hl 1 rfl) ?_
                            exact hret _ (f, wc, rc, bc, hc2) _ _ _ _ (by rw [hcn, show k3 = N.1 by omega]) (rfl) hP hD hS dX8_scoreOf_249
                          · have c_209 : ¬ N.1 ≤ k3 := fun hne => c_209 ((c_le (a := N.1) (b := k3) rfl rfl (by omega) (by omega)).mpr hne)
                            refine lv_iload hx hb dX8_scoreOf_212 (lv_at hl 1 rfl) ?_
                            refine lv_aload_n hx hb dX8_scoreOf_214 rfl (lv_at hl 2 rfl) ?_
                            refine va_get (D := G.1) (ci := 8) (v := .ref (q 36)) (C := RX8) (T := TX8) (N := 44) hx hb hts hin8 hown hK.1 hP 0 rfl rfl 36 (by decide) f77 (fun _ h9 => h9) rfl dX8_scoreOf_215 ?_
                            refine lv_iload hx hb dX8_scoreOf_218 (lv_at hl 0 rfl) ?_
                            refine al_i hx hb hK.1 hP 5 0 rfl rfl (j := k3) (by omega) (Nat.le_of_ble_eq_true rfl) dX8_scoreOf_220 ?_
                            refine lv_if_eq (tgt := 237) hx hb dX8_scoreOf_221 (by decide) (fun c_221 => ?_) (fun c_221 => ?_)
                            · refine lv_iconst (v := 0) hx hb dX8_scoreOf_237 (by decide) ?_
                              refine lv_iadd hx hb dX8_scoreOf_238 ?_
                              refine top_i (y := nI cnt) (Int32.add_zero _) ?_
                              refine lv_istore (lv' := [(6, .int (nI cnt)), (7, .int (nI k3)), (0, .ref h), (1, .int (nI pt)), (2, .int (nI j)), (3, .int wo), (4, .int cl)]) hx hb dX8_scoreOf_239 hl (by decide) rfl (fun ls hl => ?_)
                              refine lv_iinc (v := nI (k3 + 1)) (lv' := [(7, .int (nI (k3 + 1))), (6, .int (nI cnt)), (0, .ref h), (1, .int (nI pt)), (2, .int (nI j)), (3, .int wo), (4, .int cl)]) hx hb dX8_scoreOf_241 hl (k := 1) rfl (inc_nI _ 1) (by decide) rfl (fun ls hl => ?_)
                              refine lv_goto (tgt := 201) hx hb dX8_scoreOf_244 (by decide) ?_
                              have hcl : clW (gS σ N pt j wo cl) own k3 := clW_none (fun p9 hp9 => by rw [← hFT k3 p9 (by omega) hp9, c_221, b_0])
                              have hfa := fail_ma (by omega) hma hct hcl
                              exact ih201 (k3 + 1) cnt own wc rc bc hc2 (by omega) (by omega) (hwr) (hhr) (hfa.1) (hfa.2) (by rw [fail_sc (by omega) hma hcl]; exact hcn) _ _ hP hD hS _ (lv_sub hl [0, 1, 2, 3, 4, 5, 6] rfl)
                            · refine lv_aload_n hx hb dX8_scoreOf_224 rfl (lv_at hl 2 rfl) ?_
                              refine lv_iload hx hb dX8_scoreOf_225 (lv_at hl 0 rfl) ?_
                              refine ca_i (wr := [aI G (q 10) 64 se, aI G (q 11) 640 be, aI G (q 12) 640 he, aI G (q 13) 17 sa]) (va_runV (As := [.int (nI k3)]) (rest := [.int (nI cnt)]) ⟨hx, hb, hml, hown, hts⟩ ((c_X8_finds l G h v q f wc rc bc hc2 (gS σ N pt j wo cl) own (zn σ) k3 (hv1) (hn10) (by omega) (fun k9 p9 hk9 hp9 => hFT k9 p9 (by omega) hp9) (fun k9 p9 h9 => by simp only [gS, Bool.and_eq_true, decide_eq_true_eq] at h9; exact h9.1) (hma) (hwr) (hhr)) _) (cwV 1 hts gX8_scoreOf_X8_finds rfl rfl rfl (by decide +kernel) ⟨Nat.le_of_ble_eq_true rfl, Nat.le_of_ble_eq_true rfl⟩) (cPre_V hK hP hD [0, 5, 6, 7, 8, 9] (by decide) rfl 0 8 rfl rfl) rfl rfl hl.1 rfl (lv_room (Nat.le_of_ble_eq_true rfl)) dX8_scoreOf_227 ⟨Nat.zero_le _, Nat.zero_le _⟩) hP hD hS hA [0, 5, 6, 7, 8, 9] [1, 2, 3, 4] rfl rfl (by decide) (by decide) [4, 0, 1, 2, 3, 5, 6, 7, 8, 9] (fun u_227 => [oB h 8 (oF8 v q), aI G (q 10) 64 se, aI G (q 11) 640 be, aI G (q 12) 640 he, aI G (q 13) 17 sa, aI G (q 36) 8 f, aI G (q 37) 10 u_227.1, aI G (q 38) 8 u_227.2.1, aI G (q 39) 10 u_227.2.2.1, aI G (q 40) 8 u_227.2.2.2]) (by decide) (fun _ => rfl) (fun r_227 u_227 H locs q_227 hP hD hS => ?_)
                              have q_227 : ∃ bY oY, r_227 = b2i bY ∧ whR u_227.1 oY (zn σ) ∧ haR u_227.2.2.2 oY ∧ (bY = true → okW (gS σ N pt j wo cl) oY ∧ ∀ i, i < 8 → cnW oY i = cnW own i + (if i = k3 then 1 else 0)) ∧ (bY = false → oY = own ∧ clW (gS σ N pt j wo cl) own k3) := q_227
                              have hP : va_P G.1 vwCl [oB h 8 (oF8 v q), aI G (q 10) 64 se, aI G (q 11) 640 be, aI G (q 12) 640 he, aI G (q 13) 17 sa, aI G (q 36) 8 f, aI G (q 37) 10 u_227.1, aI G (q 38) 8 u_227.2.1, aI G (q 39) 10 u_227.2.2.1, aI G (q 40) 8 u_227.2.2.2] H := hP
                              have hD : va_D A [oB h 8 (oF8 v q), aI G (q 10) 64 se, aI G (q 11) 640 be, aI G (q 12) 640 he, aI G (q 13) 17 sa, aI G (q 36) 8 f, aI G (q 37) 10 u_227.1, aI G (q 38) 8 u_227.2.1, aI G (q 39) 10 u_227.2.2.1, aI G (q 40) 8 u_227.2.2.2] := hD
                              obtain ⟨bY, oY, rfl, hW9, hH9, hT9, hF9⟩ := q_227
                              refine lv_if_eq (tgt := 237) hx hb dX8_scoreOf_230 (by decide) (fun c_230 => ?_) (fun c_230 => ?_)
                              · have c_230 : bY = false := b2i_0.mp c_230
                                refine lv_iconst (v := 0) hx hb dX8_scoreOf_237 (by decide) ?_
                                refine lv_iadd hx hb dX8_scoreOf_238 ?_
                                refine top_i (y := nI cnt) (Int32.add_zero _) ?_
                                refine lv_istore (lv' := [(6, .int (nI cnt)), (7, .int (nI k3)), (0, .ref h), (1, .int (nI pt)), (2, .int (nI j)), (3, .int wo), (4, .int cl)]) hx hb dX8_scoreOf_239 hl (by decide) rfl (fun ls hl => ?_)
                                refine lv_iinc (v := nI (k3 + 1)) (lv' := [(7, .int (nI (k3 + 1))), (6, .int (nI cnt)), (0, .ref h), (1, .int (nI pt)), (2, .int (nI j)), (3, .int wo), (4, .int cl)]) hx hb dX8_scoreOf_241 hl (k := 1) rfl (inc_nI _ 1) (by decide) rfl (fun ls hl => ?_)
                                refine lv_goto (tgt := 201) hx hb dX8_scoreOf_244 (by decide) ?_
                                obtain ⟨ho9, hcl⟩ := hF9 c_230
                                rw [ho9] at hW9 hH9
                                have hfa := fail_ma (by omega) hma hct hcl
                                exact ih201 (k3 + 1) cnt own u_227.1 u_227.2.1 u_227.2.2.1 u_227.2.2.2 (by omega) (by omega) (hW9) (hH9) (hfa.1) (hfa.2) (by rw [fail_sc (by omega) hma hcl]; exact hcn) _ _ hP hD hS _ (lv_sub hl [0, 1, 2, 3, 4, 5, 6] rfl)
                              · have c_230 : bY = true := b2i_n0.mp c_230
                                refine lv_iconst (v := 1) hx hb dX8_scoreOf_233 (by decide) ?_
                                refine lv_goto (tgt := 238) hx hb dX8_scoreOf_234 (by decide) ?_
                                refine lv_iadd hx hb dX8_scoreOf_238 ?_
                                refine top_i (y := nI (cnt + 1)) (nI_1 cnt) ?_
                                refine lv_istore (lv' := [(6, .int (nI (cnt + 1))), (7, .int (nI k3)), (0, .ref h), (1, .int (nI pt)), (2, .int (nI j)), (3, .int wo), (4, .int cl)]) hx hb dX8_scoreOf_239 hl (by decide) rfl (fun ls hl => ?_)
                                refine lv_iinc (v := nI (k3 + 1)) (lv' := [(7, .int (nI (k3 + 1))), (6, .int (nI (cnt + 1))), (0, .ref h), (1, .int (nI pt)), (2, .int (nI j)), (3, .int wo), (4, .int cl)]) hx hb dX8_scoreOf_241 hl (k := 1) rfl (inc_nI _ 1) (by decide) rfl (fun ls hl => ?_)
                                refine lv_goto (tgt := 201) hx hb dX8_scoreOf_244 (by decide) ?_
                                have hsu := succ_sc (by omega) hma hct (hT9 c_230).1 (hT9 c_230).2
                                exact ih201 (k3 + 1) (cnt + 1) oY u_227.1 u_227.2.1 u_227.2.2.1 u_227.2.2.2 (by omega) (by omega) (hW9) (hH9) (hsu.1) (hsu.2.1) (by rw [hsu.2.2]; omega) _ _ hP hD hS _ (lv_sub hl [0, 1, 2, 3, 4, 5, 6] rfl)
                      exact loop_201 _ 0 0 (fun _ => 9) w2 rA bA h2 (Nat.lt_succ_self _) (Nat.zero_le _) (fun p9 hp9 => Or.inr ⟨rfl, fun hz9 => hw2 p9 (by omega)⟩) (fun k9 hk9 => Or.inr (fun r9 _ => by show 9 ≠ k9; omega)) (⟨fun p _ h => absurd (show 9 < 8 from h) (by decide), fun i => by by_cases c : i < 8; exact Or.inl (by unfold cnW; rw [fb_ct_zero.mpr (fun q _ => by simp; omega)]; omega); exact Or.inr (by omega), fun p _ h => absurd (show 9 < 8 from h) (by decide)⟩) ((Nat.le_zero.mp (sc_le _ 0)).symm) ((Nat.le_zero.mp (sc_le _ 0)).symm) _ _ hP hD hS _ (lv_sub hl [0, 1, 2, 3, 4, 5, 6] rfl)
                    · have c_180 : ¬ N.1 ≤ k2 := fun hne => c_180 ((c_le (a := N.1) (b := k2) rfl rfl (by omega) (by omega)).mpr hne)
                      refine lv_aload_n hx hb dX8_scoreOf_183 rfl (lv_at hl 2 rfl) ?_
                      refine va_get (D := G.1) (ci := 8) (v := .ref (q 40)) (C := RX8) (T := TX8) (N := 44) hx hb hts hin8 hown hK.1 hP 0 rfl rfl 40 (by decide) f89 (fun _ h9 => h9) rfl dX8_scoreOf_184 ?_
                      refine lv_iload hx hb dX8_scoreOf_187 (lv_at hl 0 rfl) ?_
                      refine lv_bipush (v := -9) hx hb dX8_scoreOf_189 (by decide) ?_
                      refine as_i hx hb hK.1 hP hD hS 9 0 rfl rfl (j := k2) (by omega) (Nat.le_of_ble_eq_true rfl) dX8_scoreOf_191 (fun H locs hP hD hS => ?_)
                      have hP : va_P G.1 vwCl [oB h 8 (oF8 v q), aI G (q 10) 64 se, aI G (q 11) 640 be, aI G (q 12) 640 he, aI G (q 13) 17 sa, aI G (q 36) 8 f, aI G (q 37) 10 w2, aI G (q 38) 8 rA, aI G (q 39) 10 bA, aI G (q 40) 8 (upd h2 k2 (-9))] H := hP
                      have hD : va_D A [oB h 8 (oF8 v q), aI G (q 10) 64 se, aI G (q 11) 640 be, aI G (q 12) 640 he, aI G (q 13) 17 sa, aI G (q 36) 8 f, aI G (q 37) 10 w2, aI G (q 38) 8 rA, aI G (q 39) 10 bA, aI G (q 40) 8 (upd h2 k2 (-9))] := hD
                      refine lv_iinc (v := nI (k2 + 1)) (lv' := [(7, .int (nI (k2 + 1))), (6, .int 0), (0, .ref h), (1, .int (nI pt)), (2, .int (nI j)), (3, .int wo), (4, .int cl)]) hx hb dX8_scoreOf_192 hl (k := 0) rfl (inc_nI _ 1) (by decide) rfl (fun ls hl => ?_)
                      refine lv_goto (tgt := 172) hx hb dX8_scoreOf_195 (by decide) ?_
                      exact ih172 (k2 + 1) (upd h2 k2 (-9)) (by omega) (by omega) _ _ hP hD hS _ (lv_sub hl [0, 1, 2, 3, 4, 5, 6] rfl)
                exact loop_172 _ 0 ha (Nat.lt_succ_self _) (Nat.zero_le _) _ _ hP hD hS _ (lv_sub hl [0, 1, 3, 4, 5, 6, 7] rfl)
              · have c_148 : ¬ (zn σ) ≤ p2 := fun hne => c_148 ((c_le (a := zn σ) (b := p2) rfl rfl (by omega) (by omega)).mpr hne)
                refine lv_aload_n hx hb dX8_scoreOf_151 rfl (lv_at hl 2 rfl) ?_
                refine va_get (D := G.1) (ci := 8) (v := .ref (q 37)) (C := RX8) (T := TX8) (N := 44) hx hb hts hin8 hown hK.1 hP 0 rfl rfl 37 (by decide) f80 (fun _ h9 => h9) rfl dX8_scoreOf_152 ?_
                refine lv_iload hx hb dX8_scoreOf_155 (lv_at hl 0 rfl) ?_
                refine lv_bipush (v := -9) hx hb dX8_scoreOf_157 (by decide) ?_
                refine as_i hx hb hK.1 hP hD hS 6 0 rfl rfl (j := p2) (by omega) (Nat.le_of_ble_eq_true rfl) dX8_scoreOf_159 (fun H locs hP hD hS => ?_)
                have hP : va_P G.1 vwCl [oB h 8 (oF8 v q), aI G (q 10) 64 se, aI G (q 11) 640 be, aI G (q 12) 640 he, aI G (q 13) 17 sa, aI G (q 36) 8 f, aI G (q 37) 10 (upd w2 p2 (-9)), aI G (q 38) 8 rA, aI G (q 39) 10 bA, aI G (q 40) 8 ha] H := hP
                have hD : va_D A [oB h 8 (oF8 v q), aI G (q 10) 64 se, aI G (q 11) 640 be, aI G (q 12) 640 he, aI G (q 13) 17 sa, aI G (q 36) 8 f, aI G (q 37) 10 (upd w2 p2 (-9)), aI G (q 38) 8 rA, aI G (q 39) 10 bA, aI G (q 40) 8 ha] := hD
                refine lv_iinc (v := nI (p2 + 1)) (lv' := [(6, .int (nI (p2 + 1))), (5, .int any), (0, .ref h), (1, .int (nI pt)), (2, .int (nI j)), (3, .int wo), (4, .int cl)]) hx hb dX8_scoreOf_160 hl (k := 0) rfl (inc_nI _ 1) (by decide) rfl (fun ls hl => ?_)
                refine lv_goto (tgt := 142) hx hb dX8_scoreOf_163 (by decide) ?_
                exact ih142 (p2 + 1) (upd w2 p2 (-9)) (by omega) (by omega) (fun i hi => if e9 : i = p2 then by rw [e9, pk_us] else by rw [pk_un e9]; exact hw2 i (by omega)) _ _ hP hD hS _ (lv_sub hl [0, 1, 2, 3, 4, 5, 6] rfl)
          exact loop_142 _ 0 wh (Nat.lt_succ_self _) (Nat.zero_le _) (fun i hi => absurd hi (Nat.not_lt_zero i)) _ _ hP hD hS _ (lv_sub hl [0, 1, 2, 3, 4, 5, 6] rfl)
        · refine lv_iconst (v := 0) hx hb dX8_scoreOf_137 (by decide) ?_
          have hpost : (0 : Int32) = nI (sc (gS σ N pt j wo cl) N.1) := by
            rw [sc_none (fun k9 p9 hk9 hp9 => by rw [← hFT k9 p9 hk9 hp9, hany c_134 k9 (by omega), b_0])]
            rfl
          exact hret _ (f, wh, rA, bA, ha) _ _ _ _ (hpost) (rfl) hP hD hS dX8_scoreOf_138
      · have c_14 : ¬ N.1 ≤ k := fun hne => c_14 ((c_le (a := N.1) (b := k) rfl rfl (by omega) (by omega)).mpr hne)
        refine lv_aload_n hx hb dX8_scoreOf_17 rfl (lv_at hl 2 rfl) ?_
        refine va_get (D := G.1) (ci := 8) (v := .ref (q 36)) (C := RX8) (T := TX8) (N := 44) hx hb hts hin8 hown hK.1 hP 0 rfl rfl 36 (by decide) f77 (fun _ h9 => h9) rfl dX8_scoreOf_18 ?_
        refine lv_iload hx hb dX8_scoreOf_21 (lv_at hl 0 rfl) ?_
        refine lv_iconst (v := 0) hx hb dX8_scoreOf_23 (by decide) ?_
        refine as_i hx hb hK.1 hP hD hS 5 0 rfl rfl (j := k) (by omega) (Nat.le_of_ble_eq_true rfl) dX8_scoreOf_24 (fun H locs hP hD hS => ?_)
        have hP : va_P G.1 vwCl [oB h 8 (oF8 v q), aI G (q 10) 64 se, aI G (q 11) 640 be, aI G (q 12) 640 he, aI G (q 13) 17 sa, aI G (q 36) 8 (upd f k 0), aI G (q 37) 10 wh, aI G (q 38) 8 rA, aI G (q 39) 10 bA, aI G (q 40) 8 ha] H := hP
        have hD : va_D A [oB h 8 (oF8 v q), aI G (q 10) 64 se, aI G (q 11) 640 be, aI G (q 12) 640 he, aI G (q 13) 17 sa, aI G (q 36) 8 (upd f k 0), aI G (q 37) 10 wh, aI G (q 38) 8 rA, aI G (q 39) 10 bA, aI G (q 40) 8 ha] := hD
        refine lv_iconst (v := 0) hx hb dX8_scoreOf_25 (by decide) ?_
        refine lv_istore (lv' := [(7, .int 0), (6, .int (nI k)), (5, .int any), (0, .ref h), (1, .int (nI pt)), (2, .int (nI j)), (3, .int wo), (4, .int cl)]) hx hb dX8_scoreOf_26 hl (by decide) rfl (fun ls hl => ?_)
        have loop_28 : ∀ (nF : Nat) (p : Nat) (g1 : Nat → Int32), (zn σ - p) < nF → (p ≤ zn σ) → (∀ i, ¬ i = k → g1 i = f i) → (g1 k = gbits (gT σ N pt j cl k) p) → (¬ nI k = wo ∨ p = 0) → ∀ (H : Heap) (locs : List Loc), va_P G.1 vwCl [oB h 8 (oF8 v q), aI G (q 10) 64 se, aI G (q 11) 640 be, aI G (q 12) 640 he, aI G (q 13) 17 sa, aI G (q 36) 8 g1, aI G (q 37) 10 wh, aI G (q 38) 8 rA, aI G (q 39) 10 bA, aI G (q 40) 8 ha] H → va_D A [oB h 8 (oF8 v q), aI G (q 10) 64 se, aI G (q 11) 640 be, aI G (q 12) 640 he, aI G (q 13) 17 sa, aI G (q 36) 8 g1, aI G (q 37) 10 wh, aI G (q 38) 8 rA, aI G (q 39) 10 bA, aI G (q 40) 8 ha] → va_S A sM.heap H locs → ∀ (ls : Array Slot), lv_has ls 9 [(7, .int (nI p)), (6, .int (nI k)), (5, .int any), (0, .ref h), (1, .int (nI pt)), (2, .int (nI j)), (3, .int wo), (4, .int cl)] → W pM l eM rX8_scoreOf sM mM [.ref h, .int (nI pt), .int (nI j), .int wo, .int cl].toArray bM tM cM H locs 0 0 Q (F0 mM 28 ls []) := by
          intro nF
          induction nF with
          | zero => intro p g1 hmF; exact absurd hmF (Nat.not_lt_zero _)
          | succ nF ih28 =>
            intro p g1 hmF hpn hgo hgk hz H locs hP hD hS ls hl
            refine lv_iload hx hb dX8_scoreOf_28 (lv_at hl 0 rfl) ?_
            refine lv_aload_n hx hb dX8_scoreOf_30 rfl (lv_at hl 3 rfl) ?_
            refine va_get (D := G.1) (ci := 8) (v := .int (v 1)) (C := RX8) (T := TX8) (N := 44) hx hb hts hin8 hown hK.1 hP 0 rfl rfl 1 (by decide) f102 (fun _ h9 => h9) rfl dX8_scoreOf_31 ?_
            refine top_i (y := nI (zn σ)) (hv1) ?_
            refine lv_icmp_ge (tgt := 114) hx hb dX8_scoreOf_34 (by decide) (fun c_34 => ?_) (fun c_34 => ?_)
            · have c_34 : (zn σ) ≤ p := (c_le (a := zn σ) (b := p) rfl rfl (by omega) (by omega)).mp c_34
              refine lv_iload hx hb dX8_scoreOf_114 (lv_at hl 2 rfl) ?_
              refine lv_aload_n hx hb dX8_scoreOf_116 rfl (lv_at hl 3 rfl) ?_
              refine va_get (D := G.1) (ci := 8) (v := .ref (q 36)) (C := RX8) (T := TX8) (N := 44) hx hb hts hin8 hown hK.1 hP 0 rfl rfl 36 (by decide) f77 (fun _ h9 => h9) rfl dX8_scoreOf_117 ?_
              refine lv_iload hx hb dX8_scoreOf_120 (lv_at hl 1 rfl) ?_
              refine al_i hx hb hK.1 hP 5 0 rfl rfl (j := k) (by omega) (Nat.le_of_ble_eq_true rfl) dX8_scoreOf_122 ?_
              refine lv_ior hx hb dX8_scoreOf_123 ?_
              refine lv_istore (lv' := [(5, .int (any ||| (g1 k))), (7, .int (nI p)), (6, .int (nI k)), (0, .ref h), (1, .int (nI pt)), (2, .int (nI j)), (3, .int wo), (4, .int cl)]) hx hb dX8_scoreOf_124 hl (by decide) rfl (fun ls hl => ?_)
              refine lv_iinc (v := nI (k + 1)) (lv' := [(6, .int (nI (k + 1))), (5, .int (any ||| (g1 k))), (7, .int (nI p)), (0, .ref h), (1, .int (nI pt)), (2, .int (nI j)), (3, .int wo), (4, .int cl)]) hx hb dX8_scoreOf_126 hl (k := 2) rfl (inc_nI _ 1) (by decide) rfl (fun ls hl => ?_)
              refine lv_goto (tgt := 6) hx hb dX8_scoreOf_129 (by decide) ?_
              exact ih6 (k + 1) (any ||| g1 k) g1 (by omega) (by omega) (fun i p9 hi hp9 => (Nat.lt_succ_iff_lt_or_eq.mp hi).elim (fun e9 => by rw [hgo i (by omega)]; exact hfi i p9 e9 hp9) (fun e9 => by rw [e9, hgk]; exact gS_row hok (Or.inl (by omega)) hz hp9)) (fun h9 i hi => (Nat.lt_succ_iff_lt_or_eq.mp hi).elim (fun e9 => by rw [hgo i (by omega)]; exact hany (or_z h9).1 i e9) (fun e9 => by rw [e9]; exact (or_z h9).2)) _ _ hP hD hS _ (lv_sub hl [0, 1, 3, 4, 5, 6, 7] rfl)
            · have c_34 : ¬ (zn σ) ≤ p := fun hne => c_34 ((c_le (a := zn σ) (b := p) rfl rfl (by omega) (by omega)).mpr hne)
              refine lv_iload hx hb dX8_scoreOf_37 (lv_at hl 1 rfl) ?_
              refine lv_iload_n hx hb dX8_scoreOf_39 rfl (lv_at hl 6 rfl) ?_
              refine lv_icmp_eq (tgt := 114) hx hb dX8_scoreOf_40 (by decide) (fun c_40 => ?_) (fun c_40 => ?_)
              · refine lv_iload hx hb dX8_scoreOf_114 (lv_at hl 2 rfl) ?_
                refine lv_aload_n hx hb dX8_scoreOf_116 rfl (lv_at hl 3 rfl) ?_
                refine va_get (D := G.1) (ci := 8) (v := .ref (q 36)) (C := RX8) (T := TX8) (N := 44) hx hb hts hin8 hown hK.1 hP 0 rfl rfl 36 (by decide) f77 (fun _ h9 => h9) rfl dX8_scoreOf_117 ?_
                refine lv_iload hx hb dX8_scoreOf_120 (lv_at hl 1 rfl) ?_
                refine al_i hx hb hK.1 hP 5 0 rfl rfl (j := k) (by omega) (Nat.le_of_ble_eq_true rfl) dX8_scoreOf_122 ?_
                refine lv_ior hx hb dX8_scoreOf_123 ?_
                refine lv_istore (lv' := [(5, .int (any ||| (g1 k))), (7, .int (nI p)), (6, .int (nI k)), (0, .ref h), (1, .int (nI pt)), (2, .int (nI j)), (3, .int wo), (4, .int cl)]) hx hb dX8_scoreOf_124 hl (by decide) rfl (fun ls hl => ?_)
                refine lv_iinc (v := nI (k + 1)) (lv' := [(6, .int (nI (k + 1))), (5, .int (any ||| (g1 k))), (7, .int (nI p)), (0, .ref h), (1, .int (nI pt)), (2, .int (nI j)), (3, .int wo), (4, .int cl)]) hx hb dX8_scoreOf_126 hl (k := 2) rfl (inc_nI _ 1) (by decide) rfl (fun ls hl => ?_)
                refine lv_goto (tgt := 6) hx hb dX8_scoreOf_129 (by decide) ?_
                exact ih6 (k + 1) (any ||| g1 k) g1 (by omega) (by omega) (fun i p9 hi hp9 => (Nat.lt_succ_iff_lt_or_eq.mp hi).elim (fun e9 => by rw [hgo i (by omega)]; exact hfi i p9 e9 hp9) (fun e9 => by rw [e9, hgk]; exact gS_row hok (Or.inr c_40) hz hp9)) (fun h9 i hi => (Nat.lt_succ_iff_lt_or_eq.mp hi).elim (fun e9 => by rw [hgo i (by omega)]; exact hany (or_z h9).1 i e9) (fun e9 => by rw [e9]; exact (or_z h9).2)) _ _ hP hD hS _ (lv_sub hl [0, 1, 3, 4, 5, 6, 7] rfl)
              · refine lv_iload hx hb dX8_scoreOf_43 (lv_at hl 0 rfl) ?_
                refine lv_iload hx hb dX8_scoreOf_45 (lv_at hl 7 rfl) ?_
                refine lv_icmp_eq (tgt := 82) hx hb dX8_scoreOf_47 (by decide) (fun c_47 => ?_) (fun c_47 => ?_)
                · refine lv_iconst (v := 0) hx hb dX8_scoreOf_82 (by decide) ?_
                  refine lv_istore (lv' := [(8, .int 0), (7, .int (nI p)), (6, .int (nI k)), (5, .int any), (0, .ref h), (1, .int (nI pt)), (2, .int (nI j)), (3, .int wo), (4, .int cl)]) hx hb dX8_scoreOf_83 hl (by decide) rfl (fun ls hl => ?_)
                  refine lv_aload_n hx hb dX8_scoreOf_85 rfl (lv_at hl 4 rfl) ?_
                  refine va_get (D := G.1) (ci := 8) (v := .ref (q 36)) (C := RX8) (T := TX8) (N := 44) hx hb hts hin8 hown hK.1 hP 0 rfl rfl 36 (by decide) f77 (fun _ h9 => h9) rfl dX8_scoreOf_86 ?_
                  refine lv_iload hx hb dX8_scoreOf_89 (lv_at hl 2 rfl) ?_
                  refine lv_dup2_11 hx hb dX8_scoreOf_91 rfl rfl ?_
                  refine al_i hx hb hK.1 hP 5 0 rfl rfl (j := k) (by omega) (Nat.le_of_ble_eq_true rfl) dX8_scoreOf_92 ?_
                  refine lv_iload hx hb dX8_scoreOf_93 (lv_at hl 0 rfl) ?_
                  refine lv_if_eq (tgt := 105) hx hb dX8_scoreOf_95 (by decide) (fun c_95 => ?_) (fun c_95 => ?_)
                  · refine lv_iconst (v := 0) hx hb dX8_scoreOf_105 (by decide) ?_
                    refine lv_ior hx hb dX8_scoreOf_106 ?_
                    refine as_i hx hb hK.1 hP hD hS 5 0 rfl rfl (j := k) (by omega) (Nat.le_of_ble_eq_true rfl) dX8_scoreOf_107 (fun H locs hP hD hS => ?_)
                    have hP : va_P G.1 vwCl [oB h 8 (oF8 v q), aI G (q 10) 64 se, aI G (q 11) 640 be, aI G (q 12) 640 he, aI G (q 13) 17 sa, aI G (q 36) 8 (upd g1 k ((g1 k) ||| 0)), aI G (q 37) 10 wh, aI G (q 38) 8 rA, aI G (q 39) 10 bA, aI G (q 40) 8 ha] H := hP
                    have hD : va_D A [oB h 8 (oF8 v q), aI G (q 10) 64 se, aI G (q 11) 640 be, aI G (q 12) 640 he, aI G (q 13) 17 sa, aI G (q 36) 8 (upd g1 k ((g1 k) ||| 0)), aI G (q 37) 10 wh, aI G (q 38) 8 rA, aI G (q 39) 10 bA, aI G (q 40) 8 ha] := hD
                    refine lv_iinc (v := nI (p + 1)) (lv' := [(7, .int (nI (p + 1))), (8, .int 0), (6, .int (nI k)), (5, .int any), (0, .ref h), (1, .int (nI pt)), (2, .int (nI j)), (3, .int wo), (4, .int cl)]) hx hb dX8_scoreOf_108 hl (k := 1) rfl (inc_nI _ 1) (by decide) rfl (fun ls hl => ?_)
                    refine lv_goto (tgt := 28) hx hb dX8_scoreOf_111 (by decide) ?_
                    exact ih28 (p + 1) (upd g1 k ((g1 k) ||| 0)) (by omega) (by omega) (fun i hi => by rw [pk_un hi]; exact hgo i hi) (by rw [pk_us, hgk, gbits, show gT σ N pt j cl k p = false from by simp [gT, c_47]]; exact or_0 _) (Or.inl c_40) _ _ hP hD hS _ (lv_sub hl [0, 2, 3, 4, 5, 6, 7, 8] rfl)
                  · exfalso
                    revert c_95
                    decide
                · refine lv_aload_n hx hb dX8_scoreOf_50 rfl (lv_at hl 3 rfl) ?_
                  refine va_get (D := G.1) (ci := 8) (v := .ref (q 10)) (C := RX8) (T := TX8) (N := 44) hx hb hts hin8 hown hK.1 hP 0 rfl rfl 10 (by decide) f29 (fun _ h9 => h9) rfl dX8_scoreOf_51 ?_
                  refine lv_iload_n hx hb dX8_scoreOf_54 rfl (lv_at hl 4 rfl) ?_
                  refine al_i hx hb hK.1 hP 1 0 rfl rfl (j := pt) (by omega) (Nat.le_of_ble_eq_true rfl) dX8_scoreOf_55 ?_
                  refine top_i (y := cVis σ pt) (hse) ?_
                  refine lv_iload hx hb dX8_scoreOf_56 (lv_at hl 0 rfl) ?_
                  refine lv_ishr hx hb dX8_scoreOf_58 ?_
                  refine lv_iconst (v := 1) hx hb dX8_scoreOf_59 (by decide) ?_
                  refine lv_iand hx hb dX8_scoreOf_60 ?_
                  refine top_i (y := b2i (cVi σ pt p)) (by rw [sr_bt1 (by omega), bt_vis hok hc (by omega)]) ?_
                  refine lv_iconst (v := 1) hx hb dX8_scoreOf_61 (by decide) ?_
                  refine lv_icmp_ne (tgt := 82) hx hb dX8_scoreOf_62 (by decide) (fun c_62 => ?_) (fun c_62 => ?_)
                  · have c_62 : cVi σ pt p = false := b2i_n1.mp c_62
                    refine lv_iconst (v := 0) hx hb dX8_scoreOf_82 (by decide) ?_
                    refine lv_istore (lv' := [(8, .int 0), (7, .int (nI p)), (6, .int (nI k)), (5, .int any), (0, .ref h), (1, .int (nI pt)), (2, .int (nI j)), (3, .int wo), (4, .int cl)]) hx hb dX8_scoreOf_83 hl (by decide) rfl (fun ls hl => ?_)
                    refine lv_aload_n hx hb dX8_scoreOf_85 rfl (lv_at hl 4 rfl) ?_
                    refine va_get (D := G.1) (ci := 8) (v := .ref (q 36)) (C := RX8) (T := TX8) (N := 44) hx hb hts hin8 hown hK.1 hP 0 rfl rfl 36 (by decide) f77 (fun _ h9 => h9) rfl dX8_scoreOf_86 ?_
                    refine lv_iload hx hb dX8_scoreOf_89 (lv_at hl 2 rfl) ?_
                    refine lv_dup2_11 hx hb dX8_scoreOf_91 rfl rfl ?_
                    refine al_i hx hb hK.1 hP 5 0 rfl rfl (j := k) (by omega) (Nat.le_of_ble_eq_true rfl) dX8_scoreOf_92 ?_
                    refine lv_iload hx hb dX8_scoreOf_93 (lv_at hl 0 rfl) ?_
                    refine lv_if_eq (tgt := 105) hx hb dX8_scoreOf_95 (by decide) (fun c_95 => ?_) (fun c_95 => ?_)
                    · refine lv_iconst (v := 0) hx hb dX8_scoreOf_105 (by decide) ?_
                      refine lv_ior hx hb dX8_scoreOf_106 ?_
                      refine as_i hx hb hK.1 hP hD hS 5 0 rfl rfl (j := k) (by omega) (Nat.le_of_ble_eq_true rfl) dX8_scoreOf_107 (fun H locs hP hD hS => ?_)
                      have hP : va_P G.1 vwCl [oB h 8 (oF8 v q), aI G (q 10) 64 se, aI G (q 11) 640 be, aI G (q 12) 640 he, aI G (q 13) 17 sa, aI G (q 36) 8 (upd g1 k ((g1 k) ||| 0)), aI G (q 37) 10 wh, aI G (q 38) 8 rA, aI G (q 39) 10 bA, aI G (q 40) 8 ha] H := hP
                      have hD : va_D A [oB h 8 (oF8 v q), aI G (q 10) 64 se, aI G (q 11) 640 be, aI G (q 12) 640 he, aI G (q 13) 17 sa, aI G (q 36) 8 (upd g1 k ((g1 k) ||| 0)), aI G (q 37) 10 wh, aI G (q 38) 8 rA, aI G (q 39) 10 bA, aI G (q 40) 8 ha] := hD
                      refine lv_iinc (v := nI (p + 1)) (lv' := [(7, .int (nI (p + 1))), (8, .int 0), (6, .int (nI k)), (5, .int any), (0, .ref h), (1, .int (nI pt)), (2, .int (nI j)), (3, .int wo), (4, .int cl)]) hx hb dX8_scoreOf_108 hl (k := 1) rfl (inc_nI _ 1) (by decide) rfl (fun ls hl => ?_)
                      refine lv_goto (tgt := 28) hx hb dX8_scoreOf_111 (by decide) ?_
                      exact ih28 (p + 1) (upd g1 k ((g1 k) ||| 0)) (by omega) (by omega) (fun i hi => by rw [pk_un hi]; exact hgo i hi) (by rw [pk_us, hgk, gbits, show gT σ N pt j cl k p = false from by simp [gT, c_62]]; exact or_0 _) (Or.inl c_40) _ _ hP hD hS _ (lv_sub hl [0, 2, 3, 4, 5, 6, 7, 8] rfl)
                    · exfalso
                      revert c_95
                      decide
                  · have c_62 : cVi σ pt p = true := b2i_1.mp c_62
                    refine lv_aload_n hx hb dX8_scoreOf_65 rfl (lv_at hl 3 rfl) ?_
                    refine lv_iload_n hx hb dX8_scoreOf_66 rfl (lv_at hl 4 rfl) ?_
                    refine lv_iload_n hx hb dX8_scoreOf_67 rfl (lv_at hl 5 rfl) ?_
                    refine lv_iload hx hb dX8_scoreOf_68 (lv_at hl 1 rfl) ?_
                    refine lv_iload hx hb dX8_scoreOf_70 (lv_at hl 0 rfl) ?_
                    refine rd_i (va_runV (As := [.int (nI pt), .int (nI j), .int (nI k), .int (nI p)]) (rest := []) ⟨hx, hb, hml, hown, hts⟩ (c_X8_isFit l G h v q px py hi la lb ip se be he σ sa N pt j k p (hLM0) (hSM) (hpt) (hj) (hc) (by omega) (by omega)) (cwV 4 hts gX8_scoreOf_X8_isFit rfl rfl rfl (by decide +kernel) ⟨Nat.le_of_ble_eq_true rfl, Nat.le_of_ble_eq_true rfl⟩) (rPre_V hK hP [0, 2, 3, 4] rfl 0 8 rfl rfl) rfl rfl hl.1 rfl (lv_room (Nat.le_of_ble_eq_true rfl)) dX8_scoreOf_72 ⟨Nat.zero_le _, Nat.zero_le _⟩) (fun r_72 q_72 => ?_)
                    refine top_i (y := b2i (fitB σ N pt j k p)) q_72 ?_
                    refine lv_if_eq (tgt := 82) hx hb dX8_scoreOf_75 (by decide) (fun c_75 => ?_) (fun c_75 => ?_)
                    · have c_75 : (fitB σ N pt j k p) = false := b2i_0.mp c_75
                      refine lv_iconst (v := 0) hx hb dX8_scoreOf_82 (by decide) ?_
                      refine lv_istore (lv' := [(8, .int 0), (7, .int (nI p)), (6, .int (nI k)), (5, .int any), (0, .ref h), (1, .int (nI pt)), (2, .int (nI j)), (3, .int wo), (4, .int cl)]) hx hb dX8_scoreOf_83 hl (by decide) rfl (fun ls hl => ?_)
                      refine lv_aload_n hx hb dX8_scoreOf_85 rfl (lv_at hl 4 rfl) ?_
                      refine va_get (D := G.1) (ci := 8) (v := .ref (q 36)) (C := RX8) (T := TX8) (N := 44) hx hb hts hin8 hown hK.1 hP 0 rfl rfl 36 (by decide) f77 (fun _ h9 => h9) rfl dX8_scoreOf_86 ?_
                      refine lv_iload hx hb dX8_scoreOf_89 (lv_at hl 2 rfl) ?_
                      refine lv_dup2_11 hx hb dX8_scoreOf_91 rfl rfl ?_
                      refine al_i hx hb hK.1 hP 5 0 rfl rfl (j := k) (by omega) (Nat.le_of_ble_eq_true rfl) dX8_scoreOf_92 ?_
                      refine lv_iload hx hb dX8_scoreOf_93 (lv_at hl 0 rfl) ?_
                      refine lv_if_eq (tgt := 105) hx hb dX8_scoreOf_95 (by decide) (fun c_95 => ?_) (fun c_95 => ?_)
                      · refine lv_iconst (v := 0) hx hb dX8_scoreOf_105 (by decide) ?_
                        refine lv_ior hx hb dX8_scoreOf_106 ?_
                        refine as_i hx hb hK.1 hP hD hS 5 0 rfl rfl (j := k) (by omega) (Nat.le_of_ble_eq_true rfl) dX8_scoreOf_107 (fun H locs hP hD hS => ?_)
                        have hP : va_P G.1 vwCl [oB h 8 (oF8 v q), aI G (q 10) 64 se, aI G (q 11) 640 be, aI G (q 12) 640 he, aI G (q 13) 17 sa, aI G (q 36) 8 (upd g1 k ((g1 k) ||| 0)), aI G (q 37) 10 wh, aI G (q 38) 8 rA, aI G (q 39) 10 bA, aI G (q 40) 8 ha] H := hP
                        have hD : va_D A [oB h 8 (oF8 v q), aI G (q 10) 64 se, aI G (q 11) 640 be, aI G (q 12) 640 he, aI G (q 13) 17 sa, aI G (q 36) 8 (upd g1 k ((g1 k) ||| 0)), aI G (q 37) 10 wh, aI G (q 38) 8 rA, aI G (q 39) 10 bA, aI G (q 40) 8 ha] := hD
                        refine lv_iinc (v := nI (p + 1)) (lv' := [(7, .int (nI (p + 1))), (8, .int 0), (6, .int (nI k)), (5, .int any), (0, .ref h), (1, .int (nI pt)), (2, .int (nI j)), (3, .int wo), (4, .int cl)]) hx hb dX8_scoreOf_108 hl (k := 1) rfl (inc_nI _ 1) (by decide) rfl (fun ls hl => ?_)
                        refine lv_goto (tgt := 28) hx hb dX8_scoreOf_111 (by decide) ?_
                        exact ih28 (p + 1) (upd g1 k ((g1 k) ||| 0)) (by omega) (by omega) (fun i hi => by rw [pk_un hi]; exact hgo i hi) (by rw [pk_us, hgk, gbits, show gT σ N pt j cl k p = false from by simp [gT, c_75]]; exact or_0 _) (Or.inl c_40) _ _ hP hD hS _ (lv_sub hl [0, 2, 3, 4, 5, 6, 7, 8] rfl)
                      · exfalso
                        revert c_95
                        decide
                    · have c_75 : (fitB σ N pt j k p) = true := b2i_n0.mp c_75
                      refine lv_iconst (v := 1) hx hb dX8_scoreOf_78 (by decide) ?_
                      refine lv_goto (tgt := 83) hx hb dX8_scoreOf_79 (by decide) ?_
                      refine lv_istore (lv' := [(8, .int 1), (7, .int (nI p)), (6, .int (nI k)), (5, .int any), (0, .ref h), (1, .int (nI pt)), (2, .int (nI j)), (3, .int wo), (4, .int cl)]) hx hb dX8_scoreOf_83 hl (by decide) rfl (fun ls hl => ?_)
                      refine lv_aload_n hx hb dX8_scoreOf_85 rfl (lv_at hl 4 rfl) ?_
                      refine va_get (D := G.1) (ci := 8) (v := .ref (q 36)) (C := RX8) (T := TX8) (N := 44) hx hb hts hin8 hown hK.1 hP 0 rfl rfl 36 (by decide) f77 (fun _ h9 => h9) rfl dX8_scoreOf_86 ?_
                      refine lv_iload hx hb dX8_scoreOf_89 (lv_at hl 2 rfl) ?_
                      refine lv_dup2_11 hx hb dX8_scoreOf_91 rfl rfl ?_
                      refine al_i hx hb hK.1 hP 5 0 rfl rfl (j := k) (by omega) (Nat.le_of_ble_eq_true rfl) dX8_scoreOf_92 ?_
                      refine lv_iload hx hb dX8_scoreOf_93 (lv_at hl 0 rfl) ?_
                      refine lv_if_eq (tgt := 105) hx hb dX8_scoreOf_95 (by decide) (fun c_95 => ?_) (fun c_95 => ?_)
                      · exfalso
                        revert c_95
                        decide
                      · refine lv_iconst (v := 1) hx hb dX8_scoreOf_98 (by decide) ?_
                        refine lv_iload hx hb dX8_scoreOf_99 (lv_at hl 1 rfl) ?_
                        refine lv_ishl hx hb dX8_scoreOf_101 ?_
                        refine lv_goto (tgt := 106) hx hb dX8_scoreOf_102 (by decide) ?_
                        refine lv_ior hx hb dX8_scoreOf_106 ?_
                        refine as_i hx hb hK.1 hP hD hS 5 0 rfl rfl (j := k) (by omega) (Nat.le_of_ble_eq_true rfl) dX8_scoreOf_107 (fun H locs hP hD hS => ?_)
                        have hP : va_P G.1 vwCl [oB h 8 (oF8 v q), aI G (q 10) 64 se, aI G (q 11) 640 be, aI G (q 12) 640 he, aI G (q 13) 17 sa, aI G (q 36) 8 (upd g1 k ((g1 k) ||| (1 <<< ((nI p) &&& 31)))), aI G (q 37) 10 wh, aI G (q 38) 8 rA, aI G (q 39) 10 bA, aI G (q 40) 8 ha] H := hP
                        have hD : va_D A [oB h 8 (oF8 v q), aI G (q 10) 64 se, aI G (q 11) 640 be, aI G (q 12) 640 he, aI G (q 13) 17 sa, aI G (q 36) 8 (upd g1 k ((g1 k) ||| (1 <<< ((nI p) &&& 31)))), aI G (q 37) 10 wh, aI G (q 38) 8 rA, aI G (q 39) 10 bA, aI G (q 40) 8 ha] := hD
                        refine lv_iinc (v := nI (p + 1)) (lv' := [(7, .int (nI (p + 1))), (8, .int 1), (6, .int (nI k)), (5, .int any), (0, .ref h), (1, .int (nI pt)), (2, .int (nI j)), (3, .int wo), (4, .int cl)]) hx hb dX8_scoreOf_108 hl (k := 1) rfl (inc_nI _ 1) (by decide) rfl (fun ls hl => ?_)
                        refine lv_goto (tgt := 28) hx hb dX8_scoreOf_111 (by decide) ?_
                        exact ih28 (p + 1) (upd g1 k ((g1 k) ||| (1 <<< ((nI p) &&& 31)))) (by omega) (by omega) (fun i hi => by rw [pk_un hi]; exact hgo i hi) (by rw [pk_us, hgk, gbits, show gT σ N pt j cl k p = true from by simp [gT, c_47, c_62, c_75]]; rfl) (Or.inl c_40) _ _ hP hD hS _ (lv_sub hl [0, 2, 3, 4, 5, 6, 7, 8] rfl)
        exact loop_28 _ 0 (upd f k 0) (Nat.lt_succ_self _) (Nat.zero_le _) (fun i hi => pk_un hi) (pk_us) (Or.inr rfl) _ _ hP hD hS _ (lv_sub hl [0, 1, 2, 3, 4, 5, 6, 7] rfl)
  exact loop_6 _ 0 0 ft (Nat.lt_succ_self _) (Nat.zero_le _) (fun i _ hi => absurd hi (Nat.not_lt_zero i)) (fun _ i hi => absurd hi (Nat.not_lt_zero i)) _ _ hP hD hS _ (lv_sub hl [0, 1, 2, 3, 4, 5, 6] rfl)
