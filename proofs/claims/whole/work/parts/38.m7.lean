theorem b2i_1 {b : Bool} : b2i b = 1 ↔ b = true := by cases b <;> decide
theorem b2i_n1 {b : Bool} : ¬ b2i b = 1 ↔ b = false := by cases b <;> decide
theorem pIn2 {y : Int32} (h : pIn y 0 2 = false) : ¬ y = 0 ∧ ¬ y = 1 ∧ ¬ y = 2 := ⟨fun e => by subst e; revert h; decide, fun e => by subst e; revert h; decide, fun e => by subst e; revert h; decide⟩
theorem pIn2t {y : Int32} (h : pIn y 0 2 = true) (h0 : ¬ y = 0) (h1 : ¬ y = 1) : y = 2 := by
  simp only [pIn, Bool.and_eq_true, Bool.not_eq_true', decide_eq_false_iff_not] at h
  obtain ⟨j, hj, rfl⟩ := nI_of h.1
  have a1 : ¬ 2 < j := fun q => h.2 ((c_lt (a := 2) rfl rfl (by omega) hj).mpr q)
  have a2 : ¬ j = 0 := fun q => h0 (by rw [q]; rfl)
  have a3 : ¬ j = 1 := fun q => h1 (by rw [q]; rfl)
  rw [show j = 2 by omega]; rfl
theorem pIn1 {y : Int32} (h : pIn y 0 1 = false) : ¬ y = 0 ∧ ¬ y = 1 := ⟨fun e => by subst e; revert h; decide, fun e => by subst e; revert h; decide⟩
theorem pIn1t {y : Int32} (h : pIn y 0 1 = true) (h0 : ¬ y = 0) : y = 1 := by
  simp only [pIn, Bool.and_eq_true, Bool.not_eq_true', decide_eq_false_iff_not] at h
  obtain ⟨j, hj, rfl⟩ := nI_of h.1
  have a1 : ¬ 1 < j := fun q => h.2 ((c_lt (a := 1) rfl rfl (by omega) hj).mpr q)
  have a2 : ¬ j = 0 := fun q => h0 (by rw [q]; rfl)
  rw [show j = 1 by omega]; rfl
def cbeR (σ : PS) (x y z : Int32) : Int32 := if (pPlace (cPk σ) x y && pHas (nI (zn σ)) z) = true then nI (cBe σ (ptN x y) z.toNatClampNeg) else -1
def cstR (σ : PS) (x y z : Int32) : Int32 := if (pPlace (cPk σ) x y && pHas (nI (zn σ)) z) = true then nI (cHg σ (ptN x y) z.toNatClampNeg) else -1
theorem bt_vis {σ : PS} {pt p : Nat} (h : okPS σ) (hc : cPk σ pt = 0) (hp : p < zn σ) : bt (cVis σ pt) p = cVi σ pt p := by
  have := h.1
  rw [cVis_bt h (by omega)]; simp [hc, hp]
/-- which is the k-th of the panorama: by how many come ahead of it -/
def pnQ (f : Nat → Bool) (g : Nat → Nat → Bool) (n : Nat) (m : Nat) (z r : Int32) : Prop := (r = -9 ∧ ∀ j, j < m → f j = true → ¬ nI (rkP f g n j) = z) ∨ ∃ j, j < m ∧ f j = true ∧ nI (rkP f g n j) = z ∧ r = nI j
theorem pnQ_skip {f : Nat → Bool} {g : Nat → Nat → Bool} {n m : Nat} {z r : Int32} (h : pnQ f g n m z r) (hn : f m = true → ¬ nI (rkP f g n m) = z) : pnQ f g n (m + 1) z r := by
  rcases h with ⟨h1, h2⟩ | ⟨j, h1, h2⟩
  · exact Or.inl ⟨h1, fun j hj hf => (Nat.lt_succ_iff_lt_or_eq.mp hj).elim (fun q => h2 j q hf) (fun q => by rw [q] at hf ⊢; exact hn hf)⟩
  · exact Or.inr ⟨j, by omega, h2⟩
theorem sub_sh (x s d : Int32) : x - s + d = x + d - s := by rw [Int32.sub_eq_add_neg, Int32.sub_eq_add_neg, Int32.add_assoc, Int32.add_comm (-s) d, ← Int32.add_assoc]
theorem ft_arg {b s j : Nat} (hs : s < 64) (hj : j < 64) : nI b - nI s - nI j + 128 = nI (b + 128 - s - j) := by
  rw [sub_sh, sub_sh, show (128 : Int32) = nI 128 from rfl, nI_add, pk_sub (by omega), pk_sub (by omega)]
theorem ge0 {z : Int32} (h : 0 ≤ z) : ¬ z < 0 := by
  rw [Int32.le_iff_toInt_le] at h
  rw [Int32.lt_iff_toInt_lt]
  omega
theorem rem64 {a : Nat} (ha : a < 2 ^ 31) : nI a - nI a / 64 * 64 = nI (a % 64) := pk_rem (d := 64) ha (by omega) (by omega)
theorem two1 (k : Nat) : 1 + 2 * nI k = nI (2 * k + 1) := by rw [show (2 : Int32) = nI 2 from rfl, pk_mul, show (1 : Int32) = nI 1 from rfl, nI_add, Nat.add_comm]
theorem two2 (k : Nat) : 2 + 2 * nI k = nI (2 * k + 2) := by rw [show (2 : Int32) = nI 2 from rfl, pk_mul, nI_add, Nat.add_comm]
def SMr (N : NL) (s : Nat → Int32) : Prop := s 0 = nI N.1 ∧ N.1 ≤ 8 ∧ ∀ k, k < N.1 → s (2 * k + 1) = nI (N.2.1 k) ∧ N.2.1 k < 64 ∧ s (2 * k + 2) = nI (N.2.2 k) ∧ N.2.2 k ≤ 480
def fitB (σ : PS) (N : NL) (pt j k p : Nat) : Bool := !decide (nI (zl σ) < iabs (nI (cHg σ pt p) - nI (N.2.2 k))) && lkB (cBe σ pt p) (N.2.1 k) (zl σ) j
theorem idx10 (a p : Nat) : 10 * nI a + nI p = nI (10 * a + p) := mul10' a p
abbrev rX8_peak : Room := { frames := 2, cells := 0, slots := 0, locals := 43 }
set_option maxHeartbeats 4000000 in
set_option maxRecDepth 100000 in
theorem c_X8_peak (l : Launch) (G : kG) (h : Nat) (v : Nat → Int32) (q : Nat → Nat) (px : Nat → Int32) (py : Nat → Int32) (hi : Nat → Int32) (la : Nat → Int32) (lb : Nat → Int32) (ip : Nat → Int32) (se : Nat → Int32) (be : Nat → Int32) (he : Nat → Int32) (σ : PS) (x : Int32) (y : Int32) (hLM : LM σ v px py hi la lb ip se be he) : Ci l G yX8_peak wsX8_peak rX8_peak [.ref h, .int x, .int y] [oB h 8 (oF8 v q), aI G (q 2) 10 px, aI G (q 3) 10 py, aI G (q 4) 10 hi] (fun r (u : Unit) => r = pkR σ x y) (fun u => [oB h 8 (oF8 (upd v 0 0) q), aI G (q 2) 10 px, aI G (q 3) 10 py, aI G (q 4) 10 hi]) := by
  refine Ci.of (cc := cX8_peak) (maxL := 3) (by decide) rfl (Nat.le_of_ble_eq_true rfl) ?_
  intro pM eM sM mM bM tM cM Q A hx hb hts hown hml hA hK hP hD hS hret ls hl
  have hown : sM.vm.findClass RX8 = some mM.cls := hown
  have hl : lv_has ls 3 [(0, .ref h), (1, .int x), (2, .int y)] := hl
  have hin8 : ∀ w ∈ u_ws RX8 TX8 44, w ∈ wsX8_peak := by decide +kernel
  have f98 := hts (.fieldLink RX8 98 "HorizonPeaksModel" "thrown" "I") (by decide +kernel)
  have f7 := hts (.fieldLink RX8 7 "HorizonPeaksModel" "px" "[I") (by decide +kernel)
  have f13 := hts (.fieldLink RX8 13 "HorizonPeaksModel" "py" "[I") (by decide +kernel)
  have f16 := hts (.fieldLink RX8 16 "HorizonPeaksModel" "high" "[I") (by decide +kernel)
  obtain ⟨hok, ⟨hv1, hv5, hv8⟩, har, hLP⟩ := hLM
  have hn10 := hok.1
  have hm8 := hok.2.1
  have hl3 := hok.2.2.1
  have hip : ∀ i, i < 64 → ip i = b2i (decide (cPk σ i = 0)) := fun i hh => (hLP i hh).1
  refine lv_aload_n hx hb dX8_peak_0 rfl (lv_at hl 0 rfl) ?_
  refine lv_iconst (v := 0) hx hb dX8_peak_1 (by decide) ?_
  refine va_put (D := G.1) (ci := 8) (v := .int 0) (ty := .int) (C := RX8) (T := TX8) (N := 44) hx hb hts hin8 tyX8 tyX8_ok nmX8 hown hK.1 hP hD hS 0 rfl rfl 0 (by decide) f98 (fun _ h9 => h9) rfl (by decide +kernel) rfl rfl (Nat.le_of_ble_eq_true rfl) dX8_peak_2 (fun H locs hP hD hS => ?_)
  have hP : va_P G.1 vwCl [oB h 8 (oF8 (upd v 0 0) q), aI G (q 2) 10 px, aI G (q 3) 10 py, aI G (q 4) 10 hi] H := hP
  have hD : va_D A [oB h 8 (oF8 (upd v 0 0) q), aI G (q 2) 10 px, aI G (q 3) 10 py, aI G (q 4) 10 hi] := hD
  refine lv_aload_n hx hb dX8_peak_5 rfl (lv_at hl 0 rfl) ?_
  refine lv_iload_n hx hb dX8_peak_6 rfl (lv_at hl 1 rfl) ?_
  refine rd_i (va_runV (As := [.int x]) (rest := []) ⟨hx, hb, hml, hown, hts⟩ (c_X8_isPeak l G h (upd v 0 0) q x (zn σ) (hv1) (hn10)) (cwV 1 hts gX8_peak_X8_isPeak rfl rfl rfl (by decide +kernel) ⟨Nat.le_of_ble_eq_true rfl, Nat.le_of_ble_eq_true rfl⟩) (rPre_V hK hP [0] rfl 0 8 rfl rfl) rfl rfl hl.1 rfl (lv_room (Nat.le_of_ble_eq_true rfl)) dX8_peak_7 ⟨Nat.zero_le _, Nat.zero_le _⟩) (fun r_7 q_7 => ?_)
  obtain rfl : r_7 = b2i (pHas (nI (zn σ)) x) := q_7
  refine lv_if_eq (tgt := 22) hx hb dX8_peak_10 (by decide) (fun c_10 => ?_) (fun c_10 => ?_)
  · have c_10 : (pHas (nI (zn σ)) x) = false := b2i_0.mp c_10
    refine lv_iconst (v := -1) hx hb dX8_peak_22 (by decide) ?_
    have hpost : (-1 : Int32) = pkR σ x y := by
      simp [pkR, c_10]
    exact hret _ () _ _ _ _ (hpost) (rfl) hP hD hS dX8_peak_23
  · have c_10 : (pHas (nI (zn σ)) x) = true := b2i_n0.mp c_10
    obtain ⟨p, hp, rfl⟩ := pHas_of (by omega) c_10
    refine lv_iload_n hx hb dX8_peak_13 rfl (lv_at hl 2 rfl) ?_
    refine lv_iconst (v := 0) hx hb dX8_peak_14 (by decide) ?_
    refine lv_iconst (v := 2) hx hb dX8_peak_15 (by decide) ?_
    refine rd_i (va_runS (As := [.int y, .int 0, .int 2]) (rest := []) ⟨hx, hb, hml, hown, hts⟩ (c_X8_in l G y 0 2) (va_cwS 3 hts gX8_peak_X8_in rfl rfl rfl (by decide +kernel) ⟨Nat.le_of_ble_eq_true rfl, Nat.le_of_ble_eq_true rfl⟩) (rPre_S hK hP [] rfl) rfl rfl hl.1 rfl (lv_room (Nat.le_of_ble_eq_true rfl)) dX8_peak_16 ⟨Nat.zero_le _, Nat.zero_le _⟩) (fun r_16 q_16 => ?_)
    obtain rfl : r_16 = b2i (pIn y 0 2) := q_16
    refine lv_if_ne (tgt := 24) hx hb dX8_peak_19 (by decide) (fun c_19 => ?_) (fun c_19 => ?_)
    · have c_19 : (pIn y 0 2) = true := b2i_n0.mp c_19
      refine lv_iload_n hx hb dX8_peak_24 rfl (lv_at hl 2 rfl) ?_
      refine lv_if_ne (tgt := 37) hx hb dX8_peak_25 (by decide) (fun c_25 => ?_) (fun c_25 => ?_)
      · refine lv_iload_n hx hb dX8_peak_37 rfl (lv_at hl 2 rfl) ?_
        refine lv_iconst (v := 1) hx hb dX8_peak_38 (by decide) ?_
        refine lv_icmp_ne (tgt := 51) hx hb dX8_peak_39 (by decide) (fun c_39 => ?_) (fun c_39 => ?_)
        · refine lv_aload_n hx hb dX8_peak_51 rfl (lv_at hl 0 rfl) ?_
          refine va_get (D := G.1) (ci := 8) (v := .ref (q 4)) (C := RX8) (T := TX8) (N := 44) hx hb hts hin8 hown hK.1 hP 0 rfl rfl 4 (by decide) f16 (fun _ h9 => h9) rfl dX8_peak_52 ?_
          refine lv_iload_n hx hb dX8_peak_55 rfl (lv_at hl 1 rfl) ?_
          refine al_i hx hb hK.1 hP 3 0 rfl rfl (j := p) (by omega) (Nat.le_of_ble_eq_true rfl) dX8_peak_56 ?_
          refine top_i (y := nI (zz σ p)) ((har.1 p hp).2.2) ?_
          have hpost : (nI (zz σ p) : Int32) = pkR σ (nI p) y := by
            rw [pkR, if_pos c_10, nI_clamp (by omega)]
            rw [if_neg c_25, if_neg c_39, if_pos (pIn2t c_19 c_25 c_39)]
          exact hret _ () _ _ _ _ (hpost) (rfl) hP hD hS dX8_peak_57
        · refine lv_aload_n hx hb dX8_peak_42 rfl (lv_at hl 0 rfl) ?_
          refine va_get (D := G.1) (ci := 8) (v := .ref (q 3)) (C := RX8) (T := TX8) (N := 44) hx hb hts hin8 hown hK.1 hP 0 rfl rfl 3 (by decide) f13 (fun _ h9 => h9) rfl dX8_peak_43 ?_
          refine lv_iload_n hx hb dX8_peak_46 rfl (lv_at hl 1 rfl) ?_
          refine al_i hx hb hK.1 hP 2 0 rfl rfl (j := p) (by omega) (Nat.le_of_ble_eq_true rfl) dX8_peak_47 ?_
          refine top_i (y := nI (zy σ p)) ((har.1 p hp).2.1) ?_
          refine lv_goto (tgt := 57) hx hb dX8_peak_48 (by decide) ?_
          have hpost : (nI (zy σ p) : Int32) = pkR σ (nI p) y := by
            rw [pkR, if_pos c_10, nI_clamp (by omega)]
            rw [if_neg c_25, if_pos c_39]
          exact hret _ () _ _ _ _ (hpost) (rfl) hP hD hS dX8_peak_57
      · refine lv_aload_n hx hb dX8_peak_28 rfl (lv_at hl 0 rfl) ?_
        refine va_get (D := G.1) (ci := 8) (v := .ref (q 2)) (C := RX8) (T := TX8) (N := 44) hx hb hts hin8 hown hK.1 hP 0 rfl rfl 2 (by decide) f7 (fun _ h9 => h9) rfl dX8_peak_29 ?_
        refine lv_iload_n hx hb dX8_peak_32 rfl (lv_at hl 1 rfl) ?_
        refine al_i hx hb hK.1 hP 1 0 rfl rfl (j := p) (by omega) (Nat.le_of_ble_eq_true rfl) dX8_peak_33 ?_
        refine top_i (y := nI (zx σ p)) ((har.1 p hp).1) ?_
        refine lv_goto (tgt := 57) hx hb dX8_peak_34 (by decide) ?_
        have hpost : (nI (zx σ p) : Int32) = pkR σ (nI p) y := by
          rw [pkR, if_pos c_10, nI_clamp (by omega)]
          rw [if_pos c_25]
        exact hret _ () _ _ _ _ (hpost) (rfl) hP hD hS dX8_peak_57
    · have c_19 : (pIn y 0 2) = false := b2i_0.mp c_19
      refine lv_iconst (v := -1) hx hb dX8_peak_22 (by decide) ?_
      have hpost : (-1 : Int32) = pkR σ (nI p) y := by
        obtain ⟨a0, a1, a2⟩ := pIn2 c_19
        simp [pkR, a0, a1, a2]
      exact hret _ () _ _ _ _ (hpost) (rfl) hP hD hS dX8_peak_23

abbrev rX8_ridge : Room := { frames := 1, cells := 0, slots := 0, locals := 22 }
set_option maxHeartbeats 4000000 in
set_option maxRecDepth 100000 in
theorem c_X8_ridge (l : Launch) (G : kG) (h : Nat) (v : Nat → Int32) (q : Nat → Nat) (px : Nat → Int32) (py : Nat → Int32) (hi : Nat → Int32) (la : Nat → Int32) (lb : Nat → Int32) (ip : Nat → Int32) (se : Nat → Int32) (be : Nat → Int32) (he : Nat → Int32) (σ : PS) (x : Int32) (y : Int32) (hLM : LM σ v px py hi la lb ip se be he) : Ci l G yX8_ridge wsX8_ridge rX8_ridge [.ref h, .int x, .int y] [oB h 8 (oF8 v q), aI G (q 6) 8 la, aI G (q 7) 8 lb] (fun r (u : Unit) => r = rdR σ x y) (fun u => [oB h 8 (oF8 (upd v 0 0) q), aI G (q 6) 8 la, aI G (q 7) 8 lb]) := by
  refine Ci.of (cc := cX8_ridge) (maxL := 3) (by decide) rfl (Nat.le_of_ble_eq_true rfl) ?_
  intro pM eM sM mM bM tM cM Q A hx hb hts hown hml hA hK hP hD hS hret ls hl
  have hown : sM.vm.findClass RX8 = some mM.cls := hown
  have hl : lv_has ls 3 [(0, .ref h), (1, .int x), (2, .int y)] := hl
  have hin8 : ∀ w ∈ u_ws RX8 TX8 44, w ∈ wsX8_ridge := by decide +kernel
  have f98 := hts (.fieldLink RX8 98 "HorizonPeaksModel" "thrown" "I") (by decide +kernel)
  have f151 := hts (.fieldLink RX8 151 "HorizonPeaksModel" "ridges" "I") (by decide +kernel)
  have f19 := hts (.fieldLink RX8 19 "HorizonPeaksModel" "ridgeA" "[I") (by decide +kernel)
  have f22 := hts (.fieldLink RX8 22 "HorizonPeaksModel" "ridgeB" "[I") (by decide +kernel)
  obtain ⟨hok, ⟨hv1, hv5, hv8⟩, har, hLP⟩ := hLM
  have hn10 := hok.1
  have hm8 := hok.2.1
  have hl3 := hok.2.2.1
  have hip : ∀ i, i < 64 → ip i = b2i (decide (cPk σ i = 0)) := fun i hh => (hLP i hh).1
  refine lv_aload_n hx hb dX8_ridge_0 rfl (lv_at hl 0 rfl) ?_
  refine lv_iconst (v := 0) hx hb dX8_ridge_1 (by decide) ?_
  refine va_put (D := G.1) (ci := 8) (v := .int 0) (ty := .int) (C := RX8) (T := TX8) (N := 44) hx hb hts hin8 tyX8 tyX8_ok nmX8 hown hK.1 hP hD hS 0 rfl rfl 0 (by decide) f98 (fun _ h9 => h9) rfl (by decide +kernel) rfl rfl (Nat.le_of_ble_eq_true rfl) dX8_ridge_2 (fun H locs hP hD hS => ?_)
  have hP : va_P G.1 vwCl [oB h 8 (oF8 (upd v 0 0) q), aI G (q 6) 8 la, aI G (q 7) 8 lb] H := hP
  have hD : va_D A [oB h 8 (oF8 (upd v 0 0) q), aI G (q 6) 8 la, aI G (q 7) 8 lb] := hD
  refine lv_iload_n hx hb dX8_ridge_5 rfl (lv_at hl 1 rfl) ?_
  refine lv_iconst (v := 0) hx hb dX8_ridge_6 (by decide) ?_
  refine lv_aload_n hx hb dX8_ridge_7 rfl (lv_at hl 0 rfl) ?_
  refine va_get (D := G.1) (ci := 8) (v := .int (v 5)) (C := RX8) (T := TX8) (N := 44) hx hb hts hin8 hown hK.1 hP 0 rfl rfl 5 (by decide) f151 (fun _ h9 => h9) rfl dX8_ridge_8 ?_
  refine top_i (y := nI (zm σ)) (hv5) ?_
  refine lv_iconst (v := 1) hx hb dX8_ridge_11 (by decide) ?_
  refine lv_isub hx hb dX8_ridge_12 ?_
  refine rd_i (va_runS (As := [.int x, .int 0, .int ((nI (zm σ)) - 1)]) (rest := []) ⟨hx, hb, hml, hown, hts⟩ (c_X8_in l G x 0 ((nI (zm σ)) - 1)) (va_cwS 3 hts gX8_ridge_X8_in rfl rfl rfl (by decide +kernel) ⟨Nat.le_of_ble_eq_true rfl, Nat.le_of_ble_eq_true rfl⟩) (rPre_S hK hP [] rfl) rfl rfl hl.1 rfl (lv_room (Nat.le_of_ble_eq_true rfl)) dX8_ridge_13 ⟨Nat.zero_le _, Nat.zero_le _⟩) (fun r_13 q_13 => ?_)
  obtain rfl : r_13 = b2i (pIn x 0 ((nI (zm σ)) - 1)) := q_13
  refine lv_if_eq (tgt := 28) hx hb dX8_ridge_16 (by decide) (fun c_16 => ?_) (fun c_16 => ?_)
  · have c_16 : (pIn x 0 ((nI (zm σ)) - 1)) = false := b2i_0.mp c_16
    rw [pIn_has (by omega)] at c_16
    refine lv_iconst (v := -1) hx hb dX8_ridge_28 (by decide) ?_
    have hpost : (-1 : Int32) = rdR σ x y := by
      simp [rdR, c_16]
    exact hret _ () _ _ _ _ (hpost) (rfl) hP hD hS dX8_ridge_29
  · have c_16 : (pIn x 0 ((nI (zm σ)) - 1)) = true := b2i_n0.mp c_16
    rw [pIn_has (by omega)] at c_16
    obtain ⟨p, hp, rfl⟩ := pHas_of (by omega) c_16
    refine lv_iload_n hx hb dX8_ridge_19 rfl (lv_at hl 2 rfl) ?_
    refine lv_iconst (v := 0) hx hb dX8_ridge_20 (by decide) ?_
    refine lv_iconst (v := 1) hx hb dX8_ridge_21 (by decide) ?_
    refine rd_i (va_runS (As := [.int y, .int 0, .int 1]) (rest := []) ⟨hx, hb, hml, hown, hts⟩ (c_X8_in l G y 0 1) (va_cwS 3 hts gX8_ridge_X8_in rfl rfl rfl (by decide +kernel) ⟨Nat.le_of_ble_eq_true rfl, Nat.le_of_ble_eq_true rfl⟩) (rPre_S hK hP [] rfl) rfl rfl hl.1 rfl (lv_room (Nat.le_of_ble_eq_true rfl)) dX8_ridge_22 ⟨Nat.zero_le _, Nat.zero_le _⟩) (fun r_22 q_22 => ?_)
    obtain rfl : r_22 = b2i (pIn y 0 1) := q_22
    refine lv_if_ne (tgt := 30) hx hb dX8_ridge_25 (by decide) (fun c_25 => ?_) (fun c_25 => ?_)
    · have c_25 : (pIn y 0 1) = true := b2i_n0.mp c_25
      refine lv_iload_n hx hb dX8_ridge_30 rfl (lv_at hl 2 rfl) ?_
      refine lv_if_ne (tgt := 43) hx hb dX8_ridge_31 (by decide) (fun c_31 => ?_) (fun c_31 => ?_)
      · refine lv_aload_n hx hb dX8_ridge_43 rfl (lv_at hl 0 rfl) ?_
        refine va_get (D := G.1) (ci := 8) (v := .ref (q 7)) (C := RX8) (T := TX8) (N := 44) hx hb hts hin8 hown hK.1 hP 0 rfl rfl 7 (by decide) f22 (fun _ h9 => h9) rfl dX8_ridge_44 ?_
        refine lv_iload_n hx hb dX8_ridge_47 rfl (lv_at hl 1 rfl) ?_
        refine al_i hx hb hK.1 hP 2 0 rfl rfl (j := p) (by omega) (Nat.le_of_ble_eq_true rfl) dX8_ridge_48 ?_
        refine top_i (y := nI (zb σ p)) ((har.2 p hp).2) ?_
        have hpost : (nI (zb σ p) : Int32) = rdR σ (nI p) y := by
          rw [rdR, if_pos c_16, nI_clamp (by omega)]
          rw [if_neg c_31, if_pos (pIn1t c_25 c_31)]
        exact hret _ () _ _ _ _ (hpost) (rfl) hP hD hS dX8_ridge_49
      · refine lv_aload_n hx hb dX8_ridge_34 rfl (lv_at hl 0 rfl) ?_
        refine va_get (D := G.1) (ci := 8) (v := .ref (q 6)) (C := RX8) (T := TX8) (N := 44) hx hb hts hin8 hown hK.1 hP 0 rfl rfl 6 (by decide) f19 (fun _ h9 => h9) rfl dX8_ridge_35 ?_
        refine lv_iload_n hx hb dX8_ridge_38 rfl (lv_at hl 1 rfl) ?_
        refine al_i hx hb hK.1 hP 1 0 rfl rfl (j := p) (by omega) (Nat.le_of_ble_eq_true rfl) dX8_ridge_39 ?_
        refine top_i (y := nI (za σ p)) ((har.2 p hp).1) ?_
        refine lv_goto (tgt := 49) hx hb dX8_ridge_40 (by decide) ?_
        have hpost : (nI (za σ p) : Int32) = rdR σ (nI p) y := by
          rw [rdR, if_pos c_16, nI_clamp (by omega)]
          rw [if_pos c_31]
        exact hret _ () _ _ _ _ (hpost) (rfl) hP hD hS dX8_ridge_49
    · have c_25 : (pIn y 0 1) = false := b2i_0.mp c_25
      refine lv_iconst (v := -1) hx hb dX8_ridge_28 (by decide) ?_
      have hpost : (-1 : Int32) = rdR σ (nI p) y := by
        obtain ⟨a0, a1⟩ := pIn1 c_25
        simp [rdR, a0, a1]
      exact hret _ () _ _ _ _ (hpost) (rfl) hP hD hS dX8_ridge_29

abbrev rX8_seen : Room := { frames := 2, cells := 0, slots := 0, locals := 44 }
set_option maxHeartbeats 4000000 in
set_option maxRecDepth 100000 in
theorem c_X8_seen (l : Launch) (G : kG) (h : Nat) (v : Nat → Int32) (q : Nat → Nat) (px : Nat → Int32) (py : Nat → Int32) (hi : Nat → Int32) (la : Nat → Int32) (lb : Nat → Int32) (ip : Nat → Int32) (se : Nat → Int32) (be : Nat → Int32) (he : Nat → Int32) (σ : PS) (x : Int32) (y : Int32) (z : Int32) (hLM : LM σ v px py hi la lb ip se be he) : Ci l G yX8_seen wsX8_seen rX8_seen [.ref h, .int x, .int y, .int z] [oB h 8 (oF8 v q), aZ G (q 9) 64 ip, aI G (q 10) 64 se] (fun r (u : Unit) => r = seR (cPk σ) (cVis σ) (zn σ) x y z) (fun u => [oB h 8 (oF8 (upd v 0 0) q), aZ G (q 9) 64 ip, aI G (q 10) 64 se]) := by
  refine Ci.of (cc := cX8_seen) (maxL := 4) (by decide) rfl (Nat.le_of_ble_eq_true rfl) ?_
  intro pM eM sM mM bM tM cM Q A hx hb hts hown hml hA hK hP hD hS hret ls hl
  have hown : sM.vm.findClass RX8 = some mM.cls := hown
  have hl : lv_has ls 4 [(0, .ref h), (1, .int x), (2, .int y), (3, .int z)] := hl
  have hin8 : ∀ w ∈ u_ws RX8 TX8 44, w ∈ wsX8_seen := by decide +kernel
  have f98 := hts (.fieldLink RX8 98 "HorizonPeaksModel" "thrown" "I") (by decide +kernel)
  have f29 := hts (.fieldLink RX8 29 "HorizonPeaksModel" "seen" "[I") (by decide +kernel)
  obtain ⟨hok, ⟨hv1, hv5, hv8⟩, har, hLP⟩ := hLM
  have hn10 := hok.1
  have hm8 := hok.2.1
  have hl3 := hok.2.2.1
  have hip : ∀ i, i < 64 → ip i = b2i (decide (cPk σ i = 0)) := fun i hh => (hLP i hh).1
  refine lv_aload_n hx hb dX8_seen_0 rfl (lv_at hl 0 rfl) ?_
  refine lv_iconst (v := 0) hx hb dX8_seen_1 (by decide) ?_
  refine va_put (D := G.1) (ci := 8) (v := .int 0) (ty := .int) (C := RX8) (T := TX8) (N := 44) hx hb hts hin8 tyX8 tyX8_ok nmX8 hown hK.1 hP hD hS 0 rfl rfl 0 (by decide) f98 (fun _ h9 => h9) rfl (by decide +kernel) rfl rfl (Nat.le_of_ble_eq_true rfl) dX8_seen_2 (fun H locs hP hD hS => ?_)
  have hP : va_P G.1 vwCl [oB h 8 (oF8 (upd v 0 0) q), aZ G (q 9) 64 ip, aI G (q 10) 64 se] H := hP
  have hD : va_D A [oB h 8 (oF8 (upd v 0 0) q), aZ G (q 9) 64 ip, aI G (q 10) 64 se] := hD
  refine lv_aload_n hx hb dX8_seen_5 rfl (lv_at hl 0 rfl) ?_
  refine lv_iload_n hx hb dX8_seen_6 rfl (lv_at hl 1 rfl) ?_
  refine lv_iload_n hx hb dX8_seen_7 rfl (lv_at hl 2 rfl) ?_
  refine rd_i (va_runV (As := [.int x, .int y]) (rest := []) ⟨hx, hb, hml, hown, hts⟩ (c_X8_isThere l G h (upd v 0 0) q ip (cPk σ) x y (hip)) (cwV 2 hts gX8_seen_X8_isThere rfl rfl rfl (by decide +kernel) ⟨Nat.le_of_ble_eq_true rfl, Nat.le_of_ble_eq_true rfl⟩) (rPre_V hK hP [0, 1] rfl 0 8 rfl rfl) rfl rfl hl.1 rfl (lv_room (Nat.le_of_ble_eq_true rfl)) dX8_seen_8 ⟨Nat.zero_le _, Nat.zero_le _⟩) (fun r_8 q_8 => ?_)
  obtain rfl : r_8 = b2i (pPlace (cPk σ) x y) := q_8
  refine lv_if_eq (tgt := 40) hx hb dX8_seen_11 (by decide) (fun c_11 => ?_) (fun c_11 => ?_)
  · have c_11 : (pPlace (cPk σ) x y) = false := b2i_0.mp c_11
    refine lv_iconst (v := -1) hx hb dX8_seen_40 (by decide) ?_
    have hpost : (-1 : Int32) = seR (cPk σ) (cVis σ) (zn σ) x y z := by
      simp [seR, c_11]
    exact hret _ () _ _ _ _ (hpost) (rfl) hP hD hS dX8_seen_41
  · have c_11 : (pPlace (cPk σ) x y) = true := b2i_n0.mp c_11
    obtain ⟨X, Y, hX, hY, rfl, rfl, hc⟩ := pPlace_of c_11
    refine lv_aload_n hx hb dX8_seen_14 rfl (lv_at hl 0 rfl) ?_
    refine lv_iload_n hx hb dX8_seen_15 rfl (lv_at hl 3 rfl) ?_
    refine rd_i (va_runV (As := [.int z]) (rest := []) ⟨hx, hb, hml, hown, hts⟩ (c_X8_isPeak l G h (upd v 0 0) q z (zn σ) (hv1) (hn10)) (cwV 1 hts gX8_seen_X8_isPeak rfl rfl rfl (by decide +kernel) ⟨Nat.le_of_ble_eq_true rfl, Nat.le_of_ble_eq_true rfl⟩) (rPre_V hK hP [0] rfl 0 8 rfl rfl) rfl rfl hl.1 rfl (lv_room (Nat.le_of_ble_eq_true rfl)) dX8_seen_16 ⟨Nat.zero_le _, Nat.zero_le _⟩) (fun r_16 q_16 => ?_)
    obtain rfl : r_16 = b2i (pHas (nI (zn σ)) z) := q_16
    refine lv_if_eq (tgt := 40) hx hb dX8_seen_19 (by decide) (fun c_19 => ?_) (fun c_19 => ?_)
    · have c_19 : (pHas (nI (zn σ)) z) = false := b2i_0.mp c_19
      refine lv_iconst (v := -1) hx hb dX8_seen_40 (by decide) ?_
      have hpost : (-1 : Int32) = seR (cPk σ) (cVis σ) (zn σ) (nI X) (nI Y) z := by
        simp [seR, c_19, c_11]
      exact hret _ () _ _ _ _ (hpost) (rfl) hP hD hS dX8_seen_41
    · have c_19 : (pHas (nI (zn σ)) z) = true := b2i_n0.mp c_19
      obtain ⟨p, hp, rfl⟩ := pHas_of (by omega) c_19
      refine lv_aload_n hx hb dX8_seen_22 rfl (lv_at hl 0 rfl) ?_
      refine va_get (D := G.1) (ci := 8) (v := .ref (q 10)) (C := RX8) (T := TX8) (N := 44) hx hb hts hin8 hown hK.1 hP 0 rfl rfl 10 (by decide) f29 (fun _ h9 => h9) rfl dX8_seen_23 ?_
      refine lv_bipush (v := 8) hx hb dX8_seen_26 (by decide) ?_
      refine lv_iload_n hx hb dX8_seen_28 rfl (lv_at hl 1 rfl) ?_
      refine lv_imul hx hb dX8_seen_29 ?_
      refine lv_iload_n hx hb dX8_seen_30 rfl (lv_at hl 2 rfl) ?_
      refine lv_iadd hx hb dX8_seen_31 ?_
      refine top_i (y := nI (X * 8 + Y)) (mul8' X Y) ?_
      refine al_i hx hb hK.1 hP 2 0 rfl rfl (j := X * 8 + Y) (by omega) (Nat.le_of_ble_eq_true rfl) dX8_seen_32 ?_
      refine top_i (y := cVis σ (X * 8 + Y)) ((hLP _ (by omega)).2.1) ?_
      refine lv_iload_n hx hb dX8_seen_33 rfl (lv_at hl 3 rfl) ?_
      refine lv_ishr hx hb dX8_seen_34 ?_
      refine lv_iconst (v := 1) hx hb dX8_seen_35 (by decide) ?_
      refine lv_iand hx hb dX8_seen_36 ?_
      refine lv_goto (tgt := 41) hx hb dX8_seen_37 (by decide) ?_
      have hpost : (((cVis σ (X * 8 + Y)) >>> ((nI p) &&& 31)) &&& 1 : Int32) = seR (cPk σ) (cVis σ) (zn σ) (nI X) (nI Y) (nI p) := by
        rw [seR, if_pos (by rw [c_11, c_19]; rfl), ptN_nI hX hY]
        rw [sr_bt1 (by omega)]
        cases bt (cVis σ (X * 8 + Y)) p <;> rfl
      exact hret _ () _ _ _ _ (hpost) (rfl) hP hD hS dX8_seen_41

abbrev rX8_bearing : Room := { frames := 2, cells := 0, slots := 0, locals := 44 }
set_option maxHeartbeats 4000000 in
set_option maxRecDepth 100000 in
theorem c_X8_bearing (l : Launch) (G : kG) (h : Nat) (v : Nat → Int32) (q : Nat → Nat) (px : Nat → Int32) (py : Nat → Int32) (hi : Nat → Int32) (la : Nat → Int32) (lb : Nat → Int32) (ip : Nat → Int32) (se : Nat → Int32) (be : Nat → Int32) (he : Nat → Int32) (σ : PS) (x : Int32) (y : Int32) (z : Int32) (hLM : LM σ v px py hi la lb ip se be he) : Ci l G yX8_bearing wsX8_bearing rX8_bearing [.ref h, .int x, .int y, .int z] [oB h 8 (oF8 v q), aZ G (q 9) 64 ip, aI G (q 11) 640 be] (fun r (u : Unit) => r = cbeR σ x y z) (fun u => [oB h 8 (oF8 (upd v 0 0) q), aZ G (q 9) 64 ip, aI G (q 11) 640 be]) := by
  refine Ci.of (cc := cX8_bearing) (maxL := 4) (by decide) rfl (Nat.le_of_ble_eq_true rfl) ?_
  intro pM eM sM mM bM tM cM Q A hx hb hts hown hml hA hK hP hD hS hret ls hl
  have hown : sM.vm.findClass RX8 = some mM.cls := hown
  have hl : lv_has ls 4 [(0, .ref h), (1, .int x), (2, .int y), (3, .int z)] := hl
  have hin8 : ∀ w ∈ u_ws RX8 TX8 44, w ∈ wsX8_bearing := by decide +kernel
  have f98 := hts (.fieldLink RX8 98 "HorizonPeaksModel" "thrown" "I") (by decide +kernel)
  have f32 := hts (.fieldLink RX8 32 "HorizonPeaksModel" "bearings" "[I") (by decide +kernel)
  obtain ⟨hok, ⟨hv1, hv5, hv8⟩, har, hLP⟩ := hLM
  have hn10 := hok.1
  have hm8 := hok.2.1
  have hl3 := hok.2.2.1
  have hip : ∀ i, i < 64 → ip i = b2i (decide (cPk σ i = 0)) := fun i hh => (hLP i hh).1
  refine lv_aload_n hx hb dX8_bearing_0 rfl (lv_at hl 0 rfl) ?_
  refine lv_iconst (v := 0) hx hb dX8_bearing_1 (by decide) ?_
  refine va_put (D := G.1) (ci := 8) (v := .int 0) (ty := .int) (C := RX8) (T := TX8) (N := 44) hx hb hts hin8 tyX8 tyX8_ok nmX8 hown hK.1 hP hD hS 0 rfl rfl 0 (by decide) f98 (fun _ h9 => h9) rfl (by decide +kernel) rfl rfl (Nat.le_of_ble_eq_true rfl) dX8_bearing_2 (fun H locs hP hD hS => ?_)
  have hP : va_P G.1 vwCl [oB h 8 (oF8 (upd v 0 0) q), aZ G (q 9) 64 ip, aI G (q 11) 640 be] H := hP
  have hD : va_D A [oB h 8 (oF8 (upd v 0 0) q), aZ G (q 9) 64 ip, aI G (q 11) 640 be] := hD
  refine lv_aload_n hx hb dX8_bearing_5 rfl (lv_at hl 0 rfl) ?_
  refine lv_iload_n hx hb dX8_bearing_6 rfl (lv_at hl 1 rfl) ?_
  refine lv_iload_n hx hb dX8_bearing_7 rfl (lv_at hl 2 rfl) ?_
  refine rd_i (va_runV (As := [.int x, .int y]) (rest := []) ⟨hx, hb, hml, hown, hts⟩ (c_X8_isThere l G h (upd v 0 0) q ip (cPk σ) x y (hip)) (cwV 2 hts gX8_bearing_X8_isThere rfl rfl rfl (by decide +kernel) ⟨Nat.le_of_ble_eq_true rfl, Nat.le_of_ble_eq_true rfl⟩) (rPre_V hK hP [0, 1] rfl 0 8 rfl rfl) rfl rfl hl.1 rfl (lv_room (Nat.le_of_ble_eq_true rfl)) dX8_bearing_8 ⟨Nat.zero_le _, Nat.zero_le _⟩) (fun r_8 q_8 => ?_)
  obtain rfl : r_8 = b2i (pPlace (cPk σ) x y) := q_8
  refine lv_if_eq (tgt := 41) hx hb dX8_bearing_11 (by decide) (fun c_11 => ?_) (fun c_11 => ?_)
  · have c_11 : (pPlace (cPk σ) x y) = false := b2i_0.mp c_11
    refine lv_iconst (v := -1) hx hb dX8_bearing_41 (by decide) ?_
    have hpost : (-1 : Int32) = cbeR σ x y z := by
      simp [cbeR, c_11]
    exact hret _ () _ _ _ _ (hpost) (rfl) hP hD hS dX8_bearing_42
  · have c_11 : (pPlace (cPk σ) x y) = true := b2i_n0.mp c_11
    obtain ⟨X, Y, hX, hY, rfl, rfl, hc⟩ := pPlace_of c_11
    refine lv_aload_n hx hb dX8_bearing_14 rfl (lv_at hl 0 rfl) ?_
    refine lv_iload_n hx hb dX8_bearing_15 rfl (lv_at hl 3 rfl) ?_
    refine rd_i (va_runV (As := [.int z]) (rest := []) ⟨hx, hb, hml, hown, hts⟩ (c_X8_isPeak l G h (upd v 0 0) q z (zn σ) (hv1) (hn10)) (cwV 1 hts gX8_bearing_X8_isPeak rfl rfl rfl (by decide +kernel) ⟨Nat.le_of_ble_eq_true rfl, Nat.le_of_ble_eq_true rfl⟩) (rPre_V hK hP [0] rfl 0 8 rfl rfl) rfl rfl hl.1 rfl (lv_room (Nat.le_of_ble_eq_true rfl)) dX8_bearing_16 ⟨Nat.zero_le _, Nat.zero_le _⟩) (fun r_16 q_16 => ?_)
    obtain rfl : r_16 = b2i (pHas (nI (zn σ)) z) := q_16
    refine lv_if_eq (tgt := 41) hx hb dX8_bearing_19 (by decide) (fun c_19 => ?_) (fun c_19 => ?_)
    · have c_19 : (pHas (nI (zn σ)) z) = false := b2i_0.mp c_19
      refine lv_iconst (v := -1) hx hb dX8_bearing_41 (by decide) ?_
      have hpost : (-1 : Int32) = cbeR σ (nI X) (nI Y) z := by
        simp [cbeR, c_19, c_11]
      exact hret _ () _ _ _ _ (hpost) (rfl) hP hD hS dX8_bearing_42
    · have c_19 : (pHas (nI (zn σ)) z) = true := b2i_n0.mp c_19
      obtain ⟨p, hp, rfl⟩ := pHas_of (by omega) c_19
      refine lv_aload_n hx hb dX8_bearing_22 rfl (lv_at hl 0 rfl) ?_
      refine va_get (D := G.1) (ci := 8) (v := .ref (q 11)) (C := RX8) (T := TX8) (N := 44) hx hb hts hin8 hown hK.1 hP 0 rfl rfl 11 (by decide) f32 (fun _ h9 => h9) rfl dX8_bearing_23 ?_
      refine lv_bipush (v := 10) hx hb dX8_bearing_26 (by decide) ?_
      refine lv_bipush (v := 8) hx hb dX8_bearing_28 (by decide) ?_
      refine lv_iload_n hx hb dX8_bearing_30 rfl (lv_at hl 1 rfl) ?_
      refine lv_imul hx hb dX8_bearing_31 ?_
      refine lv_iload_n hx hb dX8_bearing_32 rfl (lv_at hl 2 rfl) ?_
      refine lv_iadd hx hb dX8_bearing_33 ?_
      refine top_i (y := nI (X * 8 + Y)) (mul8' X Y) ?_
      refine lv_imul hx hb dX8_bearing_34 ?_
      refine lv_iload_n hx hb dX8_bearing_35 rfl (lv_at hl 3 rfl) ?_
      refine lv_iadd hx hb dX8_bearing_36 ?_
      refine top_i (y := nI (10 * (X * 8 + Y) + p)) (idx10 _ _) ?_
      refine al_i hx hb hK.1 hP 2 0 rfl rfl (j := 10 * (X * 8 + Y) + p) (by omega) (Nat.le_of_ble_eq_true rfl) dX8_bearing_37 ?_
      refine top_i (y := nI (cBe σ (X * 8 + Y) p)) (((hLP _ (by omega)).2.2 hc p hp).1) ?_
      refine lv_goto (tgt := 42) hx hb dX8_bearing_38 (by decide) ?_
      have hpost : (nI (cBe σ (X * 8 + Y) p) : Int32) = cbeR σ (nI X) (nI Y) (nI p) := by
        rw [cbeR, if_pos (by rw [c_11, c_19]; rfl), ptN_nI hX hY, nI_clamp (by omega)]
      exact hret _ () _ _ _ _ (hpost) (rfl) hP hD hS dX8_bearing_42

abbrev rX8_stands : Room := { frames := 2, cells := 0, slots := 0, locals := 44 }
set_option maxHeartbeats 4000000 in
set_option maxRecDepth 100000 in
theorem c_X8_stands (l : Launch) (G : kG) (h : Nat) (v : Nat → Int32) (q : Nat → Nat) (px : Nat → Int32) (py : Nat → Int32) (hi : Nat → Int32) (la : Nat → Int32) (lb : Nat → Int32) (ip : Nat → Int32) (se : Nat → Int32) (be : Nat → Int32) (he : Nat → Int32) (σ : PS) (x : Int32) (y : Int32) (z : Int32) (hLM : LM σ v px py hi la lb ip se be he) : Ci l G yX8_stands wsX8_stands rX8_stands [.ref h, .int x, .int y, .int z] [oB h 8 (oF8 v q), aZ G (q 9) 64 ip, aI G (q 12) 640 he] (fun r (u : Unit) => r = cstR σ x y z) (fun u => [oB h 8 (oF8 (upd v 0 0) q), aZ G (q 9) 64 ip, aI G (q 12) 640 he]) := by
  refine Ci.of (cc := cX8_stands) (maxL := 4) (by decide) rfl (Nat.le_of_ble_eq_true rfl) ?_
  intro pM eM sM mM bM tM cM Q A hx hb hts hown hml hA hK hP hD hS hret ls hl
  have hown : sM.vm.findClass RX8 = some mM.cls := hown
  have hl : lv_has ls 4 [(0, .ref h), (1, .int x), (2, .int y), (3, .int z)] := hl
  have hin8 : ∀ w ∈ u_ws RX8 TX8 44, w ∈ wsX8_stands := by decide +kernel
  have f98 := hts (.fieldLink RX8 98 "HorizonPeaksModel" "thrown" "I") (by decide +kernel)
  have f35 := hts (.fieldLink RX8 35 "HorizonPeaksModel" "heights" "[I") (by decide +kernel)
  obtain ⟨hok, ⟨hv1, hv5, hv8⟩, har, hLP⟩ := hLM
  have hn10 := hok.1
  have hm8 := hok.2.1
  have hl3 := hok.2.2.1
  have hip : ∀ i, i < 64 → ip i = b2i (decide (cPk σ i = 0)) := fun i hh => (hLP i hh).1
  refine lv_aload_n hx hb dX8_stands_0 rfl (lv_at hl 0 rfl) ?_
  refine lv_iconst (v := 0) hx hb dX8_stands_1 (by decide) ?_
  refine va_put (D := G.1) (ci := 8) (v := .int 0) (ty := .int) (C := RX8) (T := TX8) (N := 44) hx hb hts hin8 tyX8 tyX8_ok nmX8 hown hK.1 hP hD hS 0 rfl rfl 0 (by decide) f98 (fun _ h9 => h9) rfl (by decide +kernel) rfl rfl (Nat.le_of_ble_eq_true rfl) dX8_stands_2 (fun H locs hP hD hS => ?_)
  have hP : va_P G.1 vwCl [oB h 8 (oF8 (upd v 0 0) q), aZ G (q 9) 64 ip, aI G (q 12) 640 he] H := hP
  have hD : va_D A [oB h 8 (oF8 (upd v 0 0) q), aZ G (q 9) 64 ip, aI G (q 12) 640 he] := hD
  refine lv_aload_n hx hb dX8_stands_5 rfl (lv_at hl 0 rfl) ?_
  refine lv_iload_n hx hb dX8_stands_6 rfl (lv_at hl 1 rfl) ?_
  refine lv_iload_n hx hb dX8_stands_7 rfl (lv_at hl 2 rfl) ?_
  refine rd_i (va_runV (As := [.int x, .int y]) (rest := []) ⟨hx, hb, hml, hown, hts⟩ (c_X8_isThere l G h (upd v 0 0) q ip (cPk σ) x y (hip)) (cwV 2 hts gX8_stands_X8_isThere rfl rfl rfl (by decide +kernel) ⟨Nat.le_of_ble_eq_true rfl, Nat.le_of_ble_eq_true rfl⟩) (rPre_V hK hP [0, 1] rfl 0 8 rfl rfl) rfl rfl hl.1 rfl (lv_room (Nat.le_of_ble_eq_true rfl)) dX8_stands_8 ⟨Nat.zero_le _, Nat.zero_le _⟩) (fun r_8 q_8 => ?_)
  obtain rfl : r_8 = b2i (pPlace (cPk σ) x y) := q_8
  refine lv_if_eq (tgt := 41) hx hb dX8_stands_11 (by decide) (fun c_11 => ?_) (fun c_11 => ?_)
  · have c_11 : (pPlace (cPk σ) x y) = false := b2i_0.mp c_11
    refine lv_iconst (v := -1) hx hb dX8_stands_41 (by decide) ?_
    have hpost : (-1 : Int32) = cstR σ x y z := by
      simp [cstR, c_11]
    exact hret _ () _ _ _ _ (hpost) (rfl) hP hD hS dX8_stands_42
  · have c_11 : (pPlace (cPk σ) x y) = true := b2i_n0.mp c_11
    obtain ⟨X, Y, hX, hY, rfl, rfl, hc⟩ := pPlace_of c_11
    refine lv_aload_n hx hb dX8_stands_14 rfl (lv_at hl 0 rfl) ?_
    refine lv_iload_n hx hb dX8_stands_15 rfl (lv_at hl 3 rfl) ?_
    refine rd_i (va_runV (As := [.int z]) (rest := []) ⟨hx, hb, hml, hown, hts⟩ (c_X8_isPeak l G h (upd v 0 0) q z (zn σ) (hv1) (hn10)) (cwV 1 hts gX8_stands_X8_isPeak rfl rfl rfl (by decide +kernel) ⟨Nat.le_of_ble_eq_true rfl, Nat.le_of_ble_eq_true rfl⟩) (rPre_V hK hP [0] rfl 0 8 rfl rfl) rfl rfl hl.1 rfl (lv_room (Nat.le_of_ble_eq_true rfl)) dX8_stands_16 ⟨Nat.zero_le _, Nat.zero_le _⟩) (fun r_16 q_16 => ?_)
    obtain rfl : r_16 = b2i (pHas (nI (zn σ)) z) := q_16
    refine lv_if_eq (tgt := 41) hx hb dX8_stands_19 (by decide) (fun c_19 => ?_) (fun c_19 => ?_)
    · have c_19 : (pHas (nI (zn σ)) z) = false := b2i_0.mp c_19
      refine lv_iconst (v := -1) hx hb dX8_stands_41 (by decide) ?_
      have hpost : (-1 : Int32) = cstR σ (nI X) (nI Y) z := by
        simp [cstR, c_19, c_11]
      exact hret _ () _ _ _ _ (hpost) (rfl) hP hD hS dX8_stands_42
    · have c_19 : (pHas (nI (zn σ)) z) = true := b2i_n0.mp c_19
      obtain ⟨p, hp, rfl⟩ := pHas_of (by omega) c_19
      refine lv_aload_n hx hb dX8_stands_22 rfl (lv_at hl 0 rfl) ?_
      refine va_get (D := G.1) (ci := 8) (v := .ref (q 12)) (C := RX8) (T := TX8) (N := 44) hx hb hts hin8 hown hK.1 hP 0 rfl rfl 12 (by decide) f35 (fun _ h9 => h9) rfl dX8_stands_23 ?_
      refine lv_bipush (v := 10) hx hb dX8_stands_26 (by decide) ?_
      refine lv_bipush (v := 8) hx hb dX8_stands_28 (by decide) ?_
      refine lv_iload_n hx hb dX8_stands_30 rfl (lv_at hl 1 rfl) ?_
      refine lv_imul hx hb dX8_stands_31 ?_
      refine lv_iload_n hx hb dX8_stands_32 rfl (lv_at hl 2 rfl) ?_
      refine lv_iadd hx hb dX8_stands_33 ?_
      refine top_i (y := nI (X * 8 + Y)) (mul8' X Y) ?_
      refine lv_imul hx hb dX8_stands_34 ?_
      refine lv_iload_n hx hb dX8_stands_35 rfl (lv_at hl 3 rfl) ?_
      refine lv_iadd hx hb dX8_stands_36 ?_
      refine top_i (y := nI (10 * (X * 8 + Y) + p)) (idx10 _ _) ?_
      refine al_i hx hb hK.1 hP 2 0 rfl rfl (j := 10 * (X * 8 + Y) + p) (by omega) (Nat.le_of_ble_eq_true rfl) dX8_stands_37 ?_
      refine top_i (y := nI (cHg σ (X * 8 + Y) p)) (((hLP _ (by omega)).2.2 hc p hp).2) ?_
      refine lv_goto (tgt := 42) hx hb dX8_stands_38 (by decide) ?_
      have hpost : (nI (cHg σ (X * 8 + Y) p) : Int32) = cstR σ (nI X) (nI Y) (nI p) := by
        rw [cstR, if_pos (by rw [c_11, c_19]; rfl), ptN_nI hX hY, nI_clamp (by omega)]
      exact hret _ () _ _ _ _ (hpost) (rfl) hP hD hS dX8_stands_42

abbrev rX8_isAhead : Room := { frames := 2, cells := 0, slots := 0, locals := 41 }
set_option maxHeartbeats 4000000 in
set_option maxRecDepth 100000 in
theorem c_X8_isAhead (l : Launch) (G : kG) (h : Nat) (v : Nat → Int32) (q : Nat → Nat) (px : Nat → Int32) (py : Nat → Int32) (hi : Nat → Int32) (la : Nat → Int32) (lb : Nat → Int32) (σ : PS) (X : Nat) (Y : Nat) (pt : Nat) (p : Nat) (q0 : Nat) (eX : pt / 8 = X) (eY : pt % 8 = Y) (hpt : pt < 64) (hok : okPS σ) (har : arM σ px py hi la lb) (hc : cPk σ pt = 0) (hp : p < zn σ) (hq0 : q0 < zn σ) : Ri l G yX8_isAhead wsX8_isAhead rX8_isAhead [.ref h, .int (nI X), .int (nI Y), .int (nI p), .int (nI q0)] [oB h 8 (oF8 v q), aI G (q 2) 10 px, aI G (q 3) 10 py] (fun r => r = b2i (gahead (cX σ) (cY σ) pt p q0)) := by
  refine Ri.of (cc := cX8_isAhead) (maxL := 10) (by decide) rfl (Nat.le_of_ble_eq_true rfl) ?_
  intro pM eM sM mM bM tM cM Q hx hb hts hown hml hP hK hret ls hl
  have hown : sM.vm.findClass RX8 = some mM.cls := hown
  have hl : lv_has ls 10 [(0, .ref h), (1, .int (nI X)), (2, .int (nI Y)), (3, .int (nI p)), (4, .int (nI q0))] := hl
  have hin8 : ∀ w ∈ u_ws RX8 TX8 44, w ∈ wsX8_isAhead := by decide +kernel
  have f7 := hts (.fieldLink RX8 7 "HorizonPeaksModel" "px" "[I") (by decide +kernel)
  have f13 := hts (.fieldLink RX8 13 "HorizonPeaksModel" "py" "[I") (by decide +kernel)
  have hn10 := hok.1
  refine lv_aload_n hx hb dX8_isAhead_0 rfl (lv_at hl 0 rfl) ?_
  refine va_get (D := G.1) (ci := 8) (v := .ref (q 2)) (C := RX8) (T := TX8) (N := 44) hx hb hts hin8 hown hK.1 hP 0 rfl rfl 2 (by decide) f7 (fun _ h9 => h9) rfl dX8_isAhead_1 ?_
  refine lv_iload_n hx hb dX8_isAhead_4 rfl (lv_at hl 3 rfl) ?_
  refine al_i hx hb hK.1 hP 1 0 rfl rfl (j := p) (by omega) (Nat.le_of_ble_eq_true rfl) dX8_isAhead_5 ?_
  refine top_i (y := nI (zx σ p)) ((har.1 p hp).1) ?_
  refine lv_iload_n hx hb dX8_isAhead_6 rfl (lv_at hl 1 rfl) ?_
  refine lv_isub hx hb dX8_isAhead_7 ?_
  refine top_i (y := gx (cX σ) pt p) (by rw [← eX]; rfl) ?_
  refine lv_istore (lv' := [(5, .int (gx (cX σ) pt p)), (0, .ref h), (1, .int (nI X)), (2, .int (nI Y)), (3, .int (nI p)), (4, .int (nI q0))]) hx hb dX8_isAhead_8 hl (by decide) rfl (fun ls hl => ?_)
  refine lv_aload_n hx hb dX8_isAhead_10 rfl (lv_at hl 1 rfl) ?_
  refine va_get (D := G.1) (ci := 8) (v := .ref (q 3)) (C := RX8) (T := TX8) (N := 44) hx hb hts hin8 hown hK.1 hP 0 rfl rfl 3 (by decide) f13 (fun _ h9 => h9) rfl dX8_isAhead_11 ?_
  refine lv_iload_n hx hb dX8_isAhead_14 rfl (lv_at hl 4 rfl) ?_
  refine al_i hx hb hK.1 hP 2 0 rfl rfl (j := p) (by omega) (Nat.le_of_ble_eq_true rfl) dX8_isAhead_15 ?_
  refine top_i (y := nI (zy σ p)) ((har.1 p hp).2.1) ?_
  refine lv_iload_n hx hb dX8_isAhead_16 rfl (lv_at hl 3 rfl) ?_
  refine lv_isub hx hb dX8_isAhead_17 ?_
  refine top_i (y := gy (cY σ) pt p) (by rw [← eY]; rfl) ?_
  refine lv_istore (lv' := [(6, .int (gy (cY σ) pt p)), (5, .int (gx (cX σ) pt p)), (0, .ref h), (1, .int (nI X)), (2, .int (nI Y)), (3, .int (nI p)), (4, .int (nI q0))]) hx hb dX8_isAhead_18 hl (by decide) rfl (fun ls hl => ?_)
  refine lv_aload_n hx hb dX8_isAhead_20 rfl (lv_at hl 2 rfl) ?_
  refine va_get (D := G.1) (ci := 8) (v := .ref (q 2)) (C := RX8) (T := TX8) (N := 44) hx hb hts hin8 hown hK.1 hP 0 rfl rfl 2 (by decide) f7 (fun _ h9 => h9) rfl dX8_isAhead_21 ?_
  refine lv_iload hx hb dX8_isAhead_24 (lv_at hl 6 rfl) ?_
  refine al_i hx hb hK.1 hP 1 0 rfl rfl (j := q0) (by omega) (Nat.le_of_ble_eq_true rfl) dX8_isAhead_26 ?_
  refine top_i (y := nI (zx σ q0)) ((har.1 q0 hq0).1) ?_
  refine lv_iload_n hx hb dX8_isAhead_27 rfl (lv_at hl 3 rfl) ?_
  refine lv_isub hx hb dX8_isAhead_28 ?_
  refine top_i (y := gx (cX σ) pt q0) (by rw [← eX]; rfl) ?_
  refine lv_istore (lv' := [(7, .int (gx (cX σ) pt q0)), (6, .int (gy (cY σ) pt p)), (5, .int (gx (cX σ) pt p)), (0, .ref h), (1, .int (nI X)), (2, .int (nI Y)), (3, .int (nI p)), (4, .int (nI q0))]) hx hb dX8_isAhead_29 hl (by decide) rfl (fun ls hl => ?_)
  refine lv_aload_n hx hb dX8_isAhead_31 rfl (lv_at hl 3 rfl) ?_
  refine va_get (D := G.1) (ci := 8) (v := .ref (q 3)) (C := RX8) (T := TX8) (N := 44) hx hb hts hin8 hown hK.1 hP 0 rfl rfl 3 (by decide) f13 (fun _ h9 => h9) rfl dX8_isAhead_32 ?_
  refine lv_iload hx hb dX8_isAhead_35 (lv_at hl 7 rfl) ?_
  refine al_i hx hb hK.1 hP 2 0 rfl rfl (j := q0) (by omega) (Nat.le_of_ble_eq_true rfl) dX8_isAhead_37 ?_
  refine top_i (y := nI (zy σ q0)) ((har.1 q0 hq0).2.1) ?_
  refine lv_iload_n hx hb dX8_isAhead_38 rfl (lv_at hl 5 rfl) ?_
  refine lv_isub hx hb dX8_isAhead_39 ?_
  refine top_i (y := gy (cY σ) pt q0) (by rw [← eY]; rfl) ?_
  refine lv_istore (lv' := [(8, .int (gy (cY σ) pt q0)), (7, .int (gx (cX σ) pt q0)), (6, .int (gy (cY σ) pt p)), (5, .int (gx (cX σ) pt p)), (0, .ref h), (1, .int (nI X)), (2, .int (nI Y)), (3, .int (nI p)), (4, .int (nI q0))]) hx hb dX8_isAhead_40 hl (by decide) rfl (fun ls hl => ?_)
  refine lv_iload hx hb dX8_isAhead_42 (lv_at hl 3 rfl) ?_
  refine lv_iload hx hb dX8_isAhead_44 (lv_at hl 2 rfl) ?_
  refine rd_i (va_runS (As := [.int (gx (cX σ) pt p), .int (gy (cY σ) pt p)]) (rest := []) ⟨hx, hb, hml, hown, hts⟩ (c_X8_isUpper l G (gx (cX σ) pt p) (gy (cY σ) pt p)) (va_cwS 2 hts gX8_isAhead_X8_isUpper rfl rfl rfl (by decide +kernel) ⟨Nat.le_of_ble_eq_true rfl, Nat.le_of_ble_eq_true rfl⟩) (rPre_S hK hP [] rfl) rfl rfl hl.1 rfl (lv_room (Nat.le_of_ble_eq_true rfl)) dX8_isAhead_46 ⟨Nat.zero_le _, Nat.zero_le _⟩) (fun r_46 q_46 => ?_)
  obtain rfl : r_46 = b2i (mup (gx (cX σ) pt p) (gy (cY σ) pt p)) := q_46
  refine lv_iload hx hb dX8_isAhead_49 (lv_at hl 1 rfl) ?_
  refine lv_iload hx hb dX8_isAhead_51 (lv_at hl 0 rfl) ?_
  refine rd_i (va_runS (As := [.int (gx (cX σ) pt q0), .int (gy (cY σ) pt q0)]) (rest := [.int (b2i (mup (gx (cX σ) pt p) (gy (cY σ) pt p)))]) ⟨hx, hb, hml, hown, hts⟩ (c_X8_isUpper l G (gx (cX σ) pt q0) (gy (cY σ) pt q0)) (va_cwS 2 hts gX8_isAhead_X8_isUpper rfl rfl rfl (by decide +kernel) ⟨Nat.le_of_ble_eq_true rfl, Nat.le_of_ble_eq_true rfl⟩) (rPre_S hK hP [] rfl) rfl rfl hl.1 rfl (lv_room (Nat.le_of_ble_eq_true rfl)) dX8_isAhead_53 ⟨Nat.zero_le _, Nat.zero_le _⟩) (fun r_53 q_53 => ?_)
  obtain rfl : r_53 = b2i (mup (gx (cX σ) pt q0) (gy (cY σ) pt q0)) := q_53
  refine lv_icmp_eq (tgt := 67) hx hb dX8_isAhead_56 (by decide) (fun c_56 => ?_) (fun c_56 => ?_)
  · have c_56 := b2i_inj.mp c_56
    rw [mup_is hok hpt hc hp, mup_is hok hpt hc hq0] at c_56
    have hgh : ghalf (gx (cX σ) pt p) (gy (cY σ) pt p) = ghalf (gx (cX σ) pt q0) (gy (cY σ) pt q0) := by revert c_56; cases ghalf (gx (cX σ) pt p) (gy (cY σ) pt p) <;> cases ghalf (gx (cX σ) pt q0) (gy (cY σ) pt q0) <;> decide
    refine lv_iload hx hb dX8_isAhead_67 (lv_at hl 3 rfl) ?_
    refine lv_iload hx hb dX8_isAhead_69 (lv_at hl 2 rfl) ?_
    refine lv_iload hx hb dX8_isAhead_71 (lv_at hl 1 rfl) ?_
    refine lv_iload hx hb dX8_isAhead_73 (lv_at hl 0 rfl) ?_
    refine rd_i (va_runS (As := [.int (gx (cX σ) pt p), .int (gy (cY σ) pt p), .int (gx (cX σ) pt q0), .int (gy (cY σ) pt q0)]) (rest := []) ⟨hx, hb, hml, hown, hts⟩ (c_X8_cross l G (gx (cX σ) pt p) (gy (cY σ) pt p) (gx (cX σ) pt q0) (gy (cY σ) pt q0)) (va_cwS 4 hts gX8_isAhead_X8_cross rfl rfl rfl (by decide +kernel) ⟨Nat.le_of_ble_eq_true rfl, Nat.le_of_ble_eq_true rfl⟩) (rPre_S hK hP [] rfl) rfl rfl hl.1 rfl (lv_room (Nat.le_of_ble_eq_true rfl)) dX8_isAhead_75 ⟨Nat.zero_le _, Nat.zero_le _⟩) (fun r_75 q_75 => ?_)
    obtain rfl : r_75 = (gx (cX σ) pt p) * (gy (cY σ) pt q0) - (gy (cY σ) pt p) * (gx (cX σ) pt q0) := q_75
    refine top_i (y := gturn (cX σ) (cY σ) pt p q0) (rfl) ?_
    refine lv_istore (lv' := [(9, .int (gturn (cX σ) (cY σ) pt p q0)), (8, .int (gy (cY σ) pt q0)), (7, .int (gx (cX σ) pt q0)), (6, .int (gy (cY σ) pt p)), (5, .int (gx (cX σ) pt p)), (0, .ref h), (1, .int (nI X)), (2, .int (nI Y)), (3, .int (nI p)), (4, .int (nI q0))]) hx hb dX8_isAhead_78 hl (by decide) rfl (fun ls hl => ?_)
    refine lv_iload hx hb dX8_isAhead_80 (lv_at hl 0 rfl) ?_
    refine lv_if_eq (tgt := 98) hx hb dX8_isAhead_82 (by decide) (fun c_82 => ?_) (fun c_82 => ?_)
    · refine lv_iload hx hb dX8_isAhead_98 (lv_at hl 4 rfl) ?_
      refine lv_iload hx hb dX8_isAhead_100 (lv_at hl 3 rfl) ?_
      refine rd_i (va_runS (As := [.int (gx (cX σ) pt p), .int (gy (cY σ) pt p)]) (rest := []) ⟨hx, hb, hml, hown, hts⟩ (c_X8_way l G (gx (cX σ) pt p) (gy (cY σ) pt p)) (va_cwS 2 hts gX8_isAhead_X8_way rfl rfl rfl (by decide +kernel) ⟨Nat.le_of_ble_eq_true rfl, Nat.le_of_ble_eq_true rfl⟩) (rPre_S hK hP [] rfl) rfl rfl hl.1 rfl (lv_room (Nat.le_of_ble_eq_true rfl)) dX8_isAhead_102 ⟨Nat.zero_le _, Nat.zero_le _⟩) (fun r_102 q_102 => ?_)
      obtain rfl : r_102 = mway (gx (cX σ) pt p) (gy (cY σ) pt p) := q_102
      refine top_i (y := gway (cX σ) (cY σ) pt p) (mway_is _ _) ?_
      refine lv_iload hx hb dX8_isAhead_105 (lv_at hl 2 rfl) ?_
      refine lv_iload hx hb dX8_isAhead_107 (lv_at hl 1 rfl) ?_
      refine rd_i (va_runS (As := [.int (gx (cX σ) pt q0), .int (gy (cY σ) pt q0)]) (rest := [.int (gway (cX σ) (cY σ) pt p)]) ⟨hx, hb, hml, hown, hts⟩ (c_X8_way l G (gx (cX σ) pt q0) (gy (cY σ) pt q0)) (va_cwS 2 hts gX8_isAhead_X8_way rfl rfl rfl (by decide +kernel) ⟨Nat.le_of_ble_eq_true rfl, Nat.le_of_ble_eq_true rfl⟩) (rPre_S hK hP [] rfl) rfl rfl hl.1 rfl (lv_room (Nat.le_of_ble_eq_true rfl)) dX8_isAhead_109 ⟨Nat.zero_le _, Nat.zero_le _⟩) (fun r_109 q_109 => ?_)
      obtain rfl : r_109 = mway (gx (cX σ) pt q0) (gy (cY σ) pt q0) := q_109
      refine top_i (y := gway (cX σ) (cY σ) pt q0) (mway_is _ _) ?_
      refine lv_icmp_ge (tgt := 119) hx hb dX8_isAhead_112 (by decide) (fun c_112 => ?_) (fun c_112 => ?_)
      · refine lv_iconst (v := 0) hx hb dX8_isAhead_119 (by decide) ?_
        have hpost : (0 : Int32) = b2i (gahead (cX σ) (cY σ) pt p q0) := by
          rw [gahead, if_pos hgh, c_82, decide_eq_true c_112]; rfl
        exact hret _ _ _ (hpost) (rfl) dX8_isAhead_120
      · refine lv_iconst (v := 1) hx hb dX8_isAhead_115 (by decide) ?_
        refine lv_goto (tgt := 120) hx hb dX8_isAhead_116 (by decide) ?_
        have hpost : (1 : Int32) = b2i (gahead (cX σ) (cY σ) pt p q0) := by
          rw [gahead, if_pos hgh, c_82, decide_eq_false c_112]; rfl
        exact hret _ _ _ (hpost) (rfl) dX8_isAhead_120
    · refine lv_iload hx hb dX8_isAhead_85 (lv_at hl 0 rfl) ?_
      refine lv_if_le (tgt := 94) hx hb dX8_isAhead_87 (by decide) (fun c_87 => ?_) (fun c_87 => ?_)
      · refine lv_iconst (v := 0) hx hb dX8_isAhead_94 (by decide) ?_
        refine lv_goto (tgt := 120) hx hb dX8_isAhead_95 (by decide) ?_
        have hpost : (0 : Int32) = b2i (gahead (cX σ) (cY σ) pt p q0) := by
          have e0 : decide (0 < gturn (cX σ) (cY σ) pt p q0) = !decide (gturn (cX σ) (cY σ) pt p q0 ≤ 0) := by
            by_cases c : gturn (cX σ) (cY σ) pt p q0 ≤ 0
            · rw [decide_eq_true c, decide_eq_false (fun q => by rw [Int32.le_iff_toInt_le] at c; rw [Int32.lt_iff_toInt_lt] at q; omega)]; rfl
            · rw [decide_eq_false c, decide_eq_true (by rw [Int32.le_iff_toInt_le] at c; rw [Int32.lt_iff_toInt_lt]; omega)]; rfl
          rw [gahead, if_pos hgh, e0, decide_eq_true c_87, decide_eq_false c_82]; rfl
        exact hret _ _ _ (hpost) (rfl) dX8_isAhead_120
      · refine lv_iconst (v := 1) hx hb dX8_isAhead_90 (by decide) ?_
        refine lv_goto (tgt := 120) hx hb dX8_isAhead_91 (by decide) ?_
        have hpost : (1 : Int32) = b2i (gahead (cX σ) (cY σ) pt p q0) := by
          have e0 : decide (0 < gturn (cX σ) (cY σ) pt p q0) = !decide (gturn (cX σ) (cY σ) pt p q0 ≤ 0) := by
            by_cases c : gturn (cX σ) (cY σ) pt p q0 ≤ 0
            · rw [decide_eq_true c, decide_eq_false (fun q => by rw [Int32.le_iff_toInt_le] at c; rw [Int32.lt_iff_toInt_lt] at q; omega)]; rfl
            · rw [decide_eq_false c, decide_eq_true (by rw [Int32.le_iff_toInt_le] at c; rw [Int32.lt_iff_toInt_lt]; omega)]; rfl
          rw [gahead, if_pos hgh, e0, decide_eq_false c_87]; rfl
        exact hret _ _ _ (hpost) (rfl) dX8_isAhead_120
  · have c_56 := fun e => c_56 (b2i_inj.mpr e)
    rw [mup_is hok hpt hc hp, mup_is hok hpt hc hq0] at c_56
    have hgh : ¬ ghalf (gx (cX σ) pt p) (gy (cY σ) pt p) = ghalf (gx (cX σ) pt q0) (gy (cY σ) pt q0) := by revert c_56; cases ghalf (gx (cX σ) pt p) (gy (cY σ) pt p) <;> cases ghalf (gx (cX σ) pt q0) (gy (cY σ) pt q0) <;> decide
    refine lv_iload hx hb dX8_isAhead_59 (lv_at hl 3 rfl) ?_
    refine lv_iload hx hb dX8_isAhead_61 (lv_at hl 2 rfl) ?_
    refine rd_i (va_runS (As := [.int (gx (cX σ) pt p), .int (gy (cY σ) pt p)]) (rest := []) ⟨hx, hb, hml, hown, hts⟩ (c_X8_isUpper l G (gx (cX σ) pt p) (gy (cY σ) pt p)) (va_cwS 2 hts gX8_isAhead_X8_isUpper rfl rfl rfl (by decide +kernel) ⟨Nat.le_of_ble_eq_true rfl, Nat.le_of_ble_eq_true rfl⟩) (rPre_S hK hP [] rfl) rfl rfl hl.1 rfl (lv_room (Nat.le_of_ble_eq_true rfl)) dX8_isAhead_63 ⟨Nat.zero_le _, Nat.zero_le _⟩) (fun r_63 q_63 => ?_)
    obtain rfl : r_63 = b2i (mup (gx (cX σ) pt p) (gy (cY σ) pt p)) := q_63
    have hpost : (b2i (mup (gx (cX σ) pt p) (gy (cY σ) pt p)) : Int32) = b2i (gahead (cX σ) (cY σ) pt p q0) := by
      rw [mup_is hok hpt hc hp, gahead, if_neg hgh]
    exact hret _ _ _ (hpost) (b2i_nar _) dX8_isAhead_66

abbrev rX8_panoramaAt : Room := { frames := 3, cells := 0, slots := 0, locals := 70 }
set_option maxHeartbeats 4000000 in
set_option maxRecDepth 100000 in
theorem c_X8_panoramaAt (l : Launch) (G : kG) (h : Nat) (v : Nat → Int32) (q : Nat → Nat) (px : Nat → Int32) (py : Nat → Int32) (hi : Nat → Int32) (la : Nat → Int32) (lb : Nat → Int32) (ip : Nat → Int32) (se : Nat → Int32) (be : Nat → Int32) (he : Nat → Int32) (σ : PS) (X : Nat) (Y : Nat) (pt : Nat) (z : Int32) (hLM : LM σ v px py hi la lb ip se be he) (eX : pt / 8 = X) (eY : pt % 8 = Y) (hpt : pt < 64) (hc : cPk σ pt = 0) : Ri l G yX8_panoramaAt wsX8_panoramaAt rX8_panoramaAt [.ref h, .int (nI X), .int (nI Y), .int z] [oB h 8 (oF8 v q), aI G (q 2) 10 px, aI G (q 3) 10 py, aI G (q 10) 64 se] (fun r => (z < 0 → r = nI (fb_ct (cVi σ pt) (zn σ))) ∧ (¬ z < 0 → pnQ (cVi σ pt) (gahead (cX σ) (cY σ) pt) (zn σ) (zn σ) z r)) := by
  refine Ri.of (cc := cX8_panoramaAt) (maxL := 10) (by decide) rfl (Nat.le_of_ble_eq_true rfl) ?_
  intro pM eM sM mM bM tM cM Q hx hb hts hown hml hP hK hret ls hl
  have hown : sM.vm.findClass RX8 = some mM.cls := hown
  have hl : lv_has ls 10 [(0, .ref h), (1, .int (nI X)), (2, .int (nI Y)), (3, .int z)] := hl
  have hin8 : ∀ w ∈ u_ws RX8 TX8 44, w ∈ wsX8_panoramaAt := by decide +kernel
  have f29 := hts (.fieldLink RX8 29 "HorizonPeaksModel" "seen" "[I") (by decide +kernel)
  have f102 := hts (.fieldLink RX8 102 "HorizonPeaksModel" "peaks" "I") (by decide +kernel)
  obtain ⟨hok, ⟨hv1, hv5, hv8⟩, har, hLP⟩ := hLM
  have hn10 := hok.1
  have hm8 := hok.2.1
  have hl3 := hok.2.2.1
  have hip : ∀ i, i < 64 → ip i = b2i (decide (cPk σ i = 0)) := fun i hh => (hLP i hh).1
  have hse : se (X * 8 + Y) = cVis σ pt := by rw [show X * 8 + Y = pt by omega]; exact (hLP pt hpt).2.1
  refine lv_aload_n hx hb dX8_panoramaAt_0 rfl (lv_at hl 0 rfl) ?_
  refine va_get (D := G.1) (ci := 8) (v := .ref (q 10)) (C := RX8) (T := TX8) (N := 44) hx hb hts hin8 hown hK.1 hP 0 rfl rfl 10 (by decide) f29 (fun _ h9 => h9) rfl dX8_panoramaAt_1 ?_
  refine lv_bipush (v := 8) hx hb dX8_panoramaAt_4 (by decide) ?_
  refine lv_iload_n hx hb dX8_panoramaAt_6 rfl (lv_at hl 1 rfl) ?_
  refine lv_imul hx hb dX8_panoramaAt_7 ?_
  refine lv_iload_n hx hb dX8_panoramaAt_8 rfl (lv_at hl 2 rfl) ?_
  refine lv_iadd hx hb dX8_panoramaAt_9 ?_
  refine top_i (y := nI (X * 8 + Y)) (mul8' X Y) ?_
  refine al_i hx hb hK.1 hP 3 0 rfl rfl (j := X * 8 + Y) (by omega) (Nat.le_of_ble_eq_true rfl) dX8_panoramaAt_10 ?_
  refine top_i (y := cVis σ pt) (hse) ?_
  refine lv_istore (lv' := [(4, .int (cVis σ pt)), (0, .ref h), (1, .int (nI X)), (2, .int (nI Y)), (3, .int z)]) hx hb dX8_panoramaAt_11 hl (by decide) rfl (fun ls hl => ?_)
  refine lv_iconst (v := 0) hx hb dX8_panoramaAt_13 (by decide) ?_
  refine lv_istore (lv' := [(5, .int 0), (4, .int (cVis σ pt)), (0, .ref h), (1, .int (nI X)), (2, .int (nI Y)), (3, .int z)]) hx hb dX8_panoramaAt_14 hl (by decide) rfl (fun ls hl => ?_)
  refine lv_bipush (v := -9) hx hb dX8_panoramaAt_16 (by decide) ?_
  refine lv_istore (lv' := [(6, .int (-9)), (5, .int 0), (4, .int (cVis σ pt)), (0, .ref h), (1, .int (nI X)), (2, .int (nI Y)), (3, .int z)]) hx hb dX8_panoramaAt_18 hl (by decide) rfl (fun ls hl => ?_)
  refine lv_iconst (v := 0) hx hb dX8_panoramaAt_20 (by decide) ?_
  refine lv_istore (lv' := [(7, .int 0), (6, .int (-9)), (5, .int 0), (4, .int (cVis σ pt)), (0, .ref h), (1, .int (nI X)), (2, .int (nI Y)), (3, .int z)]) hx hb dX8_panoramaAt_21 hl (by decide) rfl (fun ls hl => ?_)
  have loop_23 : ∀ (nF : Nat) (p : Nat) (cnt : Nat) (its : Int32), (zn σ - p) < nF → (p ≤ zn σ) → (fb_ct (cVi σ pt) p = cnt) → (pnQ (cVi σ pt) (gahead (cX σ) (cY σ) pt) (zn σ) p z its) → ∀ (ls : Array Slot), lv_has ls 10 [(7, .int (nI p)), (6, .int its), (5, .int (nI cnt)), (4, .int (cVis σ pt)), (0, .ref h), (1, .int (nI X)), (2, .int (nI Y)), (3, .int z)] → W pM l eM rX8_panoramaAt sM mM [.ref h, .int (nI X), .int (nI Y), .int z].toArray bM tM cM sM.heap [] 0 0 Q (F0 mM 23 ls []) := by
    intro nF
    induction nF with
    | zero => intro p cnt its hmF; exact absurd hmF (Nat.not_lt_zero _)
    | succ nF ih23 =>
      intro p cnt its hmF hpk hct hpn ls hl
      refine lv_iload hx hb dX8_panoramaAt_23 (lv_at hl 0 rfl) ?_
      refine lv_aload_n hx hb dX8_panoramaAt_25 rfl (lv_at hl 4 rfl) ?_
      refine va_get (D := G.1) (ci := 8) (v := .int (v 1)) (C := RX8) (T := TX8) (N := 44) hx hb hts hin8 hown hK.1 hP 0 rfl rfl 1 (by decide) f102 (fun _ h9 => h9) rfl dX8_panoramaAt_26 ?_
      refine top_i (y := nI (zn σ)) (hv1) ?_
      refine lv_icmp_ge (tgt := 129) hx hb dX8_panoramaAt_29 (by decide) (fun c_29 => ?_) (fun c_29 => ?_)
      · have c_29 : (zn σ) ≤ p := (c_le (a := zn σ) (b := p) rfl rfl (by omega) (by omega)).mp c_29
        refine lv_iload_n hx hb dX8_panoramaAt_129 rfl (lv_at hl 7 rfl) ?_
        refine lv_if_ge (tgt := 138) hx hb dX8_panoramaAt_130 (by decide) (fun c_130 => ?_) (fun c_130 => ?_)
        · refine lv_iload hx hb dX8_panoramaAt_138 (lv_at hl 1 rfl) ?_
          have hpost : (z < 0 → (its : Int32) = nI (fb_ct (cVi σ pt) (zn σ))) ∧ (¬ z < 0 → pnQ (cVi σ pt) (gahead (cX σ) (cY σ) pt) (zn σ) (zn σ) z (its : Int32)) := by
            have e : p = zn σ := by omega
            subst e
            exact ⟨fun h => absurd h (ge0 c_130), fun _ => hpn⟩
          exact hret _ _ _ (hpost) (rfl) dX8_panoramaAt_140
        · refine lv_iload hx hb dX8_panoramaAt_133 (lv_at hl 2 rfl) ?_
          refine lv_goto (tgt := 140) hx hb dX8_panoramaAt_135 (by decide) ?_
          have hpost : (z < 0 → (nI cnt : Int32) = nI (fb_ct (cVi σ pt) (zn σ))) ∧ (¬ z < 0 → pnQ (cVi σ pt) (gahead (cX σ) (cY σ) pt) (zn σ) (zn σ) z (nI cnt : Int32)) := by
            have e : p = zn σ := by omega
            subst e
            exact ⟨fun _ => by rw [hct], fun h => absurd (le_of_nlt h) c_130⟩
          exact hret _ _ _ (hpost) (rfl) dX8_panoramaAt_140
      · have c_29 : ¬ (zn σ) ≤ p := fun hne => c_29 ((c_le (a := zn σ) (b := p) rfl rfl (by omega) (by omega)).mpr hne)
        refine lv_iload hx hb dX8_panoramaAt_32 (lv_at hl 3 rfl) ?_
        refine lv_iload hx hb dX8_panoramaAt_34 (lv_at hl 0 rfl) ?_
        refine lv_ishr hx hb dX8_panoramaAt_36 ?_
        refine lv_iconst (v := 1) hx hb dX8_panoramaAt_37 (by decide) ?_
        refine lv_iand hx hb dX8_panoramaAt_38 ?_
        refine top_i (y := b2i (cVi σ pt p)) (by rw [sr_bt1 (by omega), bt_vis hok hc (by omega)]) ?_
        refine lv_iconst (v := 1) hx hb dX8_panoramaAt_39 (by decide) ?_
        refine lv_icmp_ne (tgt := 123) hx hb dX8_panoramaAt_40 (by decide) (fun c_40 => ?_) (fun c_40 => ?_)
        · have c_40 : cVi σ pt p = false := b2i_n1.mp c_40
          refine lv_iinc (v := nI (p + 1)) (lv' := [(7, .int (nI (p + 1))), (6, .int its), (5, .int (nI cnt)), (4, .int (cVis σ pt)), (0, .ref h), (1, .int (nI X)), (2, .int (nI Y)), (3, .int z)]) hx hb dX8_panoramaAt_123 hl (k := 0) rfl (inc_nI _ 1) (by decide) rfl (fun ls hl => ?_)
          refine lv_goto (tgt := 23) hx hb dX8_panoramaAt_126 (by decide) ?_
          exact ih23 (p + 1) cnt its (by omega) (by omega) (by rw [fb_ct_succ, c_40, hct]; rfl) (pnQ_skip hpn (fun e => absurd e (ne_t c_40))) _ (lv_sub hl [0, 1, 2, 3, 4, 5, 6, 7] rfl)
        · have c_40 : cVi σ pt p = true := b2i_1.mp c_40
          refine lv_iconst (v := 0) hx hb dX8_panoramaAt_43 (by decide) ?_
          refine lv_istore (lv' := [(8, .int 0), (7, .int (nI p)), (6, .int its), (5, .int (nI cnt)), (4, .int (cVis σ pt)), (0, .ref h), (1, .int (nI X)), (2, .int (nI Y)), (3, .int z)]) hx hb dX8_panoramaAt_44 hl (by decide) rfl (fun ls hl => ?_)
          refine lv_iconst (v := 0) hx hb dX8_panoramaAt_46 (by decide) ?_
          refine lv_istore (lv' := [(9, .int 0), (8, .int 0), (7, .int (nI p)), (6, .int its), (5, .int (nI cnt)), (4, .int (cVis σ pt)), (0, .ref h), (1, .int (nI X)), (2, .int (nI Y)), (3, .int z)]) hx hb dX8_panoramaAt_47 hl (by decide) rfl (fun ls hl => ?_)
          have loop_49 : ∀ (nF : Nat) (q2 : Nat) (ah : Nat), (zn σ - q2) < nF → (q2 ≤ zn σ) → (ah = fb_ct (fun q => !decide (q = p) && (cVi σ pt q && gahead (cX σ) (cY σ) pt q p)) q2) → ∀ (ls : Array Slot), lv_has ls 10 [(9, .int (nI q2)), (8, .int (nI ah)), (7, .int (nI p)), (6, .int its), (5, .int (nI cnt)), (4, .int (cVis σ pt)), (0, .ref h), (1, .int (nI X)), (2, .int (nI Y)), (3, .int z)] → W pM l eM rX8_panoramaAt sM mM [.ref h, .int (nI X), .int (nI Y), .int z].toArray bM tM cM sM.heap [] 0 0 Q (F0 mM 49 ls []) := by
            intro nF
            induction nF with
            | zero => intro q2 ah hmF; exact absurd hmF (Nat.not_lt_zero _)
            | succ nF ih49 =>
              intro q2 ah hmF hq2 hah ls hl
              refine lv_iload hx hb dX8_panoramaAt_49 (lv_at hl 0 rfl) ?_
              refine lv_aload_n hx hb dX8_panoramaAt_51 rfl (lv_at hl 6 rfl) ?_
              refine va_get (D := G.1) (ci := 8) (v := .int (v 1)) (C := RX8) (T := TX8) (N := 44) hx hb hts hin8 hown hK.1 hP 0 rfl rfl 1 (by decide) f102 (fun _ h9 => h9) rfl dX8_panoramaAt_52 ?_
              refine top_i (y := nI (zn σ)) (hv1) ?_
              refine lv_icmp_ge (tgt := 105) hx hb dX8_panoramaAt_55 (by decide) (fun c_55 => ?_) (fun c_55 => ?_)
              · have c_55 : (zn σ) ≤ q2 := (c_le (a := zn σ) (b := q2) rfl rfl (by omega) (by omega)).mp c_55
                refine lv_iload hx hb dX8_panoramaAt_105 (lv_at hl 1 rfl) ?_
                refine lv_iload_n hx hb dX8_panoramaAt_107 rfl (lv_at hl 9 rfl) ?_
                refine lv_icmp_ne (tgt := 116) hx hb dX8_panoramaAt_108 (by decide) (fun c_108 => ?_) (fun c_108 => ?_)
                · refine lv_iload hx hb dX8_panoramaAt_116 (lv_at hl 3 rfl) ?_
                  refine lv_istore (lv' := [(6, .int its), (9, .int (nI q2)), (8, .int (nI ah)), (7, .int (nI p)), (5, .int (nI cnt)), (4, .int (cVis σ pt)), (0, .ref h), (1, .int (nI X)), (2, .int (nI Y)), (3, .int z)]) hx hb dX8_panoramaAt_118 hl (by decide) rfl (fun ls hl => ?_)
                  refine lv_iinc (v := nI (cnt + 1)) (lv' := [(5, .int (nI (cnt + 1))), (6, .int its), (9, .int (nI q2)), (8, .int (nI ah)), (7, .int (nI p)), (4, .int (cVis σ pt)), (0, .ref h), (1, .int (nI X)), (2, .int (nI Y)), (3, .int z)]) hx hb dX8_panoramaAt_120 hl (k := 4) rfl (inc_nI _ 1) (by decide) rfl (fun ls hl => ?_)
                  refine lv_iinc (v := nI (p + 1)) (lv' := [(7, .int (nI (p + 1))), (5, .int (nI (cnt + 1))), (6, .int its), (9, .int (nI q2)), (8, .int (nI ah)), (4, .int (cVis σ pt)), (0, .ref h), (1, .int (nI X)), (2, .int (nI Y)), (3, .int z)]) hx hb dX8_panoramaAt_123 hl (k := 4) rfl (inc_nI _ 1) (by decide) rfl (fun ls hl => ?_)
                  refine lv_goto (tgt := 23) hx hb dX8_panoramaAt_126 (by decide) ?_
                  exact ih23 (p + 1) (cnt + 1) its (by omega) (by omega) (by rw [fb_ct_succ, c_40, hct]; rfl) (pnQ_skip hpn (fun _ e => c_108 (by rw [← e, hah]; exact congrArg nI (by rw [show q2 = zn σ by omega]; rfl)))) _ (lv_sub hl [0, 2, 1, 5, 6, 7, 8, 9] rfl)
                · refine lv_iload hx hb dX8_panoramaAt_111 (lv_at hl 2 rfl) ?_
                  refine lv_goto (tgt := 118) hx hb dX8_panoramaAt_113 (by decide) ?_
                  refine lv_istore (lv' := [(6, .int (nI p)), (9, .int (nI q2)), (8, .int (nI ah)), (7, .int (nI p)), (5, .int (nI cnt)), (4, .int (cVis σ pt)), (0, .ref h), (1, .int (nI X)), (2, .int (nI Y)), (3, .int z)]) hx hb dX8_panoramaAt_118 hl (by decide) rfl (fun ls hl => ?_)
                  refine lv_iinc (v := nI (cnt + 1)) (lv' := [(5, .int (nI (cnt + 1))), (6, .int (nI p)), (9, .int (nI q2)), (8, .int (nI ah)), (7, .int (nI p)), (4, .int (cVis σ pt)), (0, .ref h), (1, .int (nI X)), (2, .int (nI Y)), (3, .int z)]) hx hb dX8_panoramaAt_120 hl (k := 4) rfl (inc_nI _ 1) (by decide) rfl (fun ls hl => ?_)
                  refine lv_iinc (v := nI (p + 1)) (lv' := [(7, .int (nI (p + 1))), (5, .int (nI (cnt + 1))), (6, .int (nI p)), (9, .int (nI q2)), (8, .int (nI ah)), (4, .int (cVis σ pt)), (0, .ref h), (1, .int (nI X)), (2, .int (nI Y)), (3, .int z)]) hx hb dX8_panoramaAt_123 hl (k := 4) rfl (inc_nI _ 1) (by decide) rfl (fun ls hl => ?_)
                  refine lv_goto (tgt := 23) hx hb dX8_panoramaAt_126 (by decide) ?_
                  exact ih23 (p + 1) (cnt + 1) (nI p) (by omega) (by omega) (by rw [fb_ct_succ, c_40, hct]; rfl) (Or.inr ⟨p, by omega, c_40, by rw [← c_108, hah]; exact congrArg nI (by rw [show q2 = zn σ by omega]; rfl), rfl⟩) _ (lv_sub hl [0, 2, 1, 5, 6, 7, 8, 9] rfl)
              · have c_55 : ¬ (zn σ) ≤ q2 := fun hne => c_55 ((c_le (a := zn σ) (b := q2) rfl rfl (by omega) (by omega)).mpr hne)
                refine lv_iload hx hb dX8_panoramaAt_58 (lv_at hl 1 rfl) ?_
                refine lv_iload hx hb dX8_panoramaAt_60 (lv_at hl 0 rfl) ?_
                refine lv_iload hx hb dX8_panoramaAt_62 (lv_at hl 2 rfl) ?_
                refine lv_icmp_eq (tgt := 95) hx hb dX8_panoramaAt_64 (by decide) (fun c_64 => ?_) (fun c_64 => ?_)
                · have c_64 : q2 = p := (c_eq (a := q2) (b := p) rfl rfl (by omega) (by omega)).mp c_64
                  refine lv_iconst (v := 0) hx hb dX8_panoramaAt_95 (by decide) ?_
                  refine lv_iadd hx hb dX8_panoramaAt_96 ?_
                  refine top_i (y := nI ah) (Int32.add_zero _) ?_
                  refine lv_istore (lv' := [(8, .int (nI ah)), (9, .int (nI q2)), (7, .int (nI p)), (6, .int its), (5, .int (nI cnt)), (4, .int (cVis σ pt)), (0, .ref h), (1, .int (nI X)), (2, .int (nI Y)), (3, .int z)]) hx hb dX8_panoramaAt_97 hl (by decide) rfl (fun ls hl => ?_)
                  refine lv_iinc (v := nI (q2 + 1)) (lv' := [(9, .int (nI (q2 + 1))), (8, .int (nI ah)), (7, .int (nI p)), (6, .int its), (5, .int (nI cnt)), (4, .int (cVis σ pt)), (0, .ref h), (1, .int (nI X)), (2, .int (nI Y)), (3, .int z)]) hx hb dX8_panoramaAt_99 hl (k := 1) rfl (inc_nI _ 1) (by decide) rfl (fun ls hl => ?_)
                  refine lv_goto (tgt := 49) hx hb dX8_panoramaAt_102 (by decide) ?_
                  exact ih49 (q2 + 1) ah (by omega) (by omega) (by rw [fb_ct_succ, ← hah, decide_eq_true c_64]; rfl) _ (lv_sub hl [0, 1, 2, 3, 4, 5, 6, 7, 8, 9] rfl)
                · have c_64 : ¬ q2 = p := fun hne => c_64 ((c_eq (a := q2) (b := p) rfl rfl (by omega) (by omega)).mpr hne)
                  refine lv_iload hx hb dX8_panoramaAt_67 (lv_at hl 5 rfl) ?_
                  refine lv_iload hx hb dX8_panoramaAt_69 (lv_at hl 0 rfl) ?_
                  refine lv_ishr hx hb dX8_panoramaAt_71 ?_
                  refine lv_iconst (v := 1) hx hb dX8_panoramaAt_72 (by decide) ?_
                  refine lv_iand hx hb dX8_panoramaAt_73 ?_
                  refine top_i (y := b2i (cVi σ pt q2)) (by rw [sr_bt1 (by omega), bt_vis hok hc (by omega)]) ?_
                  refine lv_iconst (v := 1) hx hb dX8_panoramaAt_74 (by decide) ?_
                  refine lv_icmp_ne (tgt := 95) hx hb dX8_panoramaAt_75 (by decide) (fun c_75 => ?_) (fun c_75 => ?_)
                  · have c_75 : cVi σ pt q2 = false := b2i_n1.mp c_75
                    refine lv_iconst (v := 0) hx hb dX8_panoramaAt_95 (by decide) ?_
                    refine lv_iadd hx hb dX8_panoramaAt_96 ?_
                    refine top_i (y := nI ah) (Int32.add_zero _) ?_
                    refine lv_istore (lv' := [(8, .int (nI ah)), (9, .int (nI q2)), (7, .int (nI p)), (6, .int its), (5, .int (nI cnt)), (4, .int (cVis σ pt)), (0, .ref h), (1, .int (nI X)), (2, .int (nI Y)), (3, .int z)]) hx hb dX8_panoramaAt_97 hl (by decide) rfl (fun ls hl => ?_)
                    refine lv_iinc (v := nI (q2 + 1)) (lv' := [(9, .int (nI (q2 + 1))), (8, .int (nI ah)), (7, .int (nI p)), (6, .int its), (5, .int (nI cnt)), (4, .int (cVis σ pt)), (0, .ref h), (1, .int (nI X)), (2, .int (nI Y)), (3, .int z)]) hx hb dX8_panoramaAt_99 hl (k := 1) rfl (inc_nI _ 1) (by decide) rfl (fun ls hl => ?_)
                    refine lv_goto (tgt := 49) hx hb dX8_panoramaAt_102 (by decide) ?_
                    exact ih49 (q2 + 1) ah (by omega) (by omega) (by rw [fb_ct_succ, ← hah, decide_eq_false c_64, c_75]; rfl) _ (lv_sub hl [0, 1, 2, 3, 4, 5, 6, 7, 8, 9] rfl)
                  · have c_75 : cVi σ pt q2 = true := b2i_1.mp c_75
                    refine lv_aload_n hx hb dX8_panoramaAt_78 rfl (lv_at hl 6 rfl) ?_
                    refine lv_iload_n hx hb dX8_panoramaAt_79 rfl (lv_at hl 7 rfl) ?_
                    refine lv_iload_n hx hb dX8_panoramaAt_80 rfl (lv_at hl 8 rfl) ?_
                    refine lv_iload hx hb dX8_panoramaAt_81 (lv_at hl 0 rfl) ?_
                    refine lv_iload hx hb dX8_panoramaAt_83 (lv_at hl 2 rfl) ?_
                    refine rd_i (va_runV (As := [.int (nI X), .int (nI Y), .int (nI q2), .int (nI p)]) (rest := [.int (nI ah)]) ⟨hx, hb, hml, hown, hts⟩ (c_X8_isAhead l G h v q px py hi la lb σ X Y pt q2 p (eX) (eY) (hpt) (hok) (har) (hc) (by omega) (by omega)) (cwV 4 hts gX8_panoramaAt_X8_isAhead rfl rfl rfl (by decide +kernel) ⟨Nat.le_of_ble_eq_true rfl, Nat.le_of_ble_eq_true rfl⟩) (rPre_V hK hP [0, 1, 2] rfl 0 8 rfl rfl) rfl rfl hl.1 rfl (lv_room (Nat.le_of_ble_eq_true rfl)) dX8_panoramaAt_85 ⟨Nat.zero_le _, Nat.zero_le _⟩) (fun r_85 q_85 => ?_)
                    obtain rfl : r_85 = b2i (gahead (cX σ) (cY σ) pt q2 p) := q_85
                    refine lv_if_eq (tgt := 95) hx hb dX8_panoramaAt_88 (by decide) (fun c_88 => ?_) (fun c_88 => ?_)
                    · have c_88 : (gahead (cX σ) (cY σ) pt q2 p) = false := b2i_0.mp c_88
                      refine lv_iconst (v := 0) hx hb dX8_panoramaAt_95 (by decide) ?_
                      refine lv_iadd hx hb dX8_panoramaAt_96 ?_
                      refine top_i (y := nI ah) (Int32.add_zero _) ?_
                      refine lv_istore (lv' := [(8, .int (nI ah)), (9, .int (nI q2)), (7, .int (nI p)), (6, .int its), (5, .int (nI cnt)), (4, .int (cVis σ pt)), (0, .ref h), (1, .int (nI X)), (2, .int (nI Y)), (3, .int z)]) hx hb dX8_panoramaAt_97 hl (by decide) rfl (fun ls hl => ?_)
                      refine lv_iinc (v := nI (q2 + 1)) (lv' := [(9, .int (nI (q2 + 1))), (8, .int (nI ah)), (7, .int (nI p)), (6, .int its), (5, .int (nI cnt)), (4, .int (cVis σ pt)), (0, .ref h), (1, .int (nI X)), (2, .int (nI Y)), (3, .int z)]) hx hb dX8_panoramaAt_99 hl (k := 1) rfl (inc_nI _ 1) (by decide) rfl (fun ls hl => ?_)
                      refine lv_goto (tgt := 49) hx hb dX8_panoramaAt_102 (by decide) ?_
                      exact ih49 (q2 + 1) ah (by omega) (by omega) (by rw [fb_ct_succ, ← hah, decide_eq_false c_64, c_75, c_88]; rfl) _ (lv_sub hl [0, 1, 2, 3, 4, 5, 6, 7, 8, 9] rfl)
                    · have c_88 : (gahead (cX σ) (cY σ) pt q2 p) = true := b2i_n0.mp c_88
                      refine lv_iconst (v := 1) hx hb dX8_panoramaAt_91 (by decide) ?_
                      refine lv_goto (tgt := 96) hx hb dX8_panoramaAt_92 (by decide) ?_
                      refine lv_iadd hx hb dX8_panoramaAt_96 ?_
                      refine top_i (y := nI (ah + 1)) (nI_1 ah) ?_
                      refine lv_istore (lv' := [(8, .int (nI (ah + 1))), (9, .int (nI q2)), (7, .int (nI p)), (6, .int its), (5, .int (nI cnt)), (4, .int (cVis σ pt)), (0, .ref h), (1, .int (nI X)), (2, .int (nI Y)), (3, .int z)]) hx hb dX8_panoramaAt_97 hl (by decide) rfl (fun ls hl => ?_)
                      refine lv_iinc (v := nI (q2 + 1)) (lv' := [(9, .int (nI (q2 + 1))), (8, .int (nI (ah + 1))), (7, .int (nI p)), (6, .int its), (5, .int (nI cnt)), (4, .int (cVis σ pt)), (0, .ref h), (1, .int (nI X)), (2, .int (nI Y)), (3, .int z)]) hx hb dX8_panoramaAt_99 hl (k := 1) rfl (inc_nI _ 1) (by decide) rfl (fun ls hl => ?_)
                      refine lv_goto (tgt := 49) hx hb dX8_panoramaAt_102 (by decide) ?_
                      exact ih49 (q2 + 1) (ah + 1) (by omega) (by omega) (by rw [fb_ct_succ, ← hah, decide_eq_false c_64, c_75, c_88]; rfl) _ (lv_sub hl [0, 1, 2, 3, 4, 5, 6, 7, 8, 9] rfl)
          exact loop_49 _ 0 0 (Nat.lt_succ_self _) (Nat.zero_le _) (rfl) _ (lv_sub hl [0, 1, 2, 3, 4, 5, 6, 7, 8, 9] rfl)
  exact loop_23 _ 0 0 (-9) (Nat.lt_succ_self _) (Nat.zero_le _) (rfl) (Or.inl ⟨rfl, fun j hj => absurd hj (Nat.not_lt_zero j)⟩) _ (lv_sub hl [0, 1, 2, 3, 4, 5, 6, 7] rfl)
