def mhid (dx dy ex ey hq hp : Int32) : Bool := decide (dx * ey - dy * ex = 0) && (!decide (dx * ex + dy * ey ≤ 0) && (!decide (mway dx dy ≤ mway ex ey) && !decide (hq * mway dx dy < hp * mway ex ey)))
theorem mhid_is (px py hi : Nat → Int32) (pt p q : Nat) : mhid (gx px pt p) (gy py pt p) (gx px pt q) (gy py pt q) (hi q) (hi p) = gpeak px py hi pt p q := by
  unfold mhid gpeak gsame gturn gway
  rw [mway_is, mway_is]
  cases decide (gx px pt p * gy py pt q - gy py pt p * gx px pt q = 0) <;> cases decide (gx px pt p * gx px pt q + gy py pt p * gy py pt q ≤ 0) <;> simp
theorem gridge_0 {px py hi : Nat → Int32} {pt p a b : Nat} (h : gall px py pt p a b = 0) : gridge px py hi pt p a b = false := by
  rw [gridge, h, if_pos (by decide), gridge0]
  by_cases c : gfar px py pt a b ≤ 0
  · simp [c]
  · have : (0 : Int32) ≤ gfar px py pt a b := by
      rw [Int32.le_iff_toInt_le] at c ⊢
      have h0 : (0 : Int32).toInt = 0 := by decide
      omega
    simp [this]
theorem m1_mul (x : Int32) : (-1) * x = -x := by rw [Int32.neg_mul, Int32.one_mul]
theorem mul_m1 (x : Int32) : x * (-1) = -x := by rw [Int32.mul_comm, m1_mul]
def LPl (σ : PS) (k : Nat) (ip se be he : Nat → Int32) : Prop := ip k = b2i (decide (cPk σ k = 0)) ∧ se k = cVis σ k ∧ (cPk σ k = 0 → ∀ p, p < zn σ → be (10 * k + p) = nI (cBe σ k p) ∧ he (10 * k + p) = nI (cHg σ k p))
def LM (σ : PS) (v px py hi ra rb ip se be he : Nat → Int32) : Prop := okPS σ ∧ (v 1 = nI (zn σ) ∧ v 5 = nI (zm σ) ∧ v 8 = nI (zl σ)) ∧ arM σ px py hi ra rb ∧ ∀ k, k < 64 → LPl σ k ip se be he
theorem mul10' (j k : Nat) : 10 * nI j + nI k = nI (10 * j + k) := by rw [show (10 : Int32) = nI 10 from rfl, pk_mul, nI_add]
abbrev rX8_begins : Room := { frames := 0, cells := 0, slots := 0, locals := 0 }
set_option maxHeartbeats 4000000 in
set_option maxRecDepth 100000 in
theorem c_X8_begins (l : Launch) (G : kG) (h : Nat) (v : Nat → Int32) (q : Nat → Nat) : Cv l G yX8_begins wsX8_begins rX8_begins [.ref h] [oB h 8 (oF8 v q)] (fun (u : Unit) => True) (fun u => [oB h 8 (oF8 (upd (upd (upd v 28 0) 32 0) 35 1) q)]) 0 0 := by
  refine Cv.of (cc := cX8_begins) (maxL := 1) (by decide) rfl (Nat.le_of_ble_eq_true rfl) ?_
  intro pM eM sM mM bM tM cM Q A hx hb hts hown hml hnm hA hK hP hD hS hret ls hl
  have hown : sM.vm.findClass RX8 = some mM.cls := hown
  have hl : lv_has ls 1 [(0, .ref h)] := hl
  have hin8 : ∀ w ∈ u_ws RX8 TX8 44, w ∈ wsX8_begins := by decide +kernel
  have f131 := hts (.fieldLink RX8 131 "HorizonPeaksModel" "readPeaks" "I") (by decide +kernel)
  have f138 := hts (.fieldLink RX8 138 "HorizonPeaksModel" "readRidges" "I") (by decide +kernel)
  have f148 := hts (.fieldLink RX8 148 "HorizonPeaksModel" "readSlack" "I") (by decide +kernel)
  refine lv_aload_n hx hb dX8_begins_0 rfl (lv_at hl 0 rfl) ?_
  refine lv_iconst (v := 0) hx hb dX8_begins_1 (by decide) ?_
  refine va_put (D := G.1) (ci := 8) (v := .int 0) (ty := .int) (C := RX8) (T := TX8) (N := 44) hx hb hts hin8 tyX8 tyX8_ok nmX8 hown hK.1 hP hD hS 0 rfl rfl 28 (by decide) f131 (fun _ h9 => h9) rfl (by decide +kernel) rfl rfl (Nat.le_of_ble_eq_true rfl) dX8_begins_2 (fun H locs hP hD hS => ?_)
  have hP : va_P G.1 vwCl [oB h 8 (oF8 (upd v 28 0) q)] H := hP
  have hD : va_D A [oB h 8 (oF8 (upd v 28 0) q)] := hD
  refine lv_aload_n hx hb dX8_begins_5 rfl (lv_at hl 0 rfl) ?_
  refine lv_iconst (v := 0) hx hb dX8_begins_6 (by decide) ?_
  refine va_put (D := G.1) (ci := 8) (v := .int 0) (ty := .int) (C := RX8) (T := TX8) (N := 44) hx hb hts hin8 tyX8 tyX8_ok nmX8 hown hK.1 hP hD hS 0 rfl rfl 32 (by decide) f138 (fun _ h9 => h9) rfl (by decide +kernel) rfl rfl (Nat.le_of_ble_eq_true rfl) dX8_begins_7 (fun H locs hP hD hS => ?_)
  have hP : va_P G.1 vwCl [oB h 8 (oF8 (upd (upd v 28 0) 32 0) q)] H := hP
  have hD : va_D A [oB h 8 (oF8 (upd (upd v 28 0) 32 0) q)] := hD
  refine lv_aload_n hx hb dX8_begins_10 rfl (lv_at hl 0 rfl) ?_
  refine lv_iconst (v := 1) hx hb dX8_begins_11 (by decide) ?_
  refine va_put (D := G.1) (ci := 8) (v := .int 1) (ty := .int) (C := RX8) (T := TX8) (N := 44) hx hb hts hin8 tyX8 tyX8_ok nmX8 hown hK.1 hP hD hS 0 rfl rfl 35 (by decide) f148 (fun _ h9 => h9) rfl (by decide +kernel) rfl rfl (Nat.le_of_ble_eq_true rfl) dX8_begins_12 (fun H locs hP hD hS => ?_)
  have hP : va_P G.1 vwCl [oB h 8 (oF8 (upd (upd (upd v 28 0) 32 0) 35 1) q)] H := hP
  have hD : va_D A [oB h 8 (oF8 (upd (upd (upd v 28 0) 32 0) 35 1) q)] := hD
  exact hret () _ _ _ _ (trivial) hP hD hS dX8_begins_15

abbrev rX8_hides : Room := { frames := 2, cells := 0, slots := 0, locals := 41 }
set_option maxHeartbeats 4000000 in
set_option maxRecDepth 100000 in
theorem c_X8_hides (l : Launch) (G : kG) (h : Nat) (v : Nat → Int32) (q : Nat → Nat) (px : Nat → Int32) (py : Nat → Int32) (hi : Nat → Int32) (pt : Nat) (p : Nat) (q0 : Nat) (hpt : pt < 64) (hp : p < 10) (hq0 : q0 < 10) : Ri l G yX8_hides wsX8_hides rX8_hides [.ref h, .int (nI (pt / 8)), .int (nI (pt % 8)), .int (nI q0), .int (nI p)] [oB h 8 (oF8 v q), aI G (q 2) 10 px, aI G (q 3) 10 py, aI G (q 4) 10 hi] (fun r => r = b2i (gpeak px py hi pt p q0)) := by
  refine Ri.of (cc := cX8_hides) (maxL := 10) (by decide) rfl (Nat.le_of_ble_eq_true rfl) ?_
  intro pM eM sM mM bM tM cM Q hx hb hts hown hml hP hK hret ls hl
  have hown : sM.vm.findClass RX8 = some mM.cls := hown
  have hl : lv_has ls 10 [(0, .ref h), (1, .int (nI (pt / 8))), (2, .int (nI (pt % 8))), (3, .int (nI q0)), (4, .int (nI p))] := hl
  have hin8 : ∀ w ∈ u_ws RX8 TX8 44, w ∈ wsX8_hides := by decide +kernel
  have f7 := hts (.fieldLink RX8 7 "HorizonPeaksModel" "px" "[I") (by decide +kernel)
  have f13 := hts (.fieldLink RX8 13 "HorizonPeaksModel" "py" "[I") (by decide +kernel)
  have f16 := hts (.fieldLink RX8 16 "HorizonPeaksModel" "high" "[I") (by decide +kernel)
  refine lv_aload_n hx hb dX8_hides_0 rfl (lv_at hl 0 rfl) ?_
  refine va_get (D := G.1) (ci := 8) (v := .ref (q 2)) (C := RX8) (T := TX8) (N := 44) hx hb hts hin8 hown hK.1 hP 0 rfl rfl 2 (by decide) f7 (fun _ h9 => h9) rfl dX8_hides_1 ?_
  refine lv_iload hx hb dX8_hides_4 (lv_at hl 4 rfl) ?_
  refine al_i hx hb hK.1 hP 1 0 rfl rfl (j := p) (by omega) (Nat.le_of_ble_eq_true rfl) dX8_hides_6 ?_
  refine lv_iload_n hx hb dX8_hides_7 rfl (lv_at hl 1 rfl) ?_
  refine lv_isub hx hb dX8_hides_8 ?_
  refine top_i (y := gx px pt p) (rfl) ?_
  refine lv_istore (lv' := [(5, .int (gx px pt p)), (0, .ref h), (1, .int (nI (pt / 8))), (2, .int (nI (pt % 8))), (3, .int (nI q0)), (4, .int (nI p))]) hx hb dX8_hides_9 hl (by decide) rfl (fun ls hl => ?_)
  refine lv_aload_n hx hb dX8_hides_11 rfl (lv_at hl 1 rfl) ?_
  refine va_get (D := G.1) (ci := 8) (v := .ref (q 3)) (C := RX8) (T := TX8) (N := 44) hx hb hts hin8 hown hK.1 hP 0 rfl rfl 3 (by decide) f13 (fun _ h9 => h9) rfl dX8_hides_12 ?_
  refine lv_iload hx hb dX8_hides_15 (lv_at hl 5 rfl) ?_
  refine al_i hx hb hK.1 hP 2 0 rfl rfl (j := p) (by omega) (Nat.le_of_ble_eq_true rfl) dX8_hides_17 ?_
  refine lv_iload_n hx hb dX8_hides_18 rfl (lv_at hl 3 rfl) ?_
  refine lv_isub hx hb dX8_hides_19 ?_
  refine top_i (y := gy py pt p) (rfl) ?_
  refine lv_istore (lv' := [(6, .int (gy py pt p)), (5, .int (gx px pt p)), (0, .ref h), (1, .int (nI (pt / 8))), (2, .int (nI (pt % 8))), (3, .int (nI q0)), (4, .int (nI p))]) hx hb dX8_hides_20 hl (by decide) rfl (fun ls hl => ?_)
  refine lv_aload_n hx hb dX8_hides_22 rfl (lv_at hl 2 rfl) ?_
  refine va_get (D := G.1) (ci := 8) (v := .ref (q 2)) (C := RX8) (T := TX8) (N := 44) hx hb hts hin8 hown hK.1 hP 0 rfl rfl 2 (by decide) f7 (fun _ h9 => h9) rfl dX8_hides_23 ?_
  refine lv_iload_n hx hb dX8_hides_26 rfl (lv_at hl 5 rfl) ?_
  refine al_i hx hb hK.1 hP 1 0 rfl rfl (j := q0) (by omega) (Nat.le_of_ble_eq_true rfl) dX8_hides_27 ?_
  refine lv_iload_n hx hb dX8_hides_28 rfl (lv_at hl 3 rfl) ?_
  refine lv_isub hx hb dX8_hides_29 ?_
  refine top_i (y := gx px pt q0) (rfl) ?_
  refine lv_istore (lv' := [(7, .int (gx px pt q0)), (6, .int (gy py pt p)), (5, .int (gx px pt p)), (0, .ref h), (1, .int (nI (pt / 8))), (2, .int (nI (pt % 8))), (3, .int (nI q0)), (4, .int (nI p))]) hx hb dX8_hides_30 hl (by decide) rfl (fun ls hl => ?_)
  refine lv_aload_n hx hb dX8_hides_32 rfl (lv_at hl 3 rfl) ?_
  refine va_get (D := G.1) (ci := 8) (v := .ref (q 3)) (C := RX8) (T := TX8) (N := 44) hx hb hts hin8 hown hK.1 hP 0 rfl rfl 3 (by decide) f13 (fun _ h9 => h9) rfl dX8_hides_33 ?_
  refine lv_iload_n hx hb dX8_hides_36 rfl (lv_at hl 6 rfl) ?_
  refine al_i hx hb hK.1 hP 2 0 rfl rfl (j := q0) (by omega) (Nat.le_of_ble_eq_true rfl) dX8_hides_37 ?_
  refine lv_iload_n hx hb dX8_hides_38 rfl (lv_at hl 5 rfl) ?_
  refine lv_isub hx hb dX8_hides_39 ?_
  refine top_i (y := gy py pt q0) (rfl) ?_
  refine lv_istore (lv' := [(8, .int (gy py pt q0)), (7, .int (gx px pt q0)), (6, .int (gy py pt p)), (5, .int (gx px pt p)), (0, .ref h), (1, .int (nI (pt / 8))), (2, .int (nI (pt % 8))), (3, .int (nI q0)), (4, .int (nI p))]) hx hb dX8_hides_40 hl (by decide) rfl (fun ls hl => ?_)
  refine lv_iload hx hb dX8_hides_42 (lv_at hl 3 rfl) ?_
  refine lv_iload hx hb dX8_hides_44 (lv_at hl 2 rfl) ?_
  refine lv_iload hx hb dX8_hides_46 (lv_at hl 1 rfl) ?_
  refine lv_iload hx hb dX8_hides_48 (lv_at hl 0 rfl) ?_
  refine rd_i (va_runS (As := [.int (gx px pt p), .int (gy py pt p), .int (gx px pt q0), .int (gy py pt q0)]) (rest := []) ⟨hx, hb, hml, hown, hts⟩ (c_X8_cross l G (gx px pt p) (gy py pt p) (gx px pt q0) (gy py pt q0)) (va_cwS 4 hts gX8_hides_X8_cross rfl rfl rfl (by decide +kernel) ⟨Nat.le_of_ble_eq_true rfl, Nat.le_of_ble_eq_true rfl⟩) (rPre_S hK hP [] rfl) rfl rfl hl.1 rfl (lv_room (Nat.le_of_ble_eq_true rfl)) dX8_hides_50 ⟨Nat.zero_le _, Nat.zero_le _⟩) (fun r_50 q_50 => ?_)
  obtain rfl : r_50 = (gx px pt p) * (gy py pt q0) - (gy py pt p) * (gx px pt q0) := q_50
  refine lv_if_ne (tgt := 91) hx hb dX8_hides_53 (by decide) (fun c_53 => ?_) (fun c_53 => ?_)
  · refine lv_iconst (v := 0) hx hb dX8_hides_91 (by decide) ?_
    refine lv_istore (lv' := [(9, .int 0), (8, .int (gy py pt q0)), (7, .int (gx px pt q0)), (6, .int (gy py pt p)), (5, .int (gx px pt p)), (0, .ref h), (1, .int (nI (pt / 8))), (2, .int (nI (pt % 8))), (3, .int (nI q0)), (4, .int (nI p))]) hx hb dX8_hides_92 hl (by decide) rfl (fun ls hl => ?_)
    refine lv_iload hx hb dX8_hides_94 (lv_at hl 0 rfl) ?_
    refine lv_if_eq (tgt := 135) hx hb dX8_hides_96 (by decide) (fun c_96 => ?_) (fun c_96 => ?_)
    · refine lv_iconst (v := 0) hx hb dX8_hides_135 (by decide) ?_
      exact hret _ _ _ (by rw [← mhid_is]; simp [b2i, mhid, c_53, c_96]) (rfl) dX8_hides_136
    · exfalso
      revert c_96
      decide
  · refine lv_iload hx hb dX8_hides_56 (lv_at hl 3 rfl) ?_
    refine lv_iload hx hb dX8_hides_58 (lv_at hl 1 rfl) ?_
    refine lv_imul hx hb dX8_hides_60 ?_
    refine lv_iload hx hb dX8_hides_61 (lv_at hl 2 rfl) ?_
    refine lv_iload hx hb dX8_hides_63 (lv_at hl 0 rfl) ?_
    refine lv_imul hx hb dX8_hides_65 ?_
    refine lv_iadd hx hb dX8_hides_66 ?_
    refine lv_if_le (tgt := 91) hx hb dX8_hides_67 (by decide) (fun c_67 => ?_) (fun c_67 => ?_)
    · refine lv_iconst (v := 0) hx hb dX8_hides_91 (by decide) ?_
      refine lv_istore (lv' := [(9, .int 0), (8, .int (gy py pt q0)), (7, .int (gx px pt q0)), (6, .int (gy py pt p)), (5, .int (gx px pt p)), (0, .ref h), (1, .int (nI (pt / 8))), (2, .int (nI (pt % 8))), (3, .int (nI q0)), (4, .int (nI p))]) hx hb dX8_hides_92 hl (by decide) rfl (fun ls hl => ?_)
      refine lv_iload hx hb dX8_hides_94 (lv_at hl 0 rfl) ?_
      refine lv_if_eq (tgt := 135) hx hb dX8_hides_96 (by decide) (fun c_96 => ?_) (fun c_96 => ?_)
      · refine lv_iconst (v := 0) hx hb dX8_hides_135 (by decide) ?_
        exact hret _ _ _ (by rw [← mhid_is]; simp [b2i, mhid, c_53, c_67, c_96]) (rfl) dX8_hides_136
      · exfalso
        revert c_96
        decide
    · refine lv_iload hx hb dX8_hides_70 (lv_at hl 1 rfl) ?_
      refine lv_iload hx hb dX8_hides_72 (lv_at hl 0 rfl) ?_
      refine rd_i (va_runS (As := [.int (gx px pt q0), .int (gy py pt q0)]) (rest := []) ⟨hx, hb, hml, hown, hts⟩ (c_X8_way l G (gx px pt q0) (gy py pt q0)) (va_cwS 2 hts gX8_hides_X8_way rfl rfl rfl (by decide +kernel) ⟨Nat.le_of_ble_eq_true rfl, Nat.le_of_ble_eq_true rfl⟩) (rPre_S hK hP [] rfl) rfl rfl hl.1 rfl (lv_room (Nat.le_of_ble_eq_true rfl)) dX8_hides_74 ⟨Nat.zero_le _, Nat.zero_le _⟩) (fun r_74 q_74 => ?_)
      obtain rfl : r_74 = mway (gx px pt q0) (gy py pt q0) := q_74
      refine lv_iload hx hb dX8_hides_77 (lv_at hl 3 rfl) ?_
      refine lv_iload hx hb dX8_hides_79 (lv_at hl 2 rfl) ?_
      refine rd_i (va_runS (As := [.int (gx px pt p), .int (gy py pt p)]) (rest := [.int (mway (gx px pt q0) (gy py pt q0))]) ⟨hx, hb, hml, hown, hts⟩ (c_X8_way l G (gx px pt p) (gy py pt p)) (va_cwS 2 hts gX8_hides_X8_way rfl rfl rfl (by decide +kernel) ⟨Nat.le_of_ble_eq_true rfl, Nat.le_of_ble_eq_true rfl⟩) (rPre_S hK hP [] rfl) rfl rfl hl.1 rfl (lv_room (Nat.le_of_ble_eq_true rfl)) dX8_hides_81 ⟨Nat.zero_le _, Nat.zero_le _⟩) (fun r_81 q_81 => ?_)
      obtain rfl : r_81 = mway (gx px pt p) (gy py pt p) := q_81
      refine lv_icmp_ge (tgt := 91) hx hb dX8_hides_84 (by decide) (fun c_84 => ?_) (fun c_84 => ?_)
      · refine lv_iconst (v := 0) hx hb dX8_hides_91 (by decide) ?_
        refine lv_istore (lv' := [(9, .int 0), (8, .int (gy py pt q0)), (7, .int (gx px pt q0)), (6, .int (gy py pt p)), (5, .int (gx px pt p)), (0, .ref h), (1, .int (nI (pt / 8))), (2, .int (nI (pt % 8))), (3, .int (nI q0)), (4, .int (nI p))]) hx hb dX8_hides_92 hl (by decide) rfl (fun ls hl => ?_)
        refine lv_iload hx hb dX8_hides_94 (lv_at hl 0 rfl) ?_
        refine lv_if_eq (tgt := 135) hx hb dX8_hides_96 (by decide) (fun c_96 => ?_) (fun c_96 => ?_)
        · refine lv_iconst (v := 0) hx hb dX8_hides_135 (by decide) ?_
          exact hret _ _ _ (by rw [← mhid_is]; simp [b2i, mhid, c_53, c_67, c_84, c_96]) (rfl) dX8_hides_136
        · exfalso
          revert c_96
          decide
      · refine lv_iconst (v := 1) hx hb dX8_hides_87 (by decide) ?_
        refine lv_goto (tgt := 92) hx hb dX8_hides_88 (by decide) ?_
        refine lv_istore (lv' := [(9, .int 1), (8, .int (gy py pt q0)), (7, .int (gx px pt q0)), (6, .int (gy py pt p)), (5, .int (gx px pt p)), (0, .ref h), (1, .int (nI (pt / 8))), (2, .int (nI (pt % 8))), (3, .int (nI q0)), (4, .int (nI p))]) hx hb dX8_hides_92 hl (by decide) rfl (fun ls hl => ?_)
        refine lv_iload hx hb dX8_hides_94 (lv_at hl 0 rfl) ?_
        refine lv_if_eq (tgt := 135) hx hb dX8_hides_96 (by decide) (fun c_96 => ?_) (fun c_96 => ?_)
        · exfalso
          revert c_96
          decide
        · refine lv_aload_n hx hb dX8_hides_99 rfl (lv_at hl 5 rfl) ?_
          refine va_get (D := G.1) (ci := 8) (v := .ref (q 4)) (C := RX8) (T := TX8) (N := 44) hx hb hts hin8 hown hK.1 hP 0 rfl rfl 4 (by decide) f16 (fun _ h9 => h9) rfl dX8_hides_100 ?_
          refine lv_iload_n hx hb dX8_hides_103 rfl (lv_at hl 8 rfl) ?_
          refine al_i hx hb hK.1 hP 3 0 rfl rfl (j := q0) (by omega) (Nat.le_of_ble_eq_true rfl) dX8_hides_104 ?_
          refine lv_iload hx hb dX8_hides_105 (lv_at hl 4 rfl) ?_
          refine lv_iload hx hb dX8_hides_107 (lv_at hl 3 rfl) ?_
          refine rd_i (va_runS (As := [.int (gx px pt p), .int (gy py pt p)]) (rest := [.int (hi q0)]) ⟨hx, hb, hml, hown, hts⟩ (c_X8_way l G (gx px pt p) (gy py pt p)) (va_cwS 2 hts gX8_hides_X8_way rfl rfl rfl (by decide +kernel) ⟨Nat.le_of_ble_eq_true rfl, Nat.le_of_ble_eq_true rfl⟩) (rPre_S hK hP [] rfl) rfl rfl hl.1 rfl (lv_room (Nat.le_of_ble_eq_true rfl)) dX8_hides_109 ⟨Nat.zero_le _, Nat.zero_le _⟩) (fun r_109 q_109 => ?_)
          obtain rfl : r_109 = mway (gx px pt p) (gy py pt p) := q_109
          refine lv_imul hx hb dX8_hides_112 ?_
          refine lv_aload_n hx hb dX8_hides_113 rfl (lv_at hl 5 rfl) ?_
          refine va_get (D := G.1) (ci := 8) (v := .ref (q 4)) (C := RX8) (T := TX8) (N := 44) hx hb hts hin8 hown hK.1 hP 0 rfl rfl 4 (by decide) f16 (fun _ h9 => h9) rfl dX8_hides_114 ?_
          refine lv_iload hx hb dX8_hides_117 (lv_at hl 9 rfl) ?_
          refine al_i hx hb hK.1 hP 3 0 rfl rfl (j := p) (by omega) (Nat.le_of_ble_eq_true rfl) dX8_hides_119 ?_
          refine lv_iload hx hb dX8_hides_120 (lv_at hl 2 rfl) ?_
          refine lv_iload hx hb dX8_hides_122 (lv_at hl 1 rfl) ?_
          refine rd_i (va_runS (As := [.int (gx px pt q0), .int (gy py pt q0)]) (rest := [.int (hi p), .int ((hi q0) * (mway (gx px pt p) (gy py pt p)))]) ⟨hx, hb, hml, hown, hts⟩ (c_X8_way l G (gx px pt q0) (gy py pt q0)) (va_cwS 2 hts gX8_hides_X8_way rfl rfl rfl (by decide +kernel) ⟨Nat.le_of_ble_eq_true rfl, Nat.le_of_ble_eq_true rfl⟩) (rPre_S hK hP [] rfl) rfl rfl hl.1 rfl (lv_room (Nat.le_of_ble_eq_true rfl)) dX8_hides_124 ⟨Nat.zero_le _, Nat.zero_le _⟩) (fun r_124 q_124 => ?_)
          obtain rfl : r_124 = mway (gx px pt q0) (gy py pt q0) := q_124
          refine lv_imul hx hb dX8_hides_127 ?_
          refine lv_icmp_lt (tgt := 135) hx hb dX8_hides_128 (by decide) (fun c_128 => ?_) (fun c_128 => ?_)
          · refine lv_iconst (v := 0) hx hb dX8_hides_135 (by decide) ?_
            exact hret _ _ _ (by rw [← mhid_is]; simp [b2i, mhid, c_53, c_67, c_84, c_96, c_128]) (rfl) dX8_hides_136
          · refine lv_iconst (v := 1) hx hb dX8_hides_131 (by decide) ?_
            refine lv_goto (tgt := 136) hx hb dX8_hides_132 (by decide) ?_
            exact hret _ _ _ (by rw [← mhid_is]; simp [b2i, mhid, c_53, c_67, c_84, c_96, c_128]) (rfl) dX8_hides_136

abbrev rX8_ridgeHides : Room := { frames := 1, cells := 0, slots := 0, locals := 23 }
set_option maxHeartbeats 4000000 in
set_option maxRecDepth 100000 in
theorem c_X8_ridgeHides (l : Launch) (G : kG) (h : Nat) (v : Nat → Int32) (q : Nat → Nat) (px : Nat → Int32) (py : Nat → Int32) (hi : Nat → Int32) (ra : Nat → Int32) (rb : Nat → Int32) (pt : Nat) (p : Nat) (r0 : Nat) (a : Nat) (b : Nat) (hpt : pt < 64) (hp : p < 10) (hr : r0 < 8) (hea : ra r0 = nI a) (heb : rb r0 = nI b) (ha10 : a < 10) (hb10 : b < 10) : Ri l G yX8_ridgeHides wsX8_ridgeHides rX8_ridgeHides [.ref h, .int (nI (pt / 8)), .int (nI (pt % 8)), .int (nI r0), .int (nI p)] [oB h 8 (oF8 v q), aI G (q 2) 10 px, aI G (q 3) 10 py, aI G (q 4) 10 hi, aI G (q 6) 8 ra, aI G (q 7) 8 rb] (fun r => r = b2i (gridge px py hi pt p a b)) := by
  refine Ri.of (cc := cX8_ridgeHides) (maxL := 15) (by decide) rfl (Nat.le_of_ble_eq_true rfl) ?_
  intro pM eM sM mM bM tM cM Q hx hb hts hown hml hP hK hret ls hl
  have hown : sM.vm.findClass RX8 = some mM.cls := hown
  have hl : lv_has ls 15 [(0, .ref h), (1, .int (nI (pt / 8))), (2, .int (nI (pt % 8))), (3, .int (nI r0)), (4, .int (nI p))] := hl
  have hin8 : ∀ w ∈ u_ws RX8 TX8 44, w ∈ wsX8_ridgeHides := by decide +kernel
  have f19 := hts (.fieldLink RX8 19 "HorizonPeaksModel" "ridgeA" "[I") (by decide +kernel)
  have f22 := hts (.fieldLink RX8 22 "HorizonPeaksModel" "ridgeB" "[I") (by decide +kernel)
  have f7 := hts (.fieldLink RX8 7 "HorizonPeaksModel" "px" "[I") (by decide +kernel)
  have f13 := hts (.fieldLink RX8 13 "HorizonPeaksModel" "py" "[I") (by decide +kernel)
  have f16 := hts (.fieldLink RX8 16 "HorizonPeaksModel" "high" "[I") (by decide +kernel)
  refine lv_aload_n hx hb dX8_ridgeHides_0 rfl (lv_at hl 0 rfl) ?_
  refine va_get (D := G.1) (ci := 8) (v := .ref (q 6)) (C := RX8) (T := TX8) (N := 44) hx hb hts hin8 hown hK.1 hP 0 rfl rfl 6 (by decide) f19 (fun _ h9 => h9) rfl dX8_ridgeHides_1 ?_
  refine lv_iload_n hx hb dX8_ridgeHides_4 rfl (lv_at hl 3 rfl) ?_
  refine al_i hx hb hK.1 hP 4 0 rfl rfl (j := r0) (by omega) (Nat.le_of_ble_eq_true rfl) dX8_ridgeHides_5 ?_
  refine top_i (y := nI a) (hea) ?_
  refine lv_istore (lv' := [(5, .int (nI a)), (0, .ref h), (1, .int (nI (pt / 8))), (2, .int (nI (pt % 8))), (3, .int (nI r0)), (4, .int (nI p))]) hx hb dX8_ridgeHides_6 hl (by decide) rfl (fun ls hl => ?_)
  refine lv_aload_n hx hb dX8_ridgeHides_8 rfl (lv_at hl 1 rfl) ?_
  refine va_get (D := G.1) (ci := 8) (v := .ref (q 7)) (C := RX8) (T := TX8) (N := 44) hx hb hts hin8 hown hK.1 hP 0 rfl rfl 7 (by decide) f22 (fun _ h9 => h9) rfl dX8_ridgeHides_9 ?_
  refine lv_iload_n hx hb dX8_ridgeHides_12 rfl (lv_at hl 4 rfl) ?_
  refine al_i hx hb hK.1 hP 5 0 rfl rfl (j := r0) (by omega) (Nat.le_of_ble_eq_true rfl) dX8_ridgeHides_13 ?_
  refine top_i (y := nI b) (heb) ?_
  refine lv_istore (lv' := [(6, .int (nI b)), (5, .int (nI a)), (0, .ref h), (1, .int (nI (pt / 8))), (2, .int (nI (pt % 8))), (3, .int (nI r0)), (4, .int (nI p))]) hx hb dX8_ridgeHides_14 hl (by decide) rfl (fun ls hl => ?_)
  refine lv_aload_n hx hb dX8_ridgeHides_16 rfl (lv_at hl 2 rfl) ?_
  refine va_get (D := G.1) (ci := 8) (v := .ref (q 2)) (C := RX8) (T := TX8) (N := 44) hx hb hts hin8 hown hK.1 hP 0 rfl rfl 2 (by decide) f7 (fun _ h9 => h9) rfl dX8_ridgeHides_17 ?_
  refine lv_iload hx hb dX8_ridgeHides_20 (lv_at hl 6 rfl) ?_
  refine al_i hx hb hK.1 hP 1 0 rfl rfl (j := p) (by omega) (Nat.le_of_ble_eq_true rfl) dX8_ridgeHides_22 ?_
  refine lv_iload_n hx hb dX8_ridgeHides_23 rfl (lv_at hl 3 rfl) ?_
  refine lv_isub hx hb dX8_ridgeHides_24 ?_
  refine top_i (y := gx px pt p) (rfl) ?_
  refine lv_istore (lv' := [(7, .int (gx px pt p)), (6, .int (nI b)), (5, .int (nI a)), (0, .ref h), (1, .int (nI (pt / 8))), (2, .int (nI (pt % 8))), (3, .int (nI r0)), (4, .int (nI p))]) hx hb dX8_ridgeHides_25 hl (by decide) rfl (fun ls hl => ?_)
  refine lv_aload_n hx hb dX8_ridgeHides_27 rfl (lv_at hl 3 rfl) ?_
  refine va_get (D := G.1) (ci := 8) (v := .ref (q 3)) (C := RX8) (T := TX8) (N := 44) hx hb hts hin8 hown hK.1 hP 0 rfl rfl 3 (by decide) f13 (fun _ h9 => h9) rfl dX8_ridgeHides_28 ?_
  refine lv_iload hx hb dX8_ridgeHides_31 (lv_at hl 7 rfl) ?_
  refine al_i hx hb hK.1 hP 2 0 rfl rfl (j := p) (by omega) (Nat.le_of_ble_eq_true rfl) dX8_ridgeHides_33 ?_
  refine lv_iload_n hx hb dX8_ridgeHides_34 rfl (lv_at hl 5 rfl) ?_
  refine lv_isub hx hb dX8_ridgeHides_35 ?_
  refine top_i (y := gy py pt p) (rfl) ?_
  refine lv_istore (lv' := [(8, .int (gy py pt p)), (7, .int (gx px pt p)), (6, .int (nI b)), (5, .int (nI a)), (0, .ref h), (1, .int (nI (pt / 8))), (2, .int (nI (pt % 8))), (3, .int (nI r0)), (4, .int (nI p))]) hx hb dX8_ridgeHides_36 hl (by decide) rfl (fun ls hl => ?_)
  refine lv_aload_n hx hb dX8_ridgeHides_38 rfl (lv_at hl 4 rfl) ?_
  refine va_get (D := G.1) (ci := 8) (v := .ref (q 2)) (C := RX8) (T := TX8) (N := 44) hx hb hts hin8 hown hK.1 hP 0 rfl rfl 2 (by decide) f7 (fun _ h9 => h9) rfl dX8_ridgeHides_39 ?_
  refine lv_iload hx hb dX8_ridgeHides_42 (lv_at hl 2 rfl) ?_
  refine al_i hx hb hK.1 hP 1 0 rfl rfl (j := b) (by omega) (Nat.le_of_ble_eq_true rfl) dX8_ridgeHides_44 ?_
  refine lv_aload_n hx hb dX8_ridgeHides_45 rfl (lv_at hl 4 rfl) ?_
  refine va_get (D := G.1) (ci := 8) (v := .ref (q 2)) (C := RX8) (T := TX8) (N := 44) hx hb hts hin8 hown hK.1 hP 0 rfl rfl 2 (by decide) f7 (fun _ h9 => h9) rfl dX8_ridgeHides_46 ?_
  refine lv_iload hx hb dX8_ridgeHides_49 (lv_at hl 3 rfl) ?_
  refine al_i hx hb hK.1 hP 1 0 rfl rfl (j := a) (by omega) (Nat.le_of_ble_eq_true rfl) dX8_ridgeHides_51 ?_
  refine lv_isub hx hb dX8_ridgeHides_52 ?_
  refine lv_istore (lv' := [(9, .int ((px b) - (px a))), (8, .int (gy py pt p)), (7, .int (gx px pt p)), (6, .int (nI b)), (5, .int (nI a)), (0, .ref h), (1, .int (nI (pt / 8))), (2, .int (nI (pt % 8))), (3, .int (nI r0)), (4, .int (nI p))]) hx hb dX8_ridgeHides_53 hl (by decide) rfl (fun ls hl => ?_)
  refine lv_aload_n hx hb dX8_ridgeHides_55 rfl (lv_at hl 5 rfl) ?_
  refine va_get (D := G.1) (ci := 8) (v := .ref (q 3)) (C := RX8) (T := TX8) (N := 44) hx hb hts hin8 hown hK.1 hP 0 rfl rfl 3 (by decide) f13 (fun _ h9 => h9) rfl dX8_ridgeHides_56 ?_
  refine lv_iload hx hb dX8_ridgeHides_59 (lv_at hl 3 rfl) ?_
  refine al_i hx hb hK.1 hP 2 0 rfl rfl (j := b) (by omega) (Nat.le_of_ble_eq_true rfl) dX8_ridgeHides_61 ?_
  refine lv_aload_n hx hb dX8_ridgeHides_62 rfl (lv_at hl 5 rfl) ?_
  refine va_get (D := G.1) (ci := 8) (v := .ref (q 3)) (C := RX8) (T := TX8) (N := 44) hx hb hts hin8 hown hK.1 hP 0 rfl rfl 3 (by decide) f13 (fun _ h9 => h9) rfl dX8_ridgeHides_63 ?_
  refine lv_iload hx hb dX8_ridgeHides_66 (lv_at hl 4 rfl) ?_
  refine al_i hx hb hK.1 hP 2 0 rfl rfl (j := a) (by omega) (Nat.le_of_ble_eq_true rfl) dX8_ridgeHides_68 ?_
  refine lv_isub hx hb dX8_ridgeHides_69 ?_
  refine lv_istore (lv' := [(10, .int ((py b) - (py a))), (9, .int ((px b) - (px a))), (8, .int (gy py pt p)), (7, .int (gx px pt p)), (6, .int (nI b)), (5, .int (nI a)), (0, .ref h), (1, .int (nI (pt / 8))), (2, .int (nI (pt % 8))), (3, .int (nI r0)), (4, .int (nI p))]) hx hb dX8_ridgeHides_70 hl (by decide) rfl (fun ls hl => ?_)
  refine lv_iload hx hb dX8_ridgeHides_72 (lv_at hl 3 rfl) ?_
  refine lv_iload hx hb dX8_ridgeHides_74 (lv_at hl 2 rfl) ?_
  refine lv_iload hx hb dX8_ridgeHides_76 (lv_at hl 1 rfl) ?_
  refine lv_iload hx hb dX8_ridgeHides_78 (lv_at hl 0 rfl) ?_
  refine rd_i (va_runS (As := [.int (gx px pt p), .int (gy py pt p), .int ((px b) - (px a)), .int ((py b) - (py a))]) (rest := []) ⟨hx, hb, hml, hown, hts⟩ (c_X8_cross l G (gx px pt p) (gy py pt p) ((px b) - (px a)) ((py b) - (py a))) (va_cwS 4 hts gX8_ridgeHides_X8_cross rfl rfl rfl (by decide +kernel) ⟨Nat.le_of_ble_eq_true rfl, Nat.le_of_ble_eq_true rfl⟩) (rPre_S hK hP [] rfl) rfl rfl hl.1 rfl (lv_room (Nat.le_of_ble_eq_true rfl)) dX8_ridgeHides_80 ⟨Nat.zero_le _, Nat.zero_le _⟩) (fun r_80 q_80 => ?_)
  obtain rfl : r_80 = (gx px pt p) * ((py b) - (py a)) - (gy py pt p) * ((px b) - (px a)) := q_80
  refine top_i (y := gall px py pt p a b) (rfl) ?_
  refine lv_istore (lv' := [(11, .int (gall px py pt p a b)), (10, .int ((py b) - (py a))), (9, .int ((px b) - (px a))), (8, .int (gy py pt p)), (7, .int (gx px pt p)), (6, .int (nI b)), (5, .int (nI a)), (0, .ref h), (1, .int (nI (pt / 8))), (2, .int (nI (pt % 8))), (3, .int (nI r0)), (4, .int (nI p))]) hx hb dX8_ridgeHides_83 hl (by decide) rfl (fun ls hl => ?_)
  refine lv_iload hx hb dX8_ridgeHides_85 (lv_at hl 0 rfl) ?_
  refine lv_if_ne (tgt := 92) hx hb dX8_ridgeHides_87 (by decide) (fun c_87 => ?_) (fun c_87 => ?_)
  · refine lv_iload hx hb dX8_ridgeHides_92 (lv_at hl 0 rfl) ?_
    refine lv_if_ge (tgt := 101) hx hb dX8_ridgeHides_94 (by decide) (fun c_94 => ?_) (fun c_94 => ?_)
    · refine lv_iconst (v := 1) hx hb dX8_ridgeHides_101 (by decide) ?_
      refine lv_istore (lv' := [(12, .int 1), (11, .int (gall px py pt p a b)), (10, .int ((py b) - (py a))), (9, .int ((px b) - (px a))), (8, .int (gy py pt p)), (7, .int (gx px pt p)), (6, .int (nI b)), (5, .int (nI a)), (0, .ref h), (1, .int (nI (pt / 8))), (2, .int (nI (pt % 8))), (3, .int (nI r0)), (4, .int (nI p))]) hx hb dX8_ridgeHides_102 hl (by decide) rfl (fun ls hl => ?_)
      refine lv_iload hx hb dX8_ridgeHides_104 (lv_at hl 0 rfl) ?_
      refine lv_aload_n hx hb dX8_ridgeHides_106 rfl (lv_at hl 8 rfl) ?_
      refine va_get (D := G.1) (ci := 8) (v := .ref (q 2)) (C := RX8) (T := TX8) (N := 44) hx hb hts hin8 hown hK.1 hP 0 rfl rfl 2 (by decide) f7 (fun _ h9 => h9) rfl dX8_ridgeHides_107 ?_
      refine lv_iload hx hb dX8_ridgeHides_110 (lv_at hl 7 rfl) ?_
      refine al_i hx hb hK.1 hP 1 0 rfl rfl (j := a) (by omega) (Nat.le_of_ble_eq_true rfl) dX8_ridgeHides_112 ?_
      refine lv_iload_n hx hb dX8_ridgeHides_113 rfl (lv_at hl 9 rfl) ?_
      refine lv_isub hx hb dX8_ridgeHides_114 ?_
      refine top_i (y := gx px pt a) (rfl) ?_
      refine lv_aload_n hx hb dX8_ridgeHides_115 rfl (lv_at hl 8 rfl) ?_
      refine va_get (D := G.1) (ci := 8) (v := .ref (q 3)) (C := RX8) (T := TX8) (N := 44) hx hb hts hin8 hown hK.1 hP 0 rfl rfl 3 (by decide) f13 (fun _ h9 => h9) rfl dX8_ridgeHides_116 ?_
      refine lv_iload hx hb dX8_ridgeHides_119 (lv_at hl 7 rfl) ?_
      refine al_i hx hb hK.1 hP 2 0 rfl rfl (j := a) (by omega) (Nat.le_of_ble_eq_true rfl) dX8_ridgeHides_121 ?_
      refine lv_iload_n hx hb dX8_ridgeHides_122 rfl (lv_at hl 10 rfl) ?_
      refine lv_isub hx hb dX8_ridgeHides_123 ?_
      refine top_i (y := gy py pt a) (rfl) ?_
      refine lv_iload hx hb dX8_ridgeHides_124 (lv_at hl 3 rfl) ?_
      refine lv_iload hx hb dX8_ridgeHides_126 (lv_at hl 2 rfl) ?_
      refine rd_i (va_runS (As := [.int (gx px pt a), .int (gy py pt a), .int ((px b) - (px a)), .int ((py b) - (py a))]) (rest := [.int 1]) ⟨hx, hb, hml, hown, hts⟩ (c_X8_cross l G (gx px pt a) (gy py pt a) ((px b) - (px a)) ((py b) - (py a))) (va_cwS 4 hts gX8_ridgeHides_X8_cross rfl rfl rfl (by decide +kernel) ⟨Nat.le_of_ble_eq_true rfl, Nat.le_of_ble_eq_true rfl⟩) (rPre_S hK hP [] rfl) rfl rfl hl.1 rfl (lv_room (Nat.le_of_ble_eq_true rfl)) dX8_ridgeHides_128 ⟨Nat.zero_le _, Nat.zero_le _⟩) (fun r_128 q_128 => ?_)
      obtain rfl : r_128 = (gx px pt a) * ((py b) - (py a)) - (gy py pt a) * ((px b) - (px a)) := q_128
      refine top_i (y := gfar px py pt a b) (rfl) ?_
      refine lv_imul hx hb dX8_ridgeHides_131 ?_
      refine top_i (y := gfar px py pt a b) (Int32.one_mul _) ?_
      refine lv_istore (lv' := [(13, .int (gfar px py pt a b)), (12, .int 1), (11, .int (gall px py pt p a b)), (10, .int ((py b) - (py a))), (9, .int ((px b) - (px a))), (8, .int (gy py pt p)), (7, .int (gx px pt p)), (6, .int (nI b)), (5, .int (nI a)), (0, .ref h), (1, .int (nI (pt / 8))), (2, .int (nI (pt % 8))), (3, .int (nI r0)), (4, .int (nI p))]) hx hb dX8_ridgeHides_132 hl (by decide) rfl (fun ls hl => ?_)
      refine lv_iload hx hb dX8_ridgeHides_134 (lv_at hl 1 rfl) ?_
      refine lv_aload_n hx hb dX8_ridgeHides_136 rfl (lv_at hl 9 rfl) ?_
      refine va_get (D := G.1) (ci := 8) (v := .ref (q 2)) (C := RX8) (T := TX8) (N := 44) hx hb hts hin8 hown hK.1 hP 0 rfl rfl 2 (by decide) f7 (fun _ h9 => h9) rfl dX8_ridgeHides_137 ?_
      refine lv_iload hx hb dX8_ridgeHides_140 (lv_at hl 8 rfl) ?_
      refine al_i hx hb hK.1 hP 1 0 rfl rfl (j := a) (by omega) (Nat.le_of_ble_eq_true rfl) dX8_ridgeHides_142 ?_
      refine lv_iload_n hx hb dX8_ridgeHides_143 rfl (lv_at hl 10 rfl) ?_
      refine lv_isub hx hb dX8_ridgeHides_144 ?_
      refine top_i (y := gx px pt a) (rfl) ?_
      refine lv_aload_n hx hb dX8_ridgeHides_145 rfl (lv_at hl 9 rfl) ?_
      refine va_get (D := G.1) (ci := 8) (v := .ref (q 3)) (C := RX8) (T := TX8) (N := 44) hx hb hts hin8 hown hK.1 hP 0 rfl rfl 3 (by decide) f13 (fun _ h9 => h9) rfl dX8_ridgeHides_146 ?_
      refine lv_iload hx hb dX8_ridgeHides_149 (lv_at hl 8 rfl) ?_
      refine al_i hx hb hK.1 hP 2 0 rfl rfl (j := a) (by omega) (Nat.le_of_ble_eq_true rfl) dX8_ridgeHides_151 ?_
      refine lv_iload_n hx hb dX8_ridgeHides_152 rfl (lv_at hl 11 rfl) ?_
      refine lv_isub hx hb dX8_ridgeHides_153 ?_
      refine top_i (y := gy py pt a) (rfl) ?_
      refine lv_iload hx hb dX8_ridgeHides_154 (lv_at hl 6 rfl) ?_
      refine lv_iload hx hb dX8_ridgeHides_156 (lv_at hl 5 rfl) ?_
      refine rd_i (va_runS (As := [.int (gx px pt a), .int (gy py pt a), .int (gx px pt p), .int (gy py pt p)]) (rest := [.int 1]) ⟨hx, hb, hml, hown, hts⟩ (c_X8_cross l G (gx px pt a) (gy py pt a) (gx px pt p) (gy py pt p)) (va_cwS 4 hts gX8_ridgeHides_X8_cross rfl rfl rfl (by decide +kernel) ⟨Nat.le_of_ble_eq_true rfl, Nat.le_of_ble_eq_true rfl⟩) (rPre_S hK hP [] rfl) rfl rfl hl.1 rfl (lv_room (Nat.le_of_ble_eq_true rfl)) dX8_ridgeHides_158 ⟨Nat.zero_le _, Nat.zero_le _⟩) (fun r_158 q_158 => ?_)
      obtain rfl : r_158 = (gx px pt a) * (gy py pt p) - (gy py pt a) * (gx px pt p) := q_158
      refine top_i (y := gpart px py pt p a) (rfl) ?_
      refine lv_imul hx hb dX8_ridgeHides_161 ?_
      refine top_i (y := gpart px py pt p a) (Int32.one_mul _) ?_
      refine lv_istore (lv' := [(14, .int (gpart px py pt p a)), (13, .int (gfar px py pt a b)), (12, .int 1), (11, .int (gall px py pt p a b)), (10, .int ((py b) - (py a))), (9, .int ((px b) - (px a))), (8, .int (gy py pt p)), (7, .int (gx px pt p)), (6, .int (nI b)), (5, .int (nI a)), (0, .ref h), (1, .int (nI (pt / 8))), (2, .int (nI (pt % 8))), (3, .int (nI r0)), (4, .int (nI p))]) hx hb dX8_ridgeHides_162 hl (by decide) rfl (fun ls hl => ?_)
      refine lv_iload hx hb dX8_ridgeHides_164 (lv_at hl 3 rfl) ?_
      refine lv_iload hx hb dX8_ridgeHides_166 (lv_at hl 2 rfl) ?_
      refine lv_imul hx hb dX8_ridgeHides_168 ?_
      refine top_i (y := gall px py pt p a b) (Int32.mul_one _) ?_
      refine lv_istore (lv' := [(11, .int (gall px py pt p a b)), (14, .int (gpart px py pt p a)), (13, .int (gfar px py pt a b)), (12, .int 1), (10, .int ((py b) - (py a))), (9, .int ((px b) - (px a))), (8, .int (gy py pt p)), (7, .int (gx px pt p)), (6, .int (nI b)), (5, .int (nI a)), (0, .ref h), (1, .int (nI (pt / 8))), (2, .int (nI (pt % 8))), (3, .int (nI r0)), (4, .int (nI p))]) hx hb dX8_ridgeHides_169 hl (by decide) rfl (fun ls hl => ?_)
      refine lv_iload hx hb dX8_ridgeHides_171 (lv_at hl 2 rfl) ?_
      refine lv_if_le (tgt := 195) hx hb dX8_ridgeHides_173 (by decide) (fun c_173 => ?_) (fun c_173 => ?_)
      · refine lv_iconst (v := 0) hx hb dX8_ridgeHides_195 (by decide) ?_
        exact hret _ _ _ (by rw [gridge, if_pos c_94]; simp [b2i, gridge0, c_87, c_94, c_173]) (rfl) dX8_ridgeHides_196
      · refine lv_iload hx hb dX8_ridgeHides_176 (lv_at hl 2 rfl) ?_
        refine lv_iload hx hb dX8_ridgeHides_178 (lv_at hl 0 rfl) ?_
        refine lv_icmp_ge (tgt := 195) hx hb dX8_ridgeHides_180 (by decide) (fun c_180 => ?_) (fun c_180 => ?_)
        · refine lv_iconst (v := 0) hx hb dX8_ridgeHides_195 (by decide) ?_
          exact hret _ _ _ (by rw [gridge, if_pos c_94]; simp [b2i, gridge0, c_87, c_94, c_173, c_180]) (rfl) dX8_ridgeHides_196
        · refine lv_iload hx hb dX8_ridgeHides_183 (lv_at hl 1 rfl) ?_
          refine lv_if_lt (tgt := 195) hx hb dX8_ridgeHides_185 (by decide) (fun c_185 => ?_) (fun c_185 => ?_)
          · refine lv_iconst (v := 0) hx hb dX8_ridgeHides_195 (by decide) ?_
            exact hret _ _ _ (by rw [gridge, if_pos c_94]; simp [b2i, gridge0, c_87, c_94, c_173, c_180, c_185]) (rfl) dX8_ridgeHides_196
          · refine lv_iload hx hb dX8_ridgeHides_188 (lv_at hl 1 rfl) ?_
            refine lv_iload hx hb dX8_ridgeHides_190 (lv_at hl 0 rfl) ?_
            refine lv_icmp_le (tgt := 197) hx hb dX8_ridgeHides_192 (by decide) (fun c_192 => ?_) (fun c_192 => ?_)
            · refine lv_aload_n hx hb dX8_ridgeHides_197 rfl (lv_at hl 10 rfl) ?_
              refine va_get (D := G.1) (ci := 8) (v := .ref (q 4)) (C := RX8) (T := TX8) (N := 44) hx hb hts hin8 hown hK.1 hP 0 rfl rfl 4 (by decide) f16 (fun _ h9 => h9) rfl dX8_ridgeHides_198 ?_
              refine lv_iload hx hb dX8_ridgeHides_201 (lv_at hl 9 rfl) ?_
              refine al_i hx hb hK.1 hP 3 0 rfl rfl (j := a) (by omega) (Nat.le_of_ble_eq_true rfl) dX8_ridgeHides_203 ?_
              refine lv_iload hx hb dX8_ridgeHides_204 (lv_at hl 0 rfl) ?_
              refine lv_imul hx hb dX8_ridgeHides_206 ?_
              refine lv_iload hx hb dX8_ridgeHides_207 (lv_at hl 1 rfl) ?_
              refine lv_aload_n hx hb dX8_ridgeHides_209 rfl (lv_at hl 10 rfl) ?_
              refine va_get (D := G.1) (ci := 8) (v := .ref (q 4)) (C := RX8) (T := TX8) (N := 44) hx hb hts hin8 hown hK.1 hP 0 rfl rfl 4 (by decide) f16 (fun _ h9 => h9) rfl dX8_ridgeHides_210 ?_
              refine lv_iload hx hb dX8_ridgeHides_213 (lv_at hl 8 rfl) ?_
              refine al_i hx hb hK.1 hP 3 0 rfl rfl (j := b) (by omega) (Nat.le_of_ble_eq_true rfl) dX8_ridgeHides_215 ?_
              refine lv_aload_n hx hb dX8_ridgeHides_216 rfl (lv_at hl 10 rfl) ?_
              refine va_get (D := G.1) (ci := 8) (v := .ref (q 4)) (C := RX8) (T := TX8) (N := 44) hx hb hts hin8 hown hK.1 hP 0 rfl rfl 4 (by decide) f16 (fun _ h9 => h9) rfl dX8_ridgeHides_217 ?_
              refine lv_iload hx hb dX8_ridgeHides_220 (lv_at hl 9 rfl) ?_
              refine al_i hx hb hK.1 hP 3 0 rfl rfl (j := a) (by omega) (Nat.le_of_ble_eq_true rfl) dX8_ridgeHides_222 ?_
              refine lv_isub hx hb dX8_ridgeHides_223 ?_
              refine lv_imul hx hb dX8_ridgeHides_224 ?_
              refine top_i (y := (hi b - hi a) * gpart px py pt p a) (Int32.mul_comm _ _) ?_
              refine lv_iadd hx hb dX8_ridgeHides_225 ?_
              refine lv_aload_n hx hb dX8_ridgeHides_226 rfl (lv_at hl 10 rfl) ?_
              refine va_get (D := G.1) (ci := 8) (v := .ref (q 4)) (C := RX8) (T := TX8) (N := 44) hx hb hts hin8 hown hK.1 hP 0 rfl rfl 4 (by decide) f16 (fun _ h9 => h9) rfl dX8_ridgeHides_227 ?_
              refine lv_iload hx hb dX8_ridgeHides_230 (lv_at hl 14 rfl) ?_
              refine al_i hx hb hK.1 hP 3 0 rfl rfl (j := p) (by omega) (Nat.le_of_ble_eq_true rfl) dX8_ridgeHides_232 ?_
              refine lv_iload hx hb dX8_ridgeHides_233 (lv_at hl 2 rfl) ?_
              refine lv_imul hx hb dX8_ridgeHides_235 ?_
              refine lv_icmp_lt (tgt := 243) hx hb dX8_ridgeHides_236 (by decide) (fun c_236 => ?_) (fun c_236 => ?_)
              · refine lv_iconst (v := 0) hx hb dX8_ridgeHides_243 (by decide) ?_
                exact hret _ _ _ (by rw [gridge, if_pos c_94]; simp [b2i, gridge0, c_87, c_94, c_173, c_180, c_185, c_192, c_236]) (rfl) dX8_ridgeHides_244
              · refine lv_iconst (v := 1) hx hb dX8_ridgeHides_239 (by decide) ?_
                refine lv_goto (tgt := 244) hx hb dX8_ridgeHides_240 (by decide) ?_
                exact hret _ _ _ (by rw [gridge, if_pos c_94]; simp [b2i, gridge0, c_87, c_94, c_173, c_180, c_185, c_192, c_236]) (rfl) dX8_ridgeHides_244
            · refine lv_iconst (v := 0) hx hb dX8_ridgeHides_195 (by decide) ?_
              exact hret _ _ _ (by rw [gridge, if_pos c_94]; simp [b2i, gridge0, c_87, c_94, c_173, c_180, c_185, c_192]) (rfl) dX8_ridgeHides_196
    · refine lv_iconst (v := -1) hx hb dX8_ridgeHides_97 (by decide) ?_
      refine lv_goto (tgt := 102) hx hb dX8_ridgeHides_98 (by decide) ?_
      refine lv_istore (lv' := [(12, .int (-1)), (11, .int (gall px py pt p a b)), (10, .int ((py b) - (py a))), (9, .int ((px b) - (px a))), (8, .int (gy py pt p)), (7, .int (gx px pt p)), (6, .int (nI b)), (5, .int (nI a)), (0, .ref h), (1, .int (nI (pt / 8))), (2, .int (nI (pt % 8))), (3, .int (nI r0)), (4, .int (nI p))]) hx hb dX8_ridgeHides_102 hl (by decide) rfl (fun ls hl => ?_)
      refine lv_iload hx hb dX8_ridgeHides_104 (lv_at hl 0 rfl) ?_
      refine lv_aload_n hx hb dX8_ridgeHides_106 rfl (lv_at hl 8 rfl) ?_
      refine va_get (D := G.1) (ci := 8) (v := .ref (q 2)) (C := RX8) (T := TX8) (N := 44) hx hb hts hin8 hown hK.1 hP 0 rfl rfl 2 (by decide) f7 (fun _ h9 => h9) rfl dX8_ridgeHides_107 ?_
      refine lv_iload hx hb dX8_ridgeHides_110 (lv_at hl 7 rfl) ?_
      refine al_i hx hb hK.1 hP 1 0 rfl rfl (j := a) (by omega) (Nat.le_of_ble_eq_true rfl) dX8_ridgeHides_112 ?_
      refine lv_iload_n hx hb dX8_ridgeHides_113 rfl (lv_at hl 9 rfl) ?_
      refine lv_isub hx hb dX8_ridgeHides_114 ?_
      refine top_i (y := gx px pt a) (rfl) ?_
      refine lv_aload_n hx hb dX8_ridgeHides_115 rfl (lv_at hl 8 rfl) ?_
      refine va_get (D := G.1) (ci := 8) (v := .ref (q 3)) (C := RX8) (T := TX8) (N := 44) hx hb hts hin8 hown hK.1 hP 0 rfl rfl 3 (by decide) f13 (fun _ h9 => h9) rfl dX8_ridgeHides_116 ?_
      refine lv_iload hx hb dX8_ridgeHides_119 (lv_at hl 7 rfl) ?_
      refine al_i hx hb hK.1 hP 2 0 rfl rfl (j := a) (by omega) (Nat.le_of_ble_eq_true rfl) dX8_ridgeHides_121 ?_
      refine lv_iload_n hx hb dX8_ridgeHides_122 rfl (lv_at hl 10 rfl) ?_
      refine lv_isub hx hb dX8_ridgeHides_123 ?_
      refine top_i (y := gy py pt a) (rfl) ?_
      refine lv_iload hx hb dX8_ridgeHides_124 (lv_at hl 3 rfl) ?_
      refine lv_iload hx hb dX8_ridgeHides_126 (lv_at hl 2 rfl) ?_
      refine rd_i (va_runS (As := [.int (gx px pt a), .int (gy py pt a), .int ((px b) - (px a)), .int ((py b) - (py a))]) (rest := [.int (-1)]) ⟨hx, hb, hml, hown, hts⟩ (c_X8_cross l G (gx px pt a) (gy py pt a) ((px b) - (px a)) ((py b) - (py a))) (va_cwS 4 hts gX8_ridgeHides_X8_cross rfl rfl rfl (by decide +kernel) ⟨Nat.le_of_ble_eq_true rfl, Nat.le_of_ble_eq_true rfl⟩) (rPre_S hK hP [] rfl) rfl rfl hl.1 rfl (lv_room (Nat.le_of_ble_eq_true rfl)) dX8_ridgeHides_128 ⟨Nat.zero_le _, Nat.zero_le _⟩) (fun r_128 q_128 => ?_)
      obtain rfl : r_128 = (gx px pt a) * ((py b) - (py a)) - (gy py pt a) * ((px b) - (px a)) := q_128
      refine top_i (y := gfar px py pt a b) (rfl) ?_
      refine lv_imul hx hb dX8_ridgeHides_131 ?_
      refine top_i (y := -gfar px py pt a b) (m1_mul _) ?_
      refine lv_istore (lv' := [(13, .int (-gfar px py pt a b)), (12, .int (-1)), (11, .int (gall px py pt p a b)), (10, .int ((py b) - (py a))), (9, .int ((px b) - (px a))), (8, .int (gy py pt p)), (7, .int (gx px pt p)), (6, .int (nI b)), (5, .int (nI a)), (0, .ref h), (1, .int (nI (pt / 8))), (2, .int (nI (pt % 8))), (3, .int (nI r0)), (4, .int (nI p))]) hx hb dX8_ridgeHides_132 hl (by decide) rfl (fun ls hl => ?_)
      refine lv_iload hx hb dX8_ridgeHides_134 (lv_at hl 1 rfl) ?_
      refine lv_aload_n hx hb dX8_ridgeHides_136 rfl (lv_at hl 9 rfl) ?_
      refine va_get (D := G.1) (ci := 8) (v := .ref (q 2)) (C := RX8) (T := TX8) (N := 44) hx hb hts hin8 hown hK.1 hP 0 rfl rfl 2 (by decide) f7 (fun _ h9 => h9) rfl dX8_ridgeHides_137 ?_
      refine lv_iload hx hb dX8_ridgeHides_140 (lv_at hl 8 rfl) ?_
      refine al_i hx hb hK.1 hP 1 0 rfl rfl (j := a) (by omega) (Nat.le_of_ble_eq_true rfl) dX8_ridgeHides_142 ?_
      refine lv_iload_n hx hb dX8_ridgeHides_143 rfl (lv_at hl 10 rfl) ?_
      refine lv_isub hx hb dX8_ridgeHides_144 ?_
      refine top_i (y := gx px pt a) (rfl) ?_
      refine lv_aload_n hx hb dX8_ridgeHides_145 rfl (lv_at hl 9 rfl) ?_
      refine va_get (D := G.1) (ci := 8) (v := .ref (q 3)) (C := RX8) (T := TX8) (N := 44) hx hb hts hin8 hown hK.1 hP 0 rfl rfl 3 (by decide) f13 (fun _ h9 => h9) rfl dX8_ridgeHides_146 ?_
      refine lv_iload hx hb dX8_ridgeHides_149 (lv_at hl 8 rfl) ?_
      refine al_i hx hb hK.1 hP 2 0 rfl rfl (j := a) (by omega) (Nat.le_of_ble_eq_true rfl) dX8_ridgeHides_151 ?_
      refine lv_iload_n hx hb dX8_ridgeHides_152 rfl (lv_at hl 11 rfl) ?_
      refine lv_isub hx hb dX8_ridgeHides_153 ?_
      refine top_i (y := gy py pt a) (rfl) ?_
      refine lv_iload hx hb dX8_ridgeHides_154 (lv_at hl 6 rfl) ?_
      refine lv_iload hx hb dX8_ridgeHides_156 (lv_at hl 5 rfl) ?_
      refine rd_i (va_runS (As := [.int (gx px pt a), .int (gy py pt a), .int (gx px pt p), .int (gy py pt p)]) (rest := [.int (-1)]) ⟨hx, hb, hml, hown, hts⟩ (c_X8_cross l G (gx px pt a) (gy py pt a) (gx px pt p) (gy py pt p)) (va_cwS 4 hts gX8_ridgeHides_X8_cross rfl rfl rfl (by decide +kernel) ⟨Nat.le_of_ble_eq_true rfl, Nat.le_of_ble_eq_true rfl⟩) (rPre_S hK hP [] rfl) rfl rfl hl.1 rfl (lv_room (Nat.le_of_ble_eq_true rfl)) dX8_ridgeHides_158 ⟨Nat.zero_le _, Nat.zero_le _⟩) (fun r_158 q_158 => ?_)
      obtain rfl : r_158 = (gx px pt a) * (gy py pt p) - (gy py pt a) * (gx px pt p) := q_158
      refine top_i (y := gpart px py pt p a) (rfl) ?_
      refine lv_imul hx hb dX8_ridgeHides_161 ?_
      refine top_i (y := -gpart px py pt p a) (m1_mul _) ?_
      refine lv_istore (lv' := [(14, .int (-gpart px py pt p a)), (13, .int (-gfar px py pt a b)), (12, .int (-1)), (11, .int (gall px py pt p a b)), (10, .int ((py b) - (py a))), (9, .int ((px b) - (px a))), (8, .int (gy py pt p)), (7, .int (gx px pt p)), (6, .int (nI b)), (5, .int (nI a)), (0, .ref h), (1, .int (nI (pt / 8))), (2, .int (nI (pt % 8))), (3, .int (nI r0)), (4, .int (nI p))]) hx hb dX8_ridgeHides_162 hl (by decide) rfl (fun ls hl => ?_)
      refine lv_iload hx hb dX8_ridgeHides_164 (lv_at hl 3 rfl) ?_
      refine lv_iload hx hb dX8_ridgeHides_166 (lv_at hl 2 rfl) ?_
      refine lv_imul hx hb dX8_ridgeHides_168 ?_
      refine top_i (y := -gall px py pt p a b) (mul_m1 _) ?_
      refine lv_istore (lv' := [(11, .int (-gall px py pt p a b)), (14, .int (-gpart px py pt p a)), (13, .int (-gfar px py pt a b)), (12, .int (-1)), (10, .int ((py b) - (py a))), (9, .int ((px b) - (px a))), (8, .int (gy py pt p)), (7, .int (gx px pt p)), (6, .int (nI b)), (5, .int (nI a)), (0, .ref h), (1, .int (nI (pt / 8))), (2, .int (nI (pt % 8))), (3, .int (nI r0)), (4, .int (nI p))]) hx hb dX8_ridgeHides_169 hl (by decide) rfl (fun ls hl => ?_)
      refine lv_iload hx hb dX8_ridgeHides_171 (lv_at hl 2 rfl) ?_
      refine lv_if_le (tgt := 195) hx hb dX8_ridgeHides_173 (by decide) (fun c_173 => ?_) (fun c_173 => ?_)
      · refine lv_iconst (v := 0) hx hb dX8_ridgeHides_195 (by decide) ?_
        exact hret _ _ _ (by rw [gridge, if_neg c_94]; simp [b2i, gridge0, c_87, c_94, c_173]) (rfl) dX8_ridgeHides_196
      · refine lv_iload hx hb dX8_ridgeHides_176 (lv_at hl 2 rfl) ?_
        refine lv_iload hx hb dX8_ridgeHides_178 (lv_at hl 0 rfl) ?_
        refine lv_icmp_ge (tgt := 195) hx hb dX8_ridgeHides_180 (by decide) (fun c_180 => ?_) (fun c_180 => ?_)
        · refine lv_iconst (v := 0) hx hb dX8_ridgeHides_195 (by decide) ?_
          exact hret _ _ _ (by rw [gridge, if_neg c_94]; simp [b2i, gridge0, c_87, c_94, c_173, c_180]) (rfl) dX8_ridgeHides_196
        · refine lv_iload hx hb dX8_ridgeHides_183 (lv_at hl 1 rfl) ?_
          refine lv_if_lt (tgt := 195) hx hb dX8_ridgeHides_185 (by decide) (fun c_185 => ?_) (fun c_185 => ?_)
          · refine lv_iconst (v := 0) hx hb dX8_ridgeHides_195 (by decide) ?_
            exact hret _ _ _ (by rw [gridge, if_neg c_94]; simp [b2i, gridge0, c_87, c_94, c_173, c_180, c_185]) (rfl) dX8_ridgeHides_196
          · refine lv_iload hx hb dX8_ridgeHides_188 (lv_at hl 1 rfl) ?_
            refine lv_iload hx hb dX8_ridgeHides_190 (lv_at hl 0 rfl) ?_
            refine lv_icmp_le (tgt := 197) hx hb dX8_ridgeHides_192 (by decide) (fun c_192 => ?_) (fun c_192 => ?_)
            · refine lv_aload_n hx hb dX8_ridgeHides_197 rfl (lv_at hl 10 rfl) ?_
              refine va_get (D := G.1) (ci := 8) (v := .ref (q 4)) (C := RX8) (T := TX8) (N := 44) hx hb hts hin8 hown hK.1 hP 0 rfl rfl 4 (by decide) f16 (fun _ h9 => h9) rfl dX8_ridgeHides_198 ?_
              refine lv_iload hx hb dX8_ridgeHides_201 (lv_at hl 9 rfl) ?_
              refine al_i hx hb hK.1 hP 3 0 rfl rfl (j := a) (by omega) (Nat.le_of_ble_eq_true rfl) dX8_ridgeHides_203 ?_
              refine lv_iload hx hb dX8_ridgeHides_204 (lv_at hl 0 rfl) ?_
              refine lv_imul hx hb dX8_ridgeHides_206 ?_
              refine lv_iload hx hb dX8_ridgeHides_207 (lv_at hl 1 rfl) ?_
              refine lv_aload_n hx hb dX8_ridgeHides_209 rfl (lv_at hl 10 rfl) ?_
              refine va_get (D := G.1) (ci := 8) (v := .ref (q 4)) (C := RX8) (T := TX8) (N := 44) hx hb hts hin8 hown hK.1 hP 0 rfl rfl 4 (by decide) f16 (fun _ h9 => h9) rfl dX8_ridgeHides_210 ?_
              refine lv_iload hx hb dX8_ridgeHides_213 (lv_at hl 8 rfl) ?_
              refine al_i hx hb hK.1 hP 3 0 rfl rfl (j := b) (by omega) (Nat.le_of_ble_eq_true rfl) dX8_ridgeHides_215 ?_
              refine lv_aload_n hx hb dX8_ridgeHides_216 rfl (lv_at hl 10 rfl) ?_
              refine va_get (D := G.1) (ci := 8) (v := .ref (q 4)) (C := RX8) (T := TX8) (N := 44) hx hb hts hin8 hown hK.1 hP 0 rfl rfl 4 (by decide) f16 (fun _ h9 => h9) rfl dX8_ridgeHides_217 ?_
              refine lv_iload hx hb dX8_ridgeHides_220 (lv_at hl 9 rfl) ?_
              refine al_i hx hb hK.1 hP 3 0 rfl rfl (j := a) (by omega) (Nat.le_of_ble_eq_true rfl) dX8_ridgeHides_222 ?_
              refine lv_isub hx hb dX8_ridgeHides_223 ?_
              refine lv_imul hx hb dX8_ridgeHides_224 ?_
              refine top_i (y := (hi b - hi a) * (-gpart px py pt p a)) (Int32.mul_comm _ _) ?_
              refine lv_iadd hx hb dX8_ridgeHides_225 ?_
              refine lv_aload_n hx hb dX8_ridgeHides_226 rfl (lv_at hl 10 rfl) ?_
              refine va_get (D := G.1) (ci := 8) (v := .ref (q 4)) (C := RX8) (T := TX8) (N := 44) hx hb hts hin8 hown hK.1 hP 0 rfl rfl 4 (by decide) f16 (fun _ h9 => h9) rfl dX8_ridgeHides_227 ?_
              refine lv_iload hx hb dX8_ridgeHides_230 (lv_at hl 14 rfl) ?_
              refine al_i hx hb hK.1 hP 3 0 rfl rfl (j := p) (by omega) (Nat.le_of_ble_eq_true rfl) dX8_ridgeHides_232 ?_
              refine lv_iload hx hb dX8_ridgeHides_233 (lv_at hl 2 rfl) ?_
              refine lv_imul hx hb dX8_ridgeHides_235 ?_
              refine lv_icmp_lt (tgt := 243) hx hb dX8_ridgeHides_236 (by decide) (fun c_236 => ?_) (fun c_236 => ?_)
              · refine lv_iconst (v := 0) hx hb dX8_ridgeHides_243 (by decide) ?_
                exact hret _ _ _ (by rw [gridge, if_neg c_94]; simp [b2i, gridge0, c_87, c_94, c_173, c_180, c_185, c_192, c_236]) (rfl) dX8_ridgeHides_244
              · refine lv_iconst (v := 1) hx hb dX8_ridgeHides_239 (by decide) ?_
                refine lv_goto (tgt := 244) hx hb dX8_ridgeHides_240 (by decide) ?_
                exact hret _ _ _ (by rw [gridge, if_neg c_94]; simp [b2i, gridge0, c_87, c_94, c_173, c_180, c_185, c_192, c_236]) (rfl) dX8_ridgeHides_244
            · refine lv_iconst (v := 0) hx hb dX8_ridgeHides_195 (by decide) ?_
              exact hret _ _ _ (by rw [gridge, if_neg c_94]; simp [b2i, gridge0, c_87, c_94, c_173, c_180, c_185, c_192]) (rfl) dX8_ridgeHides_196
  · refine lv_iconst (v := 0) hx hb dX8_ridgeHides_90 (by decide) ?_
    exact hret _ _ _ (by rw [gridge_0 c_87]; rfl) (rfl) dX8_ridgeHides_91

abbrev rX8_isSeen : Room := { frames := 3, cells := 0, slots := 0, locals := 70 }
set_option maxHeartbeats 4000000 in
set_option maxRecDepth 100000 in
theorem c_X8_isSeen (l : Launch) (G : kG) (h : Nat) (v : Nat → Int32) (q : Nat → Nat) (px : Nat → Int32) (py : Nat → Int32) (hi : Nat → Int32) (ra : Nat → Int32) (rb : Nat → Int32) (fa : Nat → Nat) (sb : Nat → Nat) (n : Nat) (mm : Nat) (pt : Nat) (p : Nat) (hpt : pt < 64) (hp : p < 10) (hv1 : v 1 = nI n) (hn : n ≤ 10) (hv5 : v 5 = nI mm) (hF : ∀ r, r < mm → ra r = nI (fa r) ∧ rb r = nI (sb r) ∧ fa r < 10 ∧ sb r < 10) (hm8 : mm ≤ 8) : Ri l G yX8_isSeen wsX8_isSeen rX8_isSeen [.ref h, .int (nI (pt / 8)), .int (nI (pt % 8)), .int (nI p)] [oB h 8 (oF8 v q), aI G (q 2) 10 px, aI G (q 3) 10 py, aI G (q 4) 10 hi, aI G (q 6) 8 ra, aI G (q 7) 8 rb] (fun r => r = b2i (!ghid px py hi n fa sb mm pt p)) := by
  refine Ri.of (cc := cX8_isSeen) (maxL := 5) (by decide) rfl (Nat.le_of_ble_eq_true rfl) ?_
  intro pM eM sM mM bM tM cM Q hx hb hts hown hml hP hK hret ls hl
  have hown : sM.vm.findClass RX8 = some mM.cls := hown
  have hl : lv_has ls 5 [(0, .ref h), (1, .int (nI (pt / 8))), (2, .int (nI (pt % 8))), (3, .int (nI p))] := hl
  have hin8 : ∀ w ∈ u_ws RX8 TX8 44, w ∈ wsX8_isSeen := by decide +kernel
  have f102 := hts (.fieldLink RX8 102 "HorizonPeaksModel" "peaks" "I") (by decide +kernel)
  have f151 := hts (.fieldLink RX8 151 "HorizonPeaksModel" "ridges" "I") (by decide +kernel)
  refine lv_iconst (v := 0) hx hb dX8_isSeen_0 (by decide) ?_
  refine lv_istore (lv' := [(4, .int 0), (0, .ref h), (1, .int (nI (pt / 8))), (2, .int (nI (pt % 8))), (3, .int (nI p))]) hx hb dX8_isSeen_1 hl (by decide) rfl (fun ls hl => ?_)
  have loop_3 : ∀ (nF : Nat) (k : Nat), (n - k) < nF → (k ≤ n) → (∀ j, j < k → gpeak px py hi pt p j = false) → ∀ (ls : Array Slot), lv_has ls 5 [(4, .int (nI k)), (0, .ref h), (1, .int (nI (pt / 8))), (2, .int (nI (pt % 8))), (3, .int (nI p))] → W pM l eM rX8_isSeen sM mM [.ref h, .int (nI (pt / 8)), .int (nI (pt % 8)), .int (nI p)].toArray bM tM cM sM.heap [] 0 0 Q (F0 mM 3 ls []) := by
    intro nF
    induction nF with
    | zero => intro k hmF; exact absurd hmF (Nat.not_lt_zero _)
    | succ nF ih3 =>
      intro k hmF hk hi1 ls hl
      refine lv_iload hx hb dX8_isSeen_3 (lv_at hl 0 rfl) ?_
      refine lv_aload_n hx hb dX8_isSeen_5 rfl (lv_at hl 1 rfl) ?_
      refine va_get (D := G.1) (ci := 8) (v := .int (v 1)) (C := RX8) (T := TX8) (N := 44) hx hb hts hin8 hown hK.1 hP 0 rfl rfl 1 (by decide) f102 (fun _ h9 => h9) rfl dX8_isSeen_6 ?_
      refine top_i (y := nI n) (hv1) ?_
      refine lv_icmp_ge (tgt := 32) hx hb dX8_isSeen_9 (by decide) (fun c_9 => ?_) (fun c_9 => ?_)
      · have c_9 : n ≤ k := (c_le (a := n) (b := k) rfl rfl (by omega) (by omega)).mp c_9
        refine lv_iconst (v := 0) hx hb dX8_isSeen_32 (by decide) ?_
        refine lv_istore (lv' := [(4, .int 0), (0, .ref h), (1, .int (nI (pt / 8))), (2, .int (nI (pt % 8))), (3, .int (nI p))]) hx hb dX8_isSeen_33 hl (by decide) rfl (fun ls hl => ?_)
        have loop_35 : ∀ (nF : Nat) (k2 : Nat), (mm - k2) < nF → (k2 ≤ mm) → (∀ j, j < k2 → gridge px py hi pt p (fa j) (sb j) = false) → ∀ (ls : Array Slot), lv_has ls 5 [(4, .int (nI k2)), (0, .ref h), (1, .int (nI (pt / 8))), (2, .int (nI (pt % 8))), (3, .int (nI p))] → W pM l eM rX8_isSeen sM mM [.ref h, .int (nI (pt / 8)), .int (nI (pt % 8)), .int (nI p)].toArray bM tM cM sM.heap [] 0 0 Q (F0 mM 35 ls []) := by
          intro nF
          induction nF with
          | zero => intro k2 hmF; exact absurd hmF (Nat.not_lt_zero _)
          | succ nF ih35 =>
            intro k2 hmF hk2 hi2 ls hl
            refine lv_iload hx hb dX8_isSeen_35 (lv_at hl 0 rfl) ?_
            refine lv_aload_n hx hb dX8_isSeen_37 rfl (lv_at hl 1 rfl) ?_
            refine va_get (D := G.1) (ci := 8) (v := .int (v 5)) (C := RX8) (T := TX8) (N := 44) hx hb hts hin8 hown hK.1 hP 0 rfl rfl 5 (by decide) f151 (fun _ h9 => h9) rfl dX8_isSeen_38 ?_
            refine top_i (y := nI mm) (hv5) ?_
            refine lv_icmp_ge (tgt := 64) hx hb dX8_isSeen_41 (by decide) (fun c_41 => ?_) (fun c_41 => ?_)
            · have c_41 : mm ≤ k2 := (c_le (a := mm) (b := k2) rfl rfl (by omega) (by omega)).mp c_41
              refine lv_iconst (v := 1) hx hb dX8_isSeen_64 (by decide) ?_
              exact hret _ _ _ (by rw [ghid, anyB_no.mpr (fun j hj => hi1 j (by omega)), anyB_no.mpr (fun j hj => hi2 j (by omega))]; rfl) (rfl) dX8_isSeen_65
            · have c_41 : ¬ mm ≤ k2 := fun hne => c_41 ((c_le (a := mm) (b := k2) rfl rfl (by omega) (by omega)).mpr hne)
              obtain ⟨e1, e2, h1, h2⟩ := hF k2 (by omega)
              refine lv_aload_n hx hb dX8_isSeen_44 rfl (lv_at hl 1 rfl) ?_
              refine lv_iload_n hx hb dX8_isSeen_45 rfl (lv_at hl 2 rfl) ?_
              refine lv_iload_n hx hb dX8_isSeen_46 rfl (lv_at hl 3 rfl) ?_
              refine lv_iload hx hb dX8_isSeen_47 (lv_at hl 0 rfl) ?_
              refine lv_iload_n hx hb dX8_isSeen_49 rfl (lv_at hl 4 rfl) ?_
              refine rd_i (va_runV (As := [.int (nI (pt / 8)), .int (nI (pt % 8)), .int (nI k2), .int (nI p)]) (rest := []) ⟨hx, hb, hml, hown, hts⟩ (c_X8_ridgeHides l G h v q px py hi ra rb pt p k2 (fa k2) (sb k2) (hpt) (hp) (by omega) (e1) (e2) (h1) (h2)) (cwV 4 hts gX8_isSeen_X8_ridgeHides rfl rfl rfl (by decide +kernel) ⟨Nat.le_of_ble_eq_true rfl, Nat.le_of_ble_eq_true rfl⟩) (rPre_V hK hP [0, 1, 2, 3, 4, 5] rfl 0 8 rfl rfl) rfl rfl hl.1 rfl (lv_room (Nat.le_of_ble_eq_true rfl)) dX8_isSeen_50 ⟨Nat.zero_le _, Nat.zero_le _⟩) (fun r_50 q_50 => ?_)
              obtain rfl : r_50 = b2i (gridge px py hi pt p (fa k2) (sb k2)) := q_50
              refine lv_if_eq (tgt := 58) hx hb dX8_isSeen_53 (by decide) (fun c_53 => ?_) (fun c_53 => ?_)
              · have c_53 : (gridge px py hi pt p (fa k2) (sb k2)) = false := b2i_0.mp c_53
                refine lv_iinc (v := nI (k2 + 1)) (lv' := [(4, .int (nI (k2 + 1))), (0, .ref h), (1, .int (nI (pt / 8))), (2, .int (nI (pt % 8))), (3, .int (nI p))]) hx hb dX8_isSeen_58 hl (k := 0) rfl (inc_nI _ 1) (by decide) rfl (fun ls hl => ?_)
                refine lv_goto (tgt := 35) hx hb dX8_isSeen_61 (by decide) ?_
                exact ih35 (k2 + 1) (by omega) (by omega) (fun j h => (Nat.lt_succ_iff_lt_or_eq.mp h).elim (hi2 j) (fun e => e ▸ c_53)) _ (lv_sub hl [0, 1, 2, 3, 4] rfl)
              · have c_53 : (gridge px py hi pt p (fa k2) (sb k2)) = true := b2i_n0.mp c_53
                refine lv_iconst (v := 0) hx hb dX8_isSeen_56 (by decide) ?_
                exact hret _ _ _ (by rw [ghid, anyB_yes (f := fun r => gridge px py hi pt p (fa r) (sb r)) (k := k2) (by omega) c_53, Bool.or_true]; rfl) (rfl) dX8_isSeen_57
        exact loop_35 _ 0 (Nat.lt_succ_self _) (Nat.zero_le _) (fun j h => absurd h (Nat.not_lt_zero j)) _ (lv_sub hl [0, 1, 2, 3, 4] rfl)
      · have c_9 : ¬ n ≤ k := fun hne => c_9 ((c_le (a := n) (b := k) rfl rfl (by omega) (by omega)).mpr hne)
        refine lv_aload_n hx hb dX8_isSeen_12 rfl (lv_at hl 1 rfl) ?_
        refine lv_iload_n hx hb dX8_isSeen_13 rfl (lv_at hl 2 rfl) ?_
        refine lv_iload_n hx hb dX8_isSeen_14 rfl (lv_at hl 3 rfl) ?_
        refine lv_iload hx hb dX8_isSeen_15 (lv_at hl 0 rfl) ?_
        refine lv_iload_n hx hb dX8_isSeen_17 rfl (lv_at hl 4 rfl) ?_
        refine rd_i (va_runV (As := [.int (nI (pt / 8)), .int (nI (pt % 8)), .int (nI k), .int (nI p)]) (rest := []) ⟨hx, hb, hml, hown, hts⟩ (c_X8_hides l G h v q px py hi pt p k (hpt) (hp) (by omega)) (cwV 4 hts gX8_isSeen_X8_hides rfl rfl rfl (by decide +kernel) ⟨Nat.le_of_ble_eq_true rfl, Nat.le_of_ble_eq_true rfl⟩) (rPre_V hK hP [0, 1, 2, 3] rfl 0 8 rfl rfl) rfl rfl hl.1 rfl (lv_room (Nat.le_of_ble_eq_true rfl)) dX8_isSeen_18 ⟨Nat.zero_le _, Nat.zero_le _⟩) (fun r_18 q_18 => ?_)
        obtain rfl : r_18 = b2i (gpeak px py hi pt p k) := q_18
        refine lv_if_eq (tgt := 26) hx hb dX8_isSeen_21 (by decide) (fun c_21 => ?_) (fun c_21 => ?_)
        · have c_21 : (gpeak px py hi pt p k) = false := b2i_0.mp c_21
          refine lv_iinc (v := nI (k + 1)) (lv' := [(4, .int (nI (k + 1))), (0, .ref h), (1, .int (nI (pt / 8))), (2, .int (nI (pt % 8))), (3, .int (nI p))]) hx hb dX8_isSeen_26 hl (k := 0) rfl (inc_nI _ 1) (by decide) rfl (fun ls hl => ?_)
          refine lv_goto (tgt := 3) hx hb dX8_isSeen_29 (by decide) ?_
          exact ih3 (k + 1) (by omega) (by omega) (fun j h => (Nat.lt_succ_iff_lt_or_eq.mp h).elim (hi1 j) (fun e => e ▸ c_21)) _ (lv_sub hl [0, 1, 2, 3, 4] rfl)
        · have c_21 : (gpeak px py hi pt p k) = true := b2i_n0.mp c_21
          refine lv_iconst (v := 0) hx hb dX8_isSeen_24 (by decide) ?_
          exact hret _ _ _ (by rw [ghid, anyB_yes (k := k) (by omega) c_21]; rfl) (rfl) dX8_isSeen_25
  exact loop_3 _ 0 (Nat.lt_succ_self _) (Nat.zero_le _) (fun j h => absurd h (Nat.not_lt_zero j)) _ (lv_sub hl [0, 1, 2, 3, 4] rfl)

abbrev rX8_item : Room := { frames := 5, cells := 0, slots := 0, locals := 108 }
set_option maxHeartbeats 4000000 in
set_option maxRecDepth 100000 in
theorem c_X8_item (l : Launch) (G : kG) (h : Nat) (v : Nat → Int32) (q : Nat → Nat) (tx : Nat → Int32) (rx : Nat → Int32) (ry : Nat → Int32) (rh : Nat → Int32) (ra : Nat → Int32) (rb : Nat → Int32) (σ : PS) (len : Nat) (i : Nat) (hl22 : v 22 = nI len) (hlen : len ≤ 140) (hn : v 24 = nI (tkE tx len i)) (hi : i ≤ len) (hT : ∀ k, k < len → ∃ c : Nat, c ≤ 255 ∧ tx k = nI c) (hok : okPS σ) (hob : obM σ v) (har : arM σ rx ry rh ra rb) (hv25 : v 25 = nI (tkS tx len i)) (hv26 : v 26 = mtok tx len i) : Ci l G yX8_item wsX8_item rX8_item [.ref h] [oB h 8 (oF8 v q), aI G (q 23) 140 tx, aI G (q 29) 10 rx, aI G (q 30) 10 ry, aI G (q 31) 10 rh, aI G (q 33) 8 ra, aI G (q 34) 8 rb] (fun r (u : (Nat → Int32) × (Nat → Int32) × (Nat → Int32) × (Nat → Int32) × (Nat → Int32) × (Nat → Int32)) => r = b2i (mItem tx len σ i).1.1 ∧ u.1 25 = nI (mItem tx len σ i).1.2.1 ∧ ((mItem tx len σ i).1.1 = true → u.1 24 = nI (mItem tx len σ i).1.2.2 ∧ obM (mItem tx len σ i).2 u.1 ∧ arM (mItem tx len σ i).2 u.2.1 u.2.2.1 u.2.2.2.1 u.2.2.2.2.1 u.2.2.2.2.2) ∧ (∀ k, ¬ k = 24 → ¬ k = 25 → ¬ k = 26 → ¬ k = 27 → ¬ k = 28 → ¬ k = 32 → ¬ k = 35 → u.1 k = v k)) (fun u => [oB h 8 (oF8 u.1 q), aI G (q 23) 140 tx, aI G (q 29) 10 u.2.1, aI G (q 30) 10 u.2.2.1, aI G (q 31) 10 u.2.2.2.1, aI G (q 33) 8 u.2.2.2.2.1, aI G (q 34) 8 u.2.2.2.2.2]) := by
  refine Ci.of (cc := cX8_item) (maxL := 2) (by decide) rfl (Nat.le_of_ble_eq_true rfl) ?_
  intro pM eM sM mM bM tM cM Q A hx hb hts hown hml hA hK hP hD hS hret ls hl
  have hown : sM.vm.findClass RX8 = some mM.cls := hown
  have hl : lv_has ls 2 [(0, .ref h)] := hl
  have hin8 : ∀ w ∈ u_ws RX8 TX8 44, w ∈ wsX8_item := by decide +kernel
  have f118 := hts (.fieldLink RX8 118 "HorizonPeaksModel" "token" "I") (by decide +kernel)
  have f128 := hts (.fieldLink RX8 128 "HorizonPeaksModel" "number" "I") (by decide +kernel)
  have f148 := hts (.fieldLink RX8 148 "HorizonPeaksModel" "readSlack" "I") (by decide +kernel)
  have hEi := (tk_le (tx := tx) hi).2.2
  have t112 : mtok tx len i = 112 ↔ tkK tx len i = 112 := mt_let (c := 112) hT (by omega)
  have t114 : mtok tx len i = 114 ↔ tkK tx len i = 114 := mt_let (c := 114) hT (by omega)
  have t115 : mtok tx len i = 115 ↔ tkK tx len i = 115 := mt_let (c := 115) hT (by omega)
  refine lv_aload_n hx hb dX8_item_0 rfl (lv_at hl 0 rfl) ?_
  refine va_get (D := G.1) (ci := 8) (v := .int (v 26)) (C := RX8) (T := TX8) (N := 44) hx hb hts hin8 hown hK.1 hP 0 rfl rfl 26 (by decide) f118 (fun _ h9 => h9) rfl dX8_item_1 ?_
  refine top_i (y := mtok tx len i) (hv26) ?_
  refine lv_bipush (v := 112) hx hb dX8_item_4 (by decide) ?_
  refine lv_icmp_ne (tgt := 14) hx hb dX8_item_6 (by decide) (fun c_6 => ?_) (fun c_6 => ?_)
  · refine lv_aload_n hx hb dX8_item_14 rfl (lv_at hl 0 rfl) ?_
    refine va_get (D := G.1) (ci := 8) (v := .int (v 26)) (C := RX8) (T := TX8) (N := 44) hx hb hts hin8 hown hK.1 hP 0 rfl rfl 26 (by decide) f118 (fun _ h9 => h9) rfl dX8_item_15 ?_
    refine top_i (y := mtok tx len i) (hv26) ?_
    refine lv_bipush (v := 114) hx hb dX8_item_18 (by decide) ?_
    refine lv_icmp_ne (tgt := 28) hx hb dX8_item_20 (by decide) (fun c_20 => ?_) (fun c_20 => ?_)
    · refine lv_aload_n hx hb dX8_item_28 rfl (lv_at hl 0 rfl) ?_
      refine va_get (D := G.1) (ci := 8) (v := .int (v 26)) (C := RX8) (T := TX8) (N := 44) hx hb hts hin8 hown hK.1 hP 0 rfl rfl 26 (by decide) f118 (fun _ h9 => h9) rfl dX8_item_29 ?_
      refine top_i (y := mtok tx len i) (hv26) ?_
      refine lv_bipush (v := 115) hx hb dX8_item_32 (by decide) ?_
      refine lv_icmp_ne (tgt := 50) hx hb dX8_item_34 (by decide) (fun c_34 => ?_) (fun c_34 => ?_)
      · refine lv_iconst (v := 0) hx hb dX8_item_50 (by decide) ?_
        refine lv_istore_n (lv' := [(1, .int 0), (0, .ref h)]) hx hb dX8_item_51 rfl hl (by decide) rfl (fun ls hl => ?_)
        refine lv_aload_n hx hb dX8_item_52 rfl (lv_at hl 1 rfl) ?_
        refine lv_aload_n hx hb dX8_item_53 rfl (lv_at hl 1 rfl) ?_
        refine va_get (D := G.1) (ci := 8) (v := .int (v 27)) (C := RX8) (T := TX8) (N := 44) hx hb hts hin8 hown hK.1 hP 0 rfl rfl 27 (by decide) f128 (fun _ h9 => h9) rfl dX8_item_54 ?_
        refine va_put (D := G.1) (ci := 8) (v := .int (v 27)) (ty := .int) (C := RX8) (T := TX8) (N := 44) hx hb hts hin8 tyX8 tyX8_ok nmX8 hown hK.1 hP hD hS 0 rfl rfl 35 (by decide) f148 (fun _ h9 => h9) rfl (by decide +kernel) rfl rfl (Nat.le_of_ble_eq_true rfl) dX8_item_57 (fun H locs hP hD hS => ?_)
        have hP : va_P G.1 vwCl [oB h 8 (oF8 (upd v 35 (v 27)) q), aI G (q 23) 140 tx, aI G (q 29) 10 rx, aI G (q 30) 10 ry, aI G (q 31) 10 rh, aI G (q 33) 8 ra, aI G (q 34) 8 rb] H := hP
        have hD : va_D A [oB h 8 (oF8 (upd v 35 (v 27)) q), aI G (q 23) 140 tx, aI G (q 29) 10 rx, aI G (q 30) 10 ry, aI G (q 31) 10 rh, aI G (q 33) 8 ra, aI G (q 34) 8 rb] := hD
        refine lv_iload_n hx hb dX8_item_60 rfl (lv_at hl 0 rfl) ?_
        have hpost : (0 : Int32) = b2i (mItem tx len σ i).1.1 ∧ (upd v 35 (v 27), rx, ry, rh, ra, rb).1 25 = nI (mItem tx len σ i).1.2.1 ∧ ((mItem tx len σ i).1.1 = true → (upd v 35 (v 27), rx, ry, rh, ra, rb).1 24 = nI (mItem tx len σ i).1.2.2 ∧ obM (mItem tx len σ i).2 (upd v 35 (v 27), rx, ry, rh, ra, rb).1 ∧ arM (mItem tx len σ i).2 (upd v 35 (v 27), rx, ry, rh, ra, rb).2.1 (upd v 35 (v 27), rx, ry, rh, ra, rb).2.2.1 (upd v 35 (v 27), rx, ry, rh, ra, rb).2.2.2.1 (upd v 35 (v 27), rx, ry, rh, ra, rb).2.2.2.2.1 (upd v 35 (v 27), rx, ry, rh, ra, rb).2.2.2.2.2) ∧ (∀ k, ¬ k = 24 → ¬ k = 25 → ¬ k = 26 → ¬ k = 27 → ¬ k = 28 → ¬ k = 32 → ¬ k = 35 → (upd v 35 (v 27), rx, ry, rh, ra, rb).1 k = v k) := by
          have e : mItem tx len σ i = ((false, tkS tx len i, tkE tx len i), σ) := by rw [mItem, if_neg (fun h => c_6 (t112.mpr h)), if_neg (fun h => c_20 (t114.mpr h)), if_neg (fun h => c_34 (t115.mpr h))]
          rw [e]
          exact ⟨rfl, hv25, fun h => (by cases h), fun k h24 h25 h26 h27 h28 h32 h35 => by simp only [upd, if_neg h35]⟩
        exact hret _ (upd v 35 (v 27), rx, ry, rh, ra, rb) _ _ _ _ (hpost) (rfl) hP hD hS dX8_item_61
      · refine lv_aload_n hx hb dX8_item_37 rfl (lv_at hl 0 rfl) ?_
        refine lv_iconst (v := 0) hx hb dX8_item_38 (by decide) ?_
        refine lv_iconst (v := 3) hx hb dX8_item_39 (by decide) ?_
        refine ca_i (wr := [aI G (q 29) 10 rx, aI G (q 30) 10 ry, aI G (q 31) 10 rh, aI G (q 33) 8 ra, aI G (q 34) 8 rb]) (va_runV (As := [.int 0, .int 3]) (rest := []) ⟨hx, hb, hml, hown, hts⟩ ((c_X8_reads l G h v q tx len (tkE tx len i) 0 3 (hl22) (hlen) (hn) (hEi) (hT) (by omega) (by omega)) _) (cwV 2 hts gX8_item_X8_reads rfl rfl rfl (by decide +kernel) ⟨Nat.le_of_ble_eq_true rfl, Nat.le_of_ble_eq_true rfl⟩) (cPre_V hK hP hD [0, 1] (by decide) rfl 0 8 rfl rfl) rfl rfl hl.1 rfl (lv_room (Nat.le_of_ble_eq_true rfl)) dX8_item_40 ⟨Nat.zero_le _, Nat.zero_le _⟩) hP hD hS hA [0, 1] [2, 3, 4, 5, 6] rfl rfl (by decide) (by decide) [5, 6, 0, 1, 2, 3, 4] (fun u_40 => [oB h 8 (oF8 u_40 q), aI G (q 23) 140 tx, aI G (q 29) 10 rx, aI G (q 30) 10 ry, aI G (q 31) 10 rh, aI G (q 33) 8 ra, aI G (q 34) 8 rb]) (by decide) (fun _ => rfl) (fun r_40 u_40 H locs q_40 hP hD hS => ?_)
        obtain ⟨rfl, q_40⟩ : r_40 = b2i (tN tx len (tkE tx len i) (nI 0) (nI 3)) ∧ (u_40 24 = nI (tkE tx len (tkE tx len i)) ∧ u_40 25 = nI (tkS tx len (tkE tx len i)) ∧ u_40 26 = mtok tx len (tkE tx len i) ∧ (tN tx len (tkE tx len i) (nI 0) (nI 3) = true → u_40 27 = nI (tkV tx len (tkE tx len i))) ∧ (∀ k, ¬ k = 24 → ¬ k = 25 → ¬ k = 26 → ¬ k = 27 → u_40 k = v k)) := q_40
        have hP : va_P G.1 vwCl [oB h 8 (oF8 u_40 q), aI G (q 23) 140 tx, aI G (q 29) 10 rx, aI G (q 30) 10 ry, aI G (q 31) 10 rh, aI G (q 33) 8 ra, aI G (q 34) 8 rb] H := hP
        have hD : va_D A [oB h 8 (oF8 u_40 q), aI G (q 23) 140 tx, aI G (q 29) 10 rx, aI G (q 30) 10 ry, aI G (q 31) 10 rh, aI G (q 33) 8 ra, aI G (q 34) 8 rb] := hD
        refine lv_if_eq (tgt := 50) hx hb dX8_item_43 (by decide) (fun c_43 => ?_) (fun c_43 => ?_)
        · have c_43 : (tN tx len (tkE tx len i) (nI 0) (nI 3)) = false := b2i_0.mp c_43
          refine lv_iconst (v := 0) hx hb dX8_item_50 (by decide) ?_
          refine lv_istore_n (lv' := [(1, .int 0), (0, .ref h)]) hx hb dX8_item_51 rfl hl (by decide) rfl (fun ls hl => ?_)
          refine lv_aload_n hx hb dX8_item_52 rfl (lv_at hl 1 rfl) ?_
          refine lv_aload_n hx hb dX8_item_53 rfl (lv_at hl 1 rfl) ?_
          refine va_get (D := G.1) (ci := 8) (v := .int (u_40 27)) (C := RX8) (T := TX8) (N := 44) hx hb hts hin8 hown hK.1 hP 0 rfl rfl 27 (by decide) f128 (fun _ h9 => h9) rfl dX8_item_54 ?_
          refine va_put (D := G.1) (ci := 8) (v := .int (u_40 27)) (ty := .int) (C := RX8) (T := TX8) (N := 44) hx hb hts hin8 tyX8 tyX8_ok nmX8 hown hK.1 hP hD hS 0 rfl rfl 35 (by decide) f148 (fun _ h9 => h9) rfl (by decide +kernel) rfl rfl (Nat.le_of_ble_eq_true rfl) dX8_item_57 (fun H locs hP hD hS => ?_)
          have hP : va_P G.1 vwCl [oB h 8 (oF8 (upd u_40 35 (u_40 27)) q), aI G (q 23) 140 tx, aI G (q 29) 10 rx, aI G (q 30) 10 ry, aI G (q 31) 10 rh, aI G (q 33) 8 ra, aI G (q 34) 8 rb] H := hP
          have hD : va_D A [oB h 8 (oF8 (upd u_40 35 (u_40 27)) q), aI G (q 23) 140 tx, aI G (q 29) 10 rx, aI G (q 30) 10 ry, aI G (q 31) 10 rh, aI G (q 33) 8 ra, aI G (q 34) 8 rb] := hD
          refine lv_iload_n hx hb dX8_item_60 rfl (lv_at hl 0 rfl) ?_
          have hpost : (0 : Int32) = b2i (mItem tx len σ i).1.1 ∧ (upd u_40 35 (u_40 27), rx, ry, rh, ra, rb).1 25 = nI (mItem tx len σ i).1.2.1 ∧ ((mItem tx len σ i).1.1 = true → (upd u_40 35 (u_40 27), rx, ry, rh, ra, rb).1 24 = nI (mItem tx len σ i).1.2.2 ∧ obM (mItem tx len σ i).2 (upd u_40 35 (u_40 27), rx, ry, rh, ra, rb).1 ∧ arM (mItem tx len σ i).2 (upd u_40 35 (u_40 27), rx, ry, rh, ra, rb).2.1 (upd u_40 35 (u_40 27), rx, ry, rh, ra, rb).2.2.1 (upd u_40 35 (u_40 27), rx, ry, rh, ra, rb).2.2.2.1 (upd u_40 35 (u_40 27), rx, ry, rh, ra, rb).2.2.2.2.1 (upd u_40 35 (u_40 27), rx, ry, rh, ra, rb).2.2.2.2.2) ∧ (∀ k, ¬ k = 24 → ¬ k = 25 → ¬ k = 26 → ¬ k = 27 → ¬ k = 28 → ¬ k = 32 → ¬ k = 35 → (upd u_40 35 (u_40 27), rx, ry, rh, ra, rb).1 k = v k) := by
            have c_43 : tN tx len (tkE tx len i) 0 3 = false := c_43
            have e : mItem tx len σ i = mSlack tx len σ (tkE tx len i) := by rw [mItem, if_neg (fun h => c_6 (t112.mpr h)), if_neg (fun h => c_20 (t114.mpr h)), if_pos (t115.mp c_34)]
            rw [e]
            have e2 : mSlack tx len σ (tkE tx len i) = ((false, tkS tx len (tkE tx len i), tkE tx len (tkE tx len i)), σ) := by rw [mSlack, if_pos c_43]
            rw [e2]
            exact ⟨rfl, q_40.2.1, fun h => (by cases h), fun k h24 h25 h26 h27 h28 h32 h35 => by simp only [upd, if_neg h35]; exact q_40.2.2.2.2 k h24 h25 h26 h27⟩
          exact hret _ (upd u_40 35 (u_40 27), rx, ry, rh, ra, rb) _ _ _ _ (hpost) (rfl) hP hD hS dX8_item_61
        · have c_43 : (tN tx len (tkE tx len i) (nI 0) (nI 3)) = true := b2i_n0.mp c_43
          refine lv_iconst (v := 1) hx hb dX8_item_46 (by decide) ?_
          refine lv_goto (tgt := 51) hx hb dX8_item_47 (by decide) ?_
          refine lv_istore_n (lv' := [(1, .int 1), (0, .ref h)]) hx hb dX8_item_51 rfl hl (by decide) rfl (fun ls hl => ?_)
          refine lv_aload_n hx hb dX8_item_52 rfl (lv_at hl 1 rfl) ?_
          refine lv_aload_n hx hb dX8_item_53 rfl (lv_at hl 1 rfl) ?_
          refine va_get (D := G.1) (ci := 8) (v := .int (u_40 27)) (C := RX8) (T := TX8) (N := 44) hx hb hts hin8 hown hK.1 hP 0 rfl rfl 27 (by decide) f128 (fun _ h9 => h9) rfl dX8_item_54 ?_
          refine va_put (D := G.1) (ci := 8) (v := .int (u_40 27)) (ty := .int) (C := RX8) (T := TX8) (N := 44) hx hb hts hin8 tyX8 tyX8_ok nmX8 hown hK.1 hP hD hS 0 rfl rfl 35 (by decide) f148 (fun _ h9 => h9) rfl (by decide +kernel) rfl rfl (Nat.le_of_ble_eq_true rfl) dX8_item_57 (fun H locs hP hD hS => ?_)
          have hP : va_P G.1 vwCl [oB h 8 (oF8 (upd u_40 35 (u_40 27)) q), aI G (q 23) 140 tx, aI G (q 29) 10 rx, aI G (q 30) 10 ry, aI G (q 31) 10 rh, aI G (q 33) 8 ra, aI G (q 34) 8 rb] H := hP
          have hD : va_D A [oB h 8 (oF8 (upd u_40 35 (u_40 27)) q), aI G (q 23) 140 tx, aI G (q 29) 10 rx, aI G (q 30) 10 ry, aI G (q 31) 10 rh, aI G (q 33) 8 ra, aI G (q 34) 8 rb] := hD
          refine lv_iload_n hx hb dX8_item_60 rfl (lv_at hl 0 rfl) ?_
          have hpost : (1 : Int32) = b2i (mItem tx len σ i).1.1 ∧ (upd u_40 35 (u_40 27), rx, ry, rh, ra, rb).1 25 = nI (mItem tx len σ i).1.2.1 ∧ ((mItem tx len σ i).1.1 = true → (upd u_40 35 (u_40 27), rx, ry, rh, ra, rb).1 24 = nI (mItem tx len σ i).1.2.2 ∧ obM (mItem tx len σ i).2 (upd u_40 35 (u_40 27), rx, ry, rh, ra, rb).1 ∧ arM (mItem tx len σ i).2 (upd u_40 35 (u_40 27), rx, ry, rh, ra, rb).2.1 (upd u_40 35 (u_40 27), rx, ry, rh, ra, rb).2.2.1 (upd u_40 35 (u_40 27), rx, ry, rh, ra, rb).2.2.2.1 (upd u_40 35 (u_40 27), rx, ry, rh, ra, rb).2.2.2.2.1 (upd u_40 35 (u_40 27), rx, ry, rh, ra, rb).2.2.2.2.2) ∧ (∀ k, ¬ k = 24 → ¬ k = 25 → ¬ k = 26 → ¬ k = 27 → ¬ k = 28 → ¬ k = 32 → ¬ k = 35 → (upd u_40 35 (u_40 27), rx, ry, rh, ra, rb).1 k = v k) := by
            have c_43 : tN tx len (tkE tx len i) 0 3 = true := c_43
            have e : mItem tx len σ i = mSlack tx len σ (tkE tx len i) := by rw [mItem, if_neg (fun h => c_6 (t112.mpr h)), if_neg (fun h => c_20 (t114.mpr h)), if_pos (t115.mp c_34)]
            rw [e]
            have e2 : mSlack tx len σ (tkE tx len i) = ((true, tkS tx len (tkE tx len i), tkE tx len (tkE tx len i)), setS σ (tkV tx len (tkE tx len i))) := by rw [mSlack, if_neg (ne_f c_43)]
            rw [e2]
            exact ⟨rfl, q_40.2.1, fun _ => ⟨q_40.1, ⟨(q_40.2.2.2.2 28 (by decide) (by decide) (by decide) (by decide)).trans hob.1, (q_40.2.2.2.2 32 (by decide) (by decide) (by decide) (by decide)).trans hob.2.1, q_40.2.2.2.1 c_43⟩, har⟩, fun k h24 h25 h26 h27 h28 h32 h35 => by simp only [upd, if_neg h35]; exact q_40.2.2.2.2 k h24 h25 h26 h27⟩
          exact hret _ (upd u_40 35 (u_40 27), rx, ry, rh, ra, rb) _ _ _ _ (hpost) (rfl) hP hD hS dX8_item_61
    · refine lv_aload_n hx hb dX8_item_23 rfl (lv_at hl 0 rfl) ?_
      refine ca_i (wr := [aI G (q 29) 10 rx, aI G (q 30) 10 ry, aI G (q 31) 10 rh]) (va_runV (As := []) (rest := []) ⟨hx, hb, hml, hown, hts⟩ ((c_X8_readsRidge l G h v q tx rx ry rh ra rb σ len (tkS tx len i) (tkE tx len i) (hl22) (hlen) (hn) (hEi) (hT) (hok) (hob) (har) (hv25)) _) (cwV 0 hts gX8_item_X8_readsRidge rfl rfl rfl (by decide +kernel) ⟨Nat.le_of_ble_eq_true rfl, Nat.le_of_ble_eq_true rfl⟩) (cPre_V hK hP hD [0, 1, 5, 6] (by decide) rfl 0 8 rfl rfl) rfl rfl hl.1 rfl (lv_room (Nat.le_of_ble_eq_true rfl)) dX8_item_24 ⟨Nat.zero_le _, Nat.zero_le _⟩) hP hD hS hA [0, 1, 5, 6] [2, 3, 4] rfl rfl (by decide) (by decide) [3, 4, 0, 1, 2, 5, 6] (fun u_24 => [oB h 8 (oF8 u_24.1 q), aI G (q 23) 140 tx, aI G (q 29) 10 rx, aI G (q 30) 10 ry, aI G (q 31) 10 rh, aI G (q 33) 8 u_24.2.1, aI G (q 34) 8 u_24.2.2]) (by decide) (fun _ => rfl) (fun r_24 u_24 H locs q_24 hP hD hS => ?_)
      obtain ⟨rfl, q_24⟩ : r_24 = b2i (mRidge tx len σ (tkS tx len i) (tkE tx len i)).1.1 ∧ (u_24.1 25 = nI (mRidge tx len σ (tkS tx len i) (tkE tx len i)).1.2.1 ∧ ((mRidge tx len σ (tkS tx len i) (tkE tx len i)).1.1 = true → u_24.1 24 = nI (mRidge tx len σ (tkS tx len i) (tkE tx len i)).1.2.2 ∧ obM (mRidge tx len σ (tkS tx len i) (tkE tx len i)).2 u_24.1 ∧ arM (mRidge tx len σ (tkS tx len i) (tkE tx len i)).2 rx ry rh u_24.2.1 u_24.2.2) ∧ (∀ k, ¬ k = 24 → ¬ k = 25 → ¬ k = 26 → ¬ k = 27 → ¬ k = 28 → ¬ k = 32 → ¬ k = 35 → u_24.1 k = v k)) := q_24
      have hP : va_P G.1 vwCl [oB h 8 (oF8 u_24.1 q), aI G (q 23) 140 tx, aI G (q 29) 10 rx, aI G (q 30) 10 ry, aI G (q 31) 10 rh, aI G (q 33) 8 u_24.2.1, aI G (q 34) 8 u_24.2.2] H := hP
      have hD : va_D A [oB h 8 (oF8 u_24.1 q), aI G (q 23) 140 tx, aI G (q 29) 10 rx, aI G (q 30) 10 ry, aI G (q 31) 10 rh, aI G (q 33) 8 u_24.2.1, aI G (q 34) 8 u_24.2.2] := hD
      have hpost : (b2i (mRidge tx len σ (tkS tx len i) (tkE tx len i)).1.1 : Int32) = b2i (mItem tx len σ i).1.1 ∧ (u_24.1, rx, ry, rh, u_24.2.1, u_24.2.2).1 25 = nI (mItem tx len σ i).1.2.1 ∧ ((mItem tx len σ i).1.1 = true → (u_24.1, rx, ry, rh, u_24.2.1, u_24.2.2).1 24 = nI (mItem tx len σ i).1.2.2 ∧ obM (mItem tx len σ i).2 (u_24.1, rx, ry, rh, u_24.2.1, u_24.2.2).1 ∧ arM (mItem tx len σ i).2 (u_24.1, rx, ry, rh, u_24.2.1, u_24.2.2).2.1 (u_24.1, rx, ry, rh, u_24.2.1, u_24.2.2).2.2.1 (u_24.1, rx, ry, rh, u_24.2.1, u_24.2.2).2.2.2.1 (u_24.1, rx, ry, rh, u_24.2.1, u_24.2.2).2.2.2.2.1 (u_24.1, rx, ry, rh, u_24.2.1, u_24.2.2).2.2.2.2.2) ∧ (∀ k, ¬ k = 24 → ¬ k = 25 → ¬ k = 26 → ¬ k = 27 → ¬ k = 28 → ¬ k = 32 → ¬ k = 35 → (u_24.1, rx, ry, rh, u_24.2.1, u_24.2.2).1 k = v k) := by
        have e : mItem tx len σ i = mRidge tx len σ (tkS tx len i) (tkE tx len i) := by rw [mItem, if_neg (fun h => c_6 (t112.mpr h)), if_pos (t114.mp c_20)]
        rw [e]
        exact ⟨rfl, q_24⟩
      exact hret _ (u_24.1, rx, ry, rh, u_24.2.1, u_24.2.2) _ _ _ _ (hpost) (b2i_nar _) hP hD hS dX8_item_27
  · refine lv_aload_n hx hb dX8_item_9 rfl (lv_at hl 0 rfl) ?_
    refine ca_i (wr := [aI G (q 33) 8 ra, aI G (q 34) 8 rb]) (va_runV (As := []) (rest := []) ⟨hx, hb, hml, hown, hts⟩ ((c_X8_readsPeak l G h v q tx rx ry rh ra rb σ len (tkS tx len i) (tkE tx len i) (hl22) (hlen) (hn) (hEi) (hT) (hok) (hob) (har) (hv25)) _) (cwV 0 hts gX8_item_X8_readsPeak rfl rfl rfl (by decide +kernel) ⟨Nat.le_of_ble_eq_true rfl, Nat.le_of_ble_eq_true rfl⟩) (cPre_V hK hP hD [0, 1, 2, 3, 4] (by decide) rfl 0 8 rfl rfl) rfl rfl hl.1 rfl (lv_room (Nat.le_of_ble_eq_true rfl)) dX8_item_10 ⟨Nat.zero_le _, Nat.zero_le _⟩) hP hD hS hA [0, 1, 2, 3, 4] [5, 6] rfl rfl (by decide) (by decide) [2, 3, 4, 5, 6, 0, 1] (fun u_10 => [oB h 8 (oF8 u_10.1 q), aI G (q 23) 140 tx, aI G (q 29) 10 u_10.2.1, aI G (q 30) 10 u_10.2.2.1, aI G (q 31) 10 u_10.2.2.2, aI G (q 33) 8 ra, aI G (q 34) 8 rb]) (by decide) (fun _ => rfl) (fun r_10 u_10 H locs q_10 hP hD hS => ?_)
    obtain ⟨rfl, q_10⟩ : r_10 = b2i (mPeak tx len σ (tkS tx len i) (tkE tx len i)).1.1 ∧ (u_10.1 25 = nI (mPeak tx len σ (tkS tx len i) (tkE tx len i)).1.2.1 ∧ ((mPeak tx len σ (tkS tx len i) (tkE tx len i)).1.1 = true → u_10.1 24 = nI (mPeak tx len σ (tkS tx len i) (tkE tx len i)).1.2.2 ∧ obM (mPeak tx len σ (tkS tx len i) (tkE tx len i)).2 u_10.1 ∧ arM (mPeak tx len σ (tkS tx len i) (tkE tx len i)).2 u_10.2.1 u_10.2.2.1 u_10.2.2.2 ra rb) ∧ (∀ k, ¬ k = 24 → ¬ k = 25 → ¬ k = 26 → ¬ k = 27 → ¬ k = 28 → ¬ k = 32 → ¬ k = 35 → u_10.1 k = v k)) := q_10
    have hP : va_P G.1 vwCl [oB h 8 (oF8 u_10.1 q), aI G (q 23) 140 tx, aI G (q 29) 10 u_10.2.1, aI G (q 30) 10 u_10.2.2.1, aI G (q 31) 10 u_10.2.2.2, aI G (q 33) 8 ra, aI G (q 34) 8 rb] H := hP
    have hD : va_D A [oB h 8 (oF8 u_10.1 q), aI G (q 23) 140 tx, aI G (q 29) 10 u_10.2.1, aI G (q 30) 10 u_10.2.2.1, aI G (q 31) 10 u_10.2.2.2, aI G (q 33) 8 ra, aI G (q 34) 8 rb] := hD
    have hpost : (b2i (mPeak tx len σ (tkS tx len i) (tkE tx len i)).1.1 : Int32) = b2i (mItem tx len σ i).1.1 ∧ (u_10.1, u_10.2.1, u_10.2.2.1, u_10.2.2.2, ra, rb).1 25 = nI (mItem tx len σ i).1.2.1 ∧ ((mItem tx len σ i).1.1 = true → (u_10.1, u_10.2.1, u_10.2.2.1, u_10.2.2.2, ra, rb).1 24 = nI (mItem tx len σ i).1.2.2 ∧ obM (mItem tx len σ i).2 (u_10.1, u_10.2.1, u_10.2.2.1, u_10.2.2.2, ra, rb).1 ∧ arM (mItem tx len σ i).2 (u_10.1, u_10.2.1, u_10.2.2.1, u_10.2.2.2, ra, rb).2.1 (u_10.1, u_10.2.1, u_10.2.2.1, u_10.2.2.2, ra, rb).2.2.1 (u_10.1, u_10.2.1, u_10.2.2.1, u_10.2.2.2, ra, rb).2.2.2.1 (u_10.1, u_10.2.1, u_10.2.2.1, u_10.2.2.2, ra, rb).2.2.2.2.1 (u_10.1, u_10.2.1, u_10.2.2.1, u_10.2.2.2, ra, rb).2.2.2.2.2) ∧ (∀ k, ¬ k = 24 → ¬ k = 25 → ¬ k = 26 → ¬ k = 27 → ¬ k = 28 → ¬ k = 32 → ¬ k = 35 → (u_10.1, u_10.2.1, u_10.2.2.1, u_10.2.2.2, ra, rb).1 k = v k) := by
      have e : mItem tx len σ i = mPeak tx len σ (tkS tx len i) (tkE tx len i) := by rw [mItem, if_pos (t112.mp c_6)]
      rw [e]
      exact ⟨rfl, q_10⟩
    exact hret _ (u_10.1, u_10.2.1, u_10.2.2.1, u_10.2.2.2, ra, rb) _ _ _ _ (hpost) (b2i_nar _) hP hD hS dX8_item_13
