/-! the model's views -/
def ftR (σ : PS) (N : NL) (x y z w w2 : Int32) : Int32 := if (pPlace (cPk σ) x y && (pLook z && (pHas (nI N.1) w && pHas (nI (zn σ)) w2))) = true then b2i (cVi σ (ptN x y) w2.toNatClampNeg && fitB σ N (ptN x y) z.toNatClampNeg w.toNatClampNeg w2.toNatClampNeg) else -1
noncomputable def scR (σ : PS) (N : NL) (x y z : Int32) : Int32 := if (pPlace (cPk σ) x y && pLook z) = true then nI (sc (gS σ N (ptN x y) z.toNatClampNeg (-9) (-9)) N.1) else -1
noncomputable def wlP (σ : PS) (N : NL) (wo : Int32) (due w : Nat) : Bool := decide (cPk σ (w / 64) = 0) && decide (sc (gS σ N (w / 64) (w % 64) wo (-9)) N.1 = due)
theorem div64 {a : Nat} (ha : a < 2 ^ 31) : nI a / 64 = nI (a / 64) := pk_div (d := 64) ha (by omega) (by omega)
theorem nI_nn {a : Nat} (h : a < 2147483648) : ¬ nI a < 0 := fun q => absurd ((c_lt (a := a) (b := 0) rfl rfl h (by omega)).mp q) (Nat.not_lt_zero a)
theorem rk_up {cnt : Nat} {rk : Int32} (h : rk < 0 ∨ cnt ≤ rk.toNatClampNeg) (hne : ¬ nI cnt = rk) : rk < 0 ∨ cnt + 1 ≤ rk.toNatClampNeg := by
  by_cases h0 : rk < 0
  · exact Or.inl h0
  · obtain ⟨j9, hj9, e9⟩ := nI_of h0
    have h1 := h.resolve_left h0
    rw [e9, nI_clamp hj9] at h1
    refine Or.inr ?_
    rw [e9, nI_clamp hj9]
    have : ¬ cnt = j9 := fun q => hne (by rw [q, e9])
    omega
theorem wh_in (x y : Int32) : whOk x y = (!decide (x < 0) && pIn y 0 2) := by
  unfold whOk pIn
  have e : decide (y ≤ 2) = !decide (2 < y) := by
    by_cases c : y ≤ 2
    · rw [decide_eq_true c, decide_eq_false (by rw [Int32.le_iff_toInt_le] at c; rw [Int32.lt_iff_toInt_lt]; omega)]; rfl
    · rw [decide_eq_false c, decide_eq_true (by rw [Int32.le_iff_toInt_le] at c; rw [Int32.lt_iff_toInt_lt]; omega)]; rfl
  rw [e]
noncomputable def ctO (σ : PS) (N : NL) (k : Nat) : Nat := fb_ct (wlP σ N (nI k) (N.1 - 1)) 4096
def OdI (ct : Nat → Nat) (k : Nat) (most its : Int32) : Prop := (k = 0 ∧ most = -1 ∧ its = -9) ∨ ∃ b, b < k ∧ its = nI b ∧ most = nI (ct b) ∧ ∀ j, j < k → ct j ≤ ct b ∧ (j < b → ct j < ct b)
theorem nI_m1 {a : Nat} (h : a < 2147483648) : ¬ nI a ≤ -1 := by
  intro q
  rw [Int32.le_iff_toInt_le, nI_toInt h] at q
  have : (-1 : Int32).toInt = -1 := by decide
  omega
theorem OdI_no {ct : Nat → Nat} {k : Nat} {most its : Int32} (hb : ∀ j, ct j ≤ 4096) (h : OdI ct k most its) (hc : nI (ct k) ≤ most) : OdI ct (k + 1) most its := by
  have hk := hb k
  rcases h with ⟨_, h2, _⟩ | ⟨b, h1, h2, h3, h4⟩
  · rw [h2] at hc; exact absurd hc (nI_m1 (by omega))
  · have hbb := hb b
    rw [h3] at hc
    have hc := (c_le (a := ct k) (b := ct b) rfl rfl (by omega) (by omega)).mp hc
    refine Or.inr ⟨b, by omega, h2, h3, fun j hj => ?_⟩
    rcases Nat.lt_succ_iff_lt_or_eq.mp hj with e | e
    · exact h4 j e
    · rw [e]; exact ⟨hc, fun q => by omega⟩
theorem OdI_up {ct : Nat → Nat} {k : Nat} {most its : Int32} (hb : ∀ j, ct j ≤ 4096) (h : OdI ct k most its) (hc : ¬ nI (ct k) ≤ most) : OdI ct (k + 1) (nI (ct k)) (nI k) := by
  have hk := hb k
  refine Or.inr ⟨k, by omega, rfl, rfl, fun j hj => ?_⟩
  rcases h with ⟨h1, _, _⟩ | ⟨b, h1, h2, h3, h4⟩
  · rw [show j = k by omega]; exact ⟨Nat.le_refl _, fun q => absurd q (Nat.lt_irrefl _)⟩
  · have hbb := hb b
    rw [h3] at hc
    have hc : ¬ ct k ≤ ct b := fun q => hc ((c_le (a := ct k) (b := ct b) rfl rfl (by omega) (by omega)).mpr q)
    rcases Nat.lt_succ_iff_lt_or_eq.mp hj with e | e
    · have := (h4 j e).1; exact ⟨by omega, fun _ => by omega⟩
    · rw [e]; exact ⟨Nat.le_refl _, fun q => absurd q (Nat.lt_irrefl _)⟩
abbrev rX8_fits : Room := { frames := 2, cells := 0, slots := 0, locals := 45 }
set_option maxHeartbeats 4000000 in
set_option maxRecDepth 100000 in
theorem c_X8_fits (l : Launch) (G : kG) (h : Nat) (v : Nat → Int32) (q : Nat → Nat) (px : Nat → Int32) (py : Nat → Int32) (hi : Nat → Int32) (la : Nat → Int32) (lb : Nat → Int32) (ip : Nat → Int32) (se : Nat → Int32) (be : Nat → Int32) (he : Nat → Int32) (σ : PS) (sa : Nat → Int32) (N : NL) (x : Int32) (y : Int32) (z : Int32) (w : Int32) (w2 : Int32) (hLM : LM σ v px py hi la lb ip se be he) (hSM : SMr N sa) : Ci l G yX8_fits wsX8_fits rX8_fits [.ref h, .int x, .int y, .int z, .int w, .int w2] [oB h 8 (oF8 v q), aZ G (q 9) 64 ip, aI G (q 10) 64 se, aI G (q 11) 640 be, aI G (q 12) 640 he, aI G (q 13) 17 sa] (fun r (u : Unit) => r = ftR σ N x y z w w2) (fun u => [oB h 8 (oF8 (upd v 0 0) q), aZ G (q 9) 64 ip, aI G (q 10) 64 se, aI G (q 11) 640 be, aI G (q 12) 640 he, aI G (q 13) 17 sa]) := by
  refine Ci.of (cc := cX8_fits) (maxL := 7) (by decide) rfl (Nat.le_of_ble_eq_true rfl) ?_
  intro pM eM sM mM bM tM cM Q A hx hb hts hown hml hA hK hP hD hS hret ls hl
  have hown : sM.vm.findClass RX8 = some mM.cls := hown
  have hl : lv_has ls 7 [(0, .ref h), (1, .int x), (2, .int y), (3, .int z), (4, .int w), (5, .int w2)] := hl
  have hin8 : ∀ w ∈ u_ws RX8 TX8 44, w ∈ wsX8_fits := by decide +kernel
  have f98 := hts (.fieldLink RX8 98 "HorizonPeaksModel" "thrown" "I") (by decide +kernel)
  have f29 := hts (.fieldLink RX8 29 "HorizonPeaksModel" "seen" "[I") (by decide +kernel)
  have hLM0 := hLM
  obtain ⟨hok, ⟨hv1, hv5, hv8⟩, har, hLP⟩ := hLM
  have hn10 := hok.1
  have hm8 := hok.2.1
  have hl3 := hok.2.2.1
  have hip : ∀ i, i < 64 → ip i = b2i (decide (cPk σ i = 0)) := fun i hh => (hLP i hh).1
  have hn8 := hSM.2.1
  refine lv_aload_n hx hb dX8_fits_0 rfl (lv_at hl 0 rfl) ?_
  refine lv_iconst (v := 0) hx hb dX8_fits_1 (by decide) ?_
  refine va_put (D := G.1) (ci := 8) (v := .int 0) (ty := .int) (C := RX8) (T := TX8) (N := 44) hx hb hts hin8 tyX8 tyX8_ok nmX8 hown hK.1 hP hD hS 0 rfl rfl 0 (by decide) f98 (fun _ h9 => h9) rfl (by decide +kernel) rfl rfl (Nat.le_of_ble_eq_true rfl) dX8_fits_2 (fun H locs hP hD hS => ?_)
  have hP : va_P G.1 vwCl [oB h 8 (oF8 (upd v 0 0) q), aZ G (q 9) 64 ip, aI G (q 10) 64 se, aI G (q 11) 640 be, aI G (q 12) 640 he, aI G (q 13) 17 sa] H := hP
  have hD : va_D A [oB h 8 (oF8 (upd v 0 0) q), aZ G (q 9) 64 ip, aI G (q 10) 64 se, aI G (q 11) 640 be, aI G (q 12) 640 he, aI G (q 13) 17 sa] := hD
  refine lv_aload_n hx hb dX8_fits_5 rfl (lv_at hl 0 rfl) ?_
  refine lv_iload_n hx hb dX8_fits_6 rfl (lv_at hl 1 rfl) ?_
  refine lv_iload_n hx hb dX8_fits_7 rfl (lv_at hl 2 rfl) ?_
  refine rd_i (va_runV (As := [.int x, .int y]) (rest := []) ⟨hx, hb, hml, hown, hts⟩ (c_X8_isThere l G h (upd v 0 0) q ip (cPk σ) x y (hip)) (cwV 2 hts gX8_fits_X8_isThere rfl rfl rfl (by decide +kernel) ⟨Nat.le_of_ble_eq_true rfl, Nat.le_of_ble_eq_true rfl⟩) (rPre_V hK hP [0, 1] rfl 0 8 rfl rfl) rfl rfl hl.1 rfl (lv_room (Nat.le_of_ble_eq_true rfl)) dX8_fits_8 ⟨Nat.zero_le _, Nat.zero_le _⟩) (fun r_8 q_8 => ?_)
  obtain rfl : r_8 = b2i (pPlace (cPk σ) x y) := q_8
  refine lv_if_eq (tgt := 39) hx hb dX8_fits_11 (by decide) (fun c_11 => ?_) (fun c_11 => ?_)
  · have c_11 : (pPlace (cPk σ) x y) = false := b2i_0.mp c_11
    refine lv_iconst (v := -1) hx hb dX8_fits_39 (by decide) ?_
    have hpost : (-1 : Int32) = ftR σ N x y z w w2 := by
      simp [ftR, c_11]
    exact hret _ () _ _ _ _ (hpost) (rfl) hP hD hS dX8_fits_40
  · have c_11 : (pPlace (cPk σ) x y) = true := b2i_n0.mp c_11
    obtain ⟨X, Y, hX, hY, rfl, rfl, hc⟩ := pPlace_of c_11
    refine lv_iload_n hx hb dX8_fits_14 rfl (lv_at hl 3 rfl) ?_
    refine rd_i (va_runS (As := [.int z]) (rest := []) ⟨hx, hb, hml, hown, hts⟩ (c_X8_isLook l G z) (va_cwS 1 hts gX8_fits_X8_isLook rfl rfl rfl (by decide +kernel) ⟨Nat.le_of_ble_eq_true rfl, Nat.le_of_ble_eq_true rfl⟩) (rPre_S hK hP [] rfl) rfl rfl hl.1 rfl (lv_room (Nat.le_of_ble_eq_true rfl)) dX8_fits_15 ⟨Nat.zero_le _, Nat.zero_le _⟩) (fun r_15 q_15 => ?_)
    obtain rfl : r_15 = b2i (pLook z) := q_15
    refine lv_if_eq (tgt := 39) hx hb dX8_fits_18 (by decide) (fun c_18 => ?_) (fun c_18 => ?_)
    · have c_18 : (pLook z) = false := b2i_0.mp c_18
      refine lv_iconst (v := -1) hx hb dX8_fits_39 (by decide) ?_
      have hpost : (-1 : Int32) = ftR σ N (nI X) (nI Y) z w w2 := by
        simp [ftR, c_11, c_18]
      exact hret _ () _ _ _ _ (hpost) (rfl) hP hD hS dX8_fits_40
    · have c_18 : (pLook z) = true := b2i_n0.mp c_18
      obtain ⟨j0, hj0, rfl⟩ := pLook_of c_18
      refine lv_aload_n hx hb dX8_fits_21 rfl (lv_at hl 0 rfl) ?_
      refine lv_iload hx hb dX8_fits_22 (lv_at hl 4 rfl) ?_
      refine rd_i (va_runV (As := [.int w]) (rest := []) ⟨hx, hb, hml, hown, hts⟩ (c_X8_isNotch l G h (upd v 0 0) q sa w N.1 (hSM.1) (hn8)) (cwV 1 hts gX8_fits_X8_isNotch rfl rfl rfl (by decide +kernel) ⟨Nat.le_of_ble_eq_true rfl, Nat.le_of_ble_eq_true rfl⟩) (rPre_V hK hP [0, 5] rfl 0 8 rfl rfl) rfl rfl hl.1 rfl (lv_room (Nat.le_of_ble_eq_true rfl)) dX8_fits_24 ⟨Nat.zero_le _, Nat.zero_le _⟩) (fun r_24 q_24 => ?_)
      obtain rfl : r_24 = b2i (pHas (nI N.1) w) := q_24
      refine lv_if_eq (tgt := 39) hx hb dX8_fits_27 (by decide) (fun c_27 => ?_) (fun c_27 => ?_)
      · have c_27 : (pHas (nI N.1) w) = false := b2i_0.mp c_27
        refine lv_iconst (v := -1) hx hb dX8_fits_39 (by decide) ?_
        have hpost : (-1 : Int32) = ftR σ N (nI X) (nI Y) (nI j0) w w2 := by
          simp [ftR, c_11, c_18, c_27]
        exact hret _ () _ _ _ _ (hpost) (rfl) hP hD hS dX8_fits_40
      · have c_27 : (pHas (nI N.1) w) = true := b2i_n0.mp c_27
        obtain ⟨k, hk, rfl⟩ := pHas_of (by omega) c_27
        refine lv_aload_n hx hb dX8_fits_30 rfl (lv_at hl 0 rfl) ?_
        refine lv_iload hx hb dX8_fits_31 (lv_at hl 5 rfl) ?_
        refine rd_i (va_runV (As := [.int w2]) (rest := []) ⟨hx, hb, hml, hown, hts⟩ (c_X8_isPeak l G h (upd v 0 0) q w2 (zn σ) (hv1) (hn10)) (cwV 1 hts gX8_fits_X8_isPeak rfl rfl rfl (by decide +kernel) ⟨Nat.le_of_ble_eq_true rfl, Nat.le_of_ble_eq_true rfl⟩) (rPre_V hK hP [0] rfl 0 8 rfl rfl) rfl rfl hl.1 rfl (lv_room (Nat.le_of_ble_eq_true rfl)) dX8_fits_33 ⟨Nat.zero_le _, Nat.zero_le _⟩) (fun r_33 q_33 => ?_)
        obtain rfl : r_33 = b2i (pHas (nI (zn σ)) w2) := q_33
        refine lv_if_ne (tgt := 41) hx hb dX8_fits_36 (by decide) (fun c_36 => ?_) (fun c_36 => ?_)
        · have c_36 : (pHas (nI (zn σ)) w2) = true := b2i_n0.mp c_36
          obtain ⟨p, hp, rfl⟩ := pHas_of (by omega) c_36
          refine lv_bipush (v := 8) hx hb dX8_fits_41 (by decide) ?_
          refine lv_iload_n hx hb dX8_fits_43 rfl (lv_at hl 1 rfl) ?_
          refine lv_imul hx hb dX8_fits_44 ?_
          refine lv_iload_n hx hb dX8_fits_45 rfl (lv_at hl 2 rfl) ?_
          refine lv_iadd hx hb dX8_fits_46 ?_
          refine top_i (y := nI (X * 8 + Y)) (mul8' X Y) ?_
          refine lv_istore (lv' := [(6, .int (nI (X * 8 + Y))), (0, .ref h), (1, .int (nI X)), (2, .int (nI Y)), (3, .int (nI j0)), (4, .int (nI k)), (5, .int (nI p))]) hx hb dX8_fits_47 hl (by decide) rfl (fun ls hl => ?_)
          refine lv_aload_n hx hb dX8_fits_49 rfl (lv_at hl 1 rfl) ?_
          refine va_get (D := G.1) (ci := 8) (v := .ref (q 10)) (C := RX8) (T := TX8) (N := 44) hx hb hts hin8 hown hK.1 hP 0 rfl rfl 10 (by decide) f29 (fun _ h9 => h9) rfl dX8_fits_50 ?_
          refine lv_iload hx hb dX8_fits_53 (lv_at hl 0 rfl) ?_
          refine al_i hx hb hK.1 hP 2 0 rfl rfl (j := X * 8 + Y) (by omega) (Nat.le_of_ble_eq_true rfl) dX8_fits_55 ?_
          refine top_i (y := cVis σ (X * 8 + Y)) ((hLP _ (by omega)).2.1) ?_
          refine lv_iload hx hb dX8_fits_56 (lv_at hl 6 rfl) ?_
          refine lv_ishr hx hb dX8_fits_58 ?_
          refine lv_iconst (v := 1) hx hb dX8_fits_59 (by decide) ?_
          refine lv_iand hx hb dX8_fits_60 ?_
          refine top_i (y := b2i (cVi σ (X * 8 + Y) p)) (by rw [sr_bt1 (by omega), bt_vis hok hc hp]) ?_
          refine lv_iconst (v := 1) hx hb dX8_fits_61 (by decide) ?_
          refine lv_icmp_ne (tgt := 83) hx hb dX8_fits_62 (by decide) (fun c_62 => ?_) (fun c_62 => ?_)
          · have c_62 : cVi σ (X * 8 + Y) p = false := b2i_n1.mp c_62
            refine lv_iconst (v := 0) hx hb dX8_fits_83 (by decide) ?_
            have hpost : (0 : Int32) = ftR σ N (nI X) (nI Y) (nI j0) (nI k) (nI p) := by
              rw [ftR, if_pos (by rw [c_11, c_18, c_27, c_36]; rfl), ptN_nI hX hY, nI_clamp (by omega), nI_clamp (by omega), nI_clamp (by omega), c_62]
              rfl
            exact hret _ () _ _ _ _ (hpost) (rfl) hP hD hS dX8_fits_84
          · have c_62 : cVi σ (X * 8 + Y) p = true := b2i_1.mp c_62
            refine lv_aload_n hx hb dX8_fits_65 rfl (lv_at hl 1 rfl) ?_
            refine lv_iload hx hb dX8_fits_66 (lv_at hl 0 rfl) ?_
            refine lv_iload_n hx hb dX8_fits_68 rfl (lv_at hl 4 rfl) ?_
            refine lv_iload hx hb dX8_fits_69 (lv_at hl 5 rfl) ?_
            refine lv_iload hx hb dX8_fits_71 (lv_at hl 6 rfl) ?_
            refine rd_i (va_runV (As := [.int (nI (X * 8 + Y)), .int (nI j0), .int (nI k), .int (nI p)]) (rest := []) ⟨hx, hb, hml, hown, hts⟩ (c_X8_isFit l G h (upd v 0 0) q px py hi la lb ip se be he σ sa N (X * 8 + Y) j0 k p (hLM0) (hSM) (by omega) (hj0) (hc) (hk) (hp)) (cwV 4 hts gX8_fits_X8_isFit rfl rfl rfl (by decide +kernel) ⟨Nat.le_of_ble_eq_true rfl, Nat.le_of_ble_eq_true rfl⟩) (rPre_V hK hP [0, 3, 4, 5] rfl 0 8 rfl rfl) rfl rfl hl.1 rfl (lv_room (Nat.le_of_ble_eq_true rfl)) dX8_fits_73 ⟨Nat.zero_le _, Nat.zero_le _⟩) (fun r_73 q_73 => ?_)
            refine top_i (y := b2i (fitB σ N (X * 8 + Y) j0 k p)) q_73 ?_
            refine lv_if_eq (tgt := 83) hx hb dX8_fits_76 (by decide) (fun c_76 => ?_) (fun c_76 => ?_)
            · have c_76 : (fitB σ N (X * 8 + Y) j0 k p) = false := b2i_0.mp c_76
              refine lv_iconst (v := 0) hx hb dX8_fits_83 (by decide) ?_
              have hpost : (0 : Int32) = ftR σ N (nI X) (nI Y) (nI j0) (nI k) (nI p) := by
                rw [ftR, if_pos (by rw [c_11, c_18, c_27, c_36]; rfl), ptN_nI hX hY, nI_clamp (by omega), nI_clamp (by omega), nI_clamp (by omega), c_62, c_76]
                rfl
              exact hret _ () _ _ _ _ (hpost) (rfl) hP hD hS dX8_fits_84
            · have c_76 : (fitB σ N (X * 8 + Y) j0 k p) = true := b2i_n0.mp c_76
              refine lv_iconst (v := 1) hx hb dX8_fits_79 (by decide) ?_
              refine lv_goto (tgt := 84) hx hb dX8_fits_80 (by decide) ?_
              have hpost : (1 : Int32) = ftR σ N (nI X) (nI Y) (nI j0) (nI k) (nI p) := by
                rw [ftR, if_pos (by rw [c_11, c_18, c_27, c_36]; rfl), ptN_nI hX hY, nI_clamp (by omega), nI_clamp (by omega), nI_clamp (by omega), c_62, c_76]
                rfl
              exact hret _ () _ _ _ _ (hpost) (rfl) hP hD hS dX8_fits_84
        · have c_36 : (pHas (nI (zn σ)) w2) = false := b2i_0.mp c_36
          refine lv_iconst (v := -1) hx hb dX8_fits_39 (by decide) ?_
          have hpost : (-1 : Int32) = ftR σ N (nI X) (nI Y) (nI j0) (nI k) w2 := by
            simp [ftR, c_11, c_18, c_27, c_36]
          exact hret _ () _ _ _ _ (hpost) (rfl) hP hD hS dX8_fits_40

abbrev rX8_score : Room := { frames := 3, cells := 0, slots := 0, locals := 79 }
set_option maxHeartbeats 4000000 in
set_option maxRecDepth 100000 in
theorem c_X8_score (l : Launch) (G : kG) (h : Nat) (v : Nat → Int32) (q : Nat → Nat) (px : Nat → Int32) (py : Nat → Int32) (hi : Nat → Int32) (la : Nat → Int32) (lb : Nat → Int32) (ip : Nat → Int32) (se : Nat → Int32) (be : Nat → Int32) (he : Nat → Int32) (σ : PS) (sa : Nat → Int32) (ft : Nat → Int32) (wh : Nat → Int32) (rA : Nat → Int32) (bA : Nat → Int32) (ha : Nat → Int32) (N : NL) (x : Int32) (y : Int32) (z : Int32) (hLM : LM σ v px py hi la lb ip se be he) (hSM : SMr N sa) : Ci l G yX8_score wsX8_score rX8_score [.ref h, .int x, .int y, .int z] [oB h 8 (oF8 v q), aZ G (q 9) 64 ip, aI G (q 10) 64 se, aI G (q 11) 640 be, aI G (q 12) 640 he, aI G (q 13) 17 sa, aI G (q 36) 8 ft, aI G (q 37) 10 wh, aI G (q 38) 8 rA, aI G (q 39) 10 bA, aI G (q 40) 8 ha] (fun r (u : (Nat → Int32) × (Nat → Int32) × (Nat → Int32) × (Nat → Int32) × (Nat → Int32)) => r = scR σ N x y z) (fun u => [oB h 8 (oF8 (upd v 0 0) q), aZ G (q 9) 64 ip, aI G (q 10) 64 se, aI G (q 11) 640 be, aI G (q 12) 640 he, aI G (q 13) 17 sa, aI G (q 36) 8 u.1, aI G (q 37) 10 u.2.1, aI G (q 38) 8 u.2.2.1, aI G (q 39) 10 u.2.2.2.1, aI G (q 40) 8 u.2.2.2.2]) := by
  refine Ci.of (cc := cX8_score) (maxL := 4) (by decide) rfl (Nat.le_of_ble_eq_true rfl) ?_
  intro pM eM sM mM bM tM cM Q A hx hb hts hown hml hA hK hP hD hS hret ls hl
  have hown : sM.vm.findClass RX8 = some mM.cls := hown
  have hl : lv_has ls 4 [(0, .ref h), (1, .int x), (2, .int y), (3, .int z)] := hl
  have hin8 : ∀ w ∈ u_ws RX8 TX8 44, w ∈ wsX8_score := by decide +kernel
  have f98 := hts (.fieldLink RX8 98 "HorizonPeaksModel" "thrown" "I") (by decide +kernel)
  have hLM0 := hLM
  obtain ⟨hok, ⟨hv1, hv5, hv8⟩, har, hLP⟩ := hLM
  have hn10 := hok.1
  have hm8 := hok.2.1
  have hl3 := hok.2.2.1
  have hip : ∀ i, i < 64 → ip i = b2i (decide (cPk σ i = 0)) := fun i hh => (hLP i hh).1
  refine lv_aload_n hx hb dX8_score_0 rfl (lv_at hl 0 rfl) ?_
  refine lv_iconst (v := 0) hx hb dX8_score_1 (by decide) ?_
  refine va_put (D := G.1) (ci := 8) (v := .int 0) (ty := .int) (C := RX8) (T := TX8) (N := 44) hx hb hts hin8 tyX8 tyX8_ok nmX8 hown hK.1 hP hD hS 0 rfl rfl 0 (by decide) f98 (fun _ h9 => h9) rfl (by decide +kernel) rfl rfl (Nat.le_of_ble_eq_true rfl) dX8_score_2 (fun H locs hP hD hS => ?_)
  have hP : va_P G.1 vwCl [oB h 8 (oF8 (upd v 0 0) q), aZ G (q 9) 64 ip, aI G (q 10) 64 se, aI G (q 11) 640 be, aI G (q 12) 640 he, aI G (q 13) 17 sa, aI G (q 36) 8 ft, aI G (q 37) 10 wh, aI G (q 38) 8 rA, aI G (q 39) 10 bA, aI G (q 40) 8 ha] H := hP
  have hD : va_D A [oB h 8 (oF8 (upd v 0 0) q), aZ G (q 9) 64 ip, aI G (q 10) 64 se, aI G (q 11) 640 be, aI G (q 12) 640 he, aI G (q 13) 17 sa, aI G (q 36) 8 ft, aI G (q 37) 10 wh, aI G (q 38) 8 rA, aI G (q 39) 10 bA, aI G (q 40) 8 ha] := hD
  refine lv_aload_n hx hb dX8_score_5 rfl (lv_at hl 0 rfl) ?_
  refine lv_iload_n hx hb dX8_score_6 rfl (lv_at hl 1 rfl) ?_
  refine lv_iload_n hx hb dX8_score_7 rfl (lv_at hl 2 rfl) ?_
  refine rd_i (va_runV (As := [.int x, .int y]) (rest := []) ⟨hx, hb, hml, hown, hts⟩ (c_X8_isThere l G h (upd v 0 0) q ip (cPk σ) x y (hip)) (cwV 2 hts gX8_score_X8_isThere rfl rfl rfl (by decide +kernel) ⟨Nat.le_of_ble_eq_true rfl, Nat.le_of_ble_eq_true rfl⟩) (rPre_V hK hP [0, 1] rfl 0 8 rfl rfl) rfl rfl hl.1 rfl (lv_room (Nat.le_of_ble_eq_true rfl)) dX8_score_8 ⟨Nat.zero_le _, Nat.zero_le _⟩) (fun r_8 q_8 => ?_)
  obtain rfl : r_8 = b2i (pPlace (cPk σ) x y) := q_8
  refine lv_if_eq (tgt := 39) hx hb dX8_score_11 (by decide) (fun c_11 => ?_) (fun c_11 => ?_)
  · have c_11 : (pPlace (cPk σ) x y) = false := b2i_0.mp c_11
    refine lv_iconst (v := -1) hx hb dX8_score_39 (by decide) ?_
    have hpost : (-1 : Int32) = scR σ N x y z := by
      simp [scR, c_11]
    exact hret _ (ft, wh, rA, bA, ha) _ _ _ _ (hpost) (rfl) hP hD hS dX8_score_40
  · have c_11 : (pPlace (cPk σ) x y) = true := b2i_n0.mp c_11
    obtain ⟨X, Y, hX, hY, rfl, rfl, hc⟩ := pPlace_of c_11
    refine lv_iload_n hx hb dX8_score_14 rfl (lv_at hl 3 rfl) ?_
    refine rd_i (va_runS (As := [.int z]) (rest := []) ⟨hx, hb, hml, hown, hts⟩ (c_X8_isLook l G z) (va_cwS 1 hts gX8_score_X8_isLook rfl rfl rfl (by decide +kernel) ⟨Nat.le_of_ble_eq_true rfl, Nat.le_of_ble_eq_true rfl⟩) (rPre_S hK hP [] rfl) rfl rfl hl.1 rfl (lv_room (Nat.le_of_ble_eq_true rfl)) dX8_score_15 ⟨Nat.zero_le _, Nat.zero_le _⟩) (fun r_15 q_15 => ?_)
    obtain rfl : r_15 = b2i (pLook z) := q_15
    refine lv_if_eq (tgt := 39) hx hb dX8_score_18 (by decide) (fun c_18 => ?_) (fun c_18 => ?_)
    · have c_18 : (pLook z) = false := b2i_0.mp c_18
      refine lv_iconst (v := -1) hx hb dX8_score_39 (by decide) ?_
      have hpost : (-1 : Int32) = scR σ N (nI X) (nI Y) z := by
        simp [scR, c_11, c_18]
      exact hret _ (ft, wh, rA, bA, ha) _ _ _ _ (hpost) (rfl) hP hD hS dX8_score_40
    · have c_18 : (pLook z) = true := b2i_n0.mp c_18
      obtain ⟨j0, hj0, rfl⟩ := pLook_of c_18
      refine lv_aload_n hx hb dX8_score_21 rfl (lv_at hl 0 rfl) ?_
      refine lv_bipush (v := 8) hx hb dX8_score_22 (by decide) ?_
      refine lv_iload_n hx hb dX8_score_24 rfl (lv_at hl 1 rfl) ?_
      refine lv_imul hx hb dX8_score_25 ?_
      refine lv_iload_n hx hb dX8_score_26 rfl (lv_at hl 2 rfl) ?_
      refine lv_iadd hx hb dX8_score_27 ?_
      refine top_i (y := nI (X * 8 + Y)) (mul8' X Y) ?_
      refine lv_iload_n hx hb dX8_score_28 rfl (lv_at hl 3 rfl) ?_
      refine lv_bipush (v := -9) hx hb dX8_score_29 (by decide) ?_
      refine lv_bipush (v := -9) hx hb dX8_score_31 (by decide) ?_
      refine ca_i (wr := [aZ G (q 9) 64 ip]) (va_runV (As := [.int (nI (X * 8 + Y)), .int (nI j0), .int (-9), .int (-9)]) (rest := []) ⟨hx, hb, hml, hown, hts⟩ ((c_X8_scoreOf l G h (upd v 0 0) q px py hi la lb ip se be he σ sa ft wh rA bA ha N (X * 8 + Y) j0 (-9) (-9) (hLM0) (hSM) (by omega) (hj0) (hc)) _) (cwV 4 hts gX8_score_X8_scoreOf rfl rfl rfl (by decide +kernel) ⟨Nat.le_of_ble_eq_true rfl, Nat.le_of_ble_eq_true rfl⟩) (cPre_V hK hP hD [0, 2, 3, 4, 5, 6, 7, 8, 9, 10] (by decide) rfl 0 8 rfl rfl) rfl rfl hl.1 rfl (lv_room (Nat.le_of_ble_eq_true rfl)) dX8_score_33 ⟨Nat.zero_le _, Nat.zero_le _⟩) hP hD hS hA [0, 2, 3, 4, 5, 6, 7, 8, 9, 10] [1] rfl rfl (by decide) (by decide) [1, 0, 2, 3, 4, 5, 6, 7, 8, 9, 10] (fun u_33 => [oB h 8 (oF8 (upd v 0 0) q), aZ G (q 9) 64 ip, aI G (q 10) 64 se, aI G (q 11) 640 be, aI G (q 12) 640 he, aI G (q 13) 17 sa, aI G (q 36) 8 u_33.1, aI G (q 37) 10 u_33.2.1, aI G (q 38) 8 u_33.2.2.1, aI G (q 39) 10 u_33.2.2.2.1, aI G (q 40) 8 u_33.2.2.2.2]) (by decide) (fun _ => rfl) (fun r_33 u_33 H locs q_33 hP hD hS => ?_)
      obtain rfl : r_33 = nI (sc (gS σ N (X * 8 + Y) j0 (-9) (-9)) N.1) := q_33
      have hP : va_P G.1 vwCl [oB h 8 (oF8 (upd v 0 0) q), aZ G (q 9) 64 ip, aI G (q 10) 64 se, aI G (q 11) 640 be, aI G (q 12) 640 he, aI G (q 13) 17 sa, aI G (q 36) 8 u_33.1, aI G (q 37) 10 u_33.2.1, aI G (q 38) 8 u_33.2.2.1, aI G (q 39) 10 u_33.2.2.2.1, aI G (q 40) 8 u_33.2.2.2.2] H := hP
      have hD : va_D A [oB h 8 (oF8 (upd v 0 0) q), aZ G (q 9) 64 ip, aI G (q 10) 64 se, aI G (q 11) 640 be, aI G (q 12) 640 he, aI G (q 13) 17 sa, aI G (q 36) 8 u_33.1, aI G (q 37) 10 u_33.2.1, aI G (q 38) 8 u_33.2.2.1, aI G (q 39) 10 u_33.2.2.2.1, aI G (q 40) 8 u_33.2.2.2.2] := hD
      refine lv_goto (tgt := 40) hx hb dX8_score_36 (by decide) ?_
      have hpost : (nI (sc (gS σ N (X * 8 + Y) j0 (-9) (-9)) N.1) : Int32) = scR σ N (nI X) (nI Y) (nI j0) := by
        rw [scR, if_pos (by rw [c_11, c_18]; rfl), ptN_nI hX hY, nI_clamp (by omega)]
      exact hret _ (u_33.1, u_33.2.1, u_33.2.2.1, u_33.2.2.2.1, u_33.2.2.2.2) _ _ _ _ (hpost) (rfl) hP hD hS dX8_score_40

abbrev rX8_wholeAt : Room := { frames := 3, cells := 0, slots := 0, locals := 79 }
set_option maxHeartbeats 4000000 in
set_option maxRecDepth 100000 in
theorem c_X8_wholeAt (l : Launch) (G : kG) (h : Nat) (v : Nat → Int32) (q : Nat → Nat) (px : Nat → Int32) (py : Nat → Int32) (hi : Nat → Int32) (la : Nat → Int32) (lb : Nat → Int32) (ip : Nat → Int32) (se : Nat → Int32) (be : Nat → Int32) (he : Nat → Int32) (σ : PS) (sa : Nat → Int32) (ft : Nat → Int32) (wh : Nat → Int32) (rA : Nat → Int32) (bA : Nat → Int32) (ha : Nat → Int32) (N : NL) (rk : Int32) (wo : Int32) (due : Nat) (hLM : LM σ v px py hi la lb ip se be he) (hSM : SMr N sa) (hdue : (wo = -9 ∧ due = N.1) ∨ (¬ wo = -9 ∧ due + 1 = N.1)) : Ci l G yX8_wholeAt wsX8_wholeAt rX8_wholeAt [.ref h, .int rk, .int wo] [oB h 8 (oF8 v q), aZ G (q 9) 64 ip, aI G (q 10) 64 se, aI G (q 11) 640 be, aI G (q 12) 640 he, aI G (q 13) 17 sa, aI G (q 36) 8 ft, aI G (q 37) 10 wh, aI G (q 38) 8 rA, aI G (q 39) 10 bA, aI G (q 40) 8 ha] (fun r (u : (Nat → Int32) × (Nat → Int32) × (Nat → Int32) × (Nat → Int32) × (Nat → Int32)) => (rk < 0 → r = nI (fb_ct (wlP σ N wo due) 4096)) ∧ (¬ rk < 0 → RK (wlP σ N wo due) 4096 rk.toNatClampNeg r)) (fun u => [oB h 8 (oF8 v q), aZ G (q 9) 64 ip, aI G (q 10) 64 se, aI G (q 11) 640 be, aI G (q 12) 640 he, aI G (q 13) 17 sa, aI G (q 36) 8 u.1, aI G (q 37) 10 u.2.1, aI G (q 38) 8 u.2.2.1, aI G (q 39) 10 u.2.2.2.1, aI G (q 40) 8 u.2.2.2.2]) := by
  refine Ci.of (cc := cX8_wholeAt) (maxL := 6) (by decide) rfl (Nat.le_of_ble_eq_true rfl) ?_
  intro pM eM sM mM bM tM cM Q A hx hb hts hown hml hA hK hP hD hS hret ls hl
  have hown : sM.vm.findClass RX8 = some mM.cls := hown
  have hl : lv_has ls 6 [(0, .ref h), (1, .int rk), (2, .int wo)] := hl
  have hin8 : ∀ w ∈ u_ws RX8 TX8 44, w ∈ wsX8_wholeAt := by decide +kernel
  have f38 := hts (.fieldLink RX8 38 "HorizonPeaksModel" "s" "[I") (by decide +kernel)
  have f25 := hts (.fieldLink RX8 25 "HorizonPeaksModel" "isPlace" "[Z") (by decide +kernel)
  have hLM0 := hLM
  obtain ⟨hok, ⟨hv1, hv5, hv8⟩, har, hLP⟩ := hLM
  have hn10 := hok.1
  have hm8 := hok.2.1
  have hl3 := hok.2.2.1
  have hip : ∀ i, i < 64 → ip i = b2i (decide (cPk σ i = 0)) := fun i hh => (hLP i hh).1
  have hn8 := hSM.2.1
  have hd8 : due ≤ 8 := hdue.elim (fun h9 => by rw [h9.2]; exact hn8) (fun h9 => by have := h9.2; omega)
  refine lv_iload_n hx hb dX8_wholeAt_0 rfl (lv_at hl 2 rfl) ?_
  refine lv_bipush (v := -9) hx hb dX8_wholeAt_1 (by decide) ?_
  refine lv_icmp_ne (tgt := 15) hx hb dX8_wholeAt_3 (by decide) (fun c_3 => ?_) (fun c_3 => ?_)
  · refine lv_aload_n hx hb dX8_wholeAt_15 rfl (lv_at hl 0 rfl) ?_
    refine va_get (D := G.1) (ci := 8) (v := .ref (q 13)) (C := RX8) (T := TX8) (N := 44) hx hb hts hin8 hown hK.1 hP 0 rfl rfl 13 (by decide) f38 (fun _ h9 => h9) rfl dX8_wholeAt_16 ?_
    refine lv_iconst (v := 0) hx hb dX8_wholeAt_19 (by decide) ?_
    refine top_i (y := nI 0) rfl ?_
    refine al_i hx hb hK.1 hP 5 0 rfl rfl (j := 0) (by omega) (Nat.le_of_ble_eq_true rfl) dX8_wholeAt_20 ?_
    refine top_i (y := nI N.1) (hSM.1) ?_
    refine lv_iconst (v := 1) hx hb dX8_wholeAt_21 (by decide) ?_
    refine lv_isub hx hb dX8_wholeAt_22 ?_
    refine top_i (y := nI due) (by rw [← (hdue.resolve_left (fun h => c_3 h.1)).2]; exact nn_m1 (nn := due + 1) (by omega)) ?_
    refine lv_istore_n (lv' := [(3, .int (nI due)), (0, .ref h), (1, .int rk), (2, .int wo)]) hx hb dX8_wholeAt_23 rfl hl (by decide) rfl (fun ls hl => ?_)
    refine lv_iconst (v := 0) hx hb dX8_wholeAt_24 (by decide) ?_
    refine lv_istore (lv' := [(4, .int 0), (3, .int (nI due)), (0, .ref h), (1, .int rk), (2, .int wo)]) hx hb dX8_wholeAt_25 hl (by decide) rfl (fun ls hl => ?_)
    refine lv_iconst (v := 0) hx hb dX8_wholeAt_27 (by decide) ?_
    refine lv_istore (lv' := [(5, .int 0), (4, .int 0), (3, .int (nI due)), (0, .ref h), (1, .int rk), (2, .int wo)]) hx hb dX8_wholeAt_28 hl (by decide) rfl (fun ls hl => ?_)
    have loop_30 : ∀ (nF : Nat) (k : Nat) (cnt : Nat) (fx36 : Nat → Int32) (fx37 : Nat → Int32) (fx38 : Nat → Int32) (fx39 : Nat → Int32) (fx40 : Nat → Int32), (4096 - k) < nF → (k ≤ 4096) → (cnt = fb_ct (wlP σ N wo due) k) → (rk < 0 ∨ cnt ≤ rk.toNatClampNeg) → ∀ (H : Heap) (locs : List Loc), va_P G.1 vwCl [oB h 8 (oF8 v q), aZ G (q 9) 64 ip, aI G (q 10) 64 se, aI G (q 11) 640 be, aI G (q 12) 640 he, aI G (q 13) 17 sa, aI G (q 36) 8 fx36, aI G (q 37) 10 fx37, aI G (q 38) 8 fx38, aI G (q 39) 10 fx39, aI G (q 40) 8 fx40] H → va_D A [oB h 8 (oF8 v q), aZ G (q 9) 64 ip, aI G (q 10) 64 se, aI G (q 11) 640 be, aI G (q 12) 640 he, aI G (q 13) 17 sa, aI G (q 36) 8 fx36, aI G (q 37) 10 fx37, aI G (q 38) 8 fx38, aI G (q 39) 10 fx39, aI G (q 40) 8 fx40] → va_S A sM.heap H locs → ∀ (ls : Array Slot), lv_has ls 6 [(5, .int (nI k)), (4, .int (nI cnt)), (3, .int (nI due)), (0, .ref h), (1, .int rk), (2, .int wo)] → W pM l eM rX8_wholeAt sM mM [.ref h, .int rk, .int wo].toArray bM tM cM H locs 0 0 Q (F0 mM 30 ls []) := by
      intro nF
      induction nF with
      | zero => intro k cnt fx36 fx37 fx38 fx39 fx40 hmF; exact absurd hmF (Nat.not_lt_zero _)
      | succ nF ih30 =>
        intro k cnt fx36 fx37 fx38 fx39 fx40 hmF hk hcn hrk H locs hP hD hS ls hl
        have hcl : cnt ≤ k := by rw [hcn]; exact fb_ct_le _ _
        refine lv_iload hx hb dX8_wholeAt_30 (lv_at hl 0 rfl) ?_
        refine lv_sipush (v := 4096) hx hb dX8_wholeAt_32 (by decide) ?_
        refine lv_icmp_ge (tgt := 90) hx hb dX8_wholeAt_35 (by decide) (fun c_35 => ?_) (fun c_35 => ?_)
        · have c_35 : 4096 ≤ k := (c_le (a := 4096) (b := k) rfl rfl (by omega) (by omega)).mp c_35
          refine lv_iload_n hx hb dX8_wholeAt_90 rfl (lv_at hl 4 rfl) ?_
          refine lv_if_ge (tgt := 99) hx hb dX8_wholeAt_91 (by decide) (fun c_91 => ?_) (fun c_91 => ?_)
          · refine lv_bipush (v := -9) hx hb dX8_wholeAt_99 (by decide) ?_
            have hpost : (rk < 0 → (-9 : Int32) = nI (fb_ct (wlP σ N wo due) 4096)) ∧ (¬ rk < 0 → RK (wlP σ N wo due) 4096 rk.toNatClampNeg (-9 : Int32)) := by
              have e9 : k = 4096 := by omega
              rw [e9] at hcn
              exact ⟨fun h9 => absurd h9 (ge0 c_91), fun h9 => Or.inl ⟨by rw [← hcn]; exact hrk.resolve_left h9, rfl⟩⟩
            exact hret _ (fx36, fx37, fx38, fx39, fx40) _ _ _ _ (hpost) (rfl) hP hD hS dX8_wholeAt_101
          · refine lv_iload hx hb dX8_wholeAt_94 (lv_at hl 1 rfl) ?_
            refine lv_goto (tgt := 101) hx hb dX8_wholeAt_96 (by decide) ?_
            have hpost : (rk < 0 → (nI cnt : Int32) = nI (fb_ct (wlP σ N wo due) 4096)) ∧ (¬ rk < 0 → RK (wlP σ N wo due) 4096 rk.toNatClampNeg (nI cnt : Int32)) := by
              have e9 : k = 4096 := by omega
              rw [e9] at hcn
              exact ⟨fun _ => by rw [hcn], fun h9 => absurd (le_of_nlt h9) c_91⟩
            exact hret _ (fx36, fx37, fx38, fx39, fx40) _ _ _ _ (hpost) (rfl) hP hD hS dX8_wholeAt_101
        · have c_35 : ¬ 4096 ≤ k := fun hne => c_35 ((c_le (a := 4096) (b := k) rfl rfl (by omega) (by omega)).mpr hne)
          refine lv_aload_n hx hb dX8_wholeAt_38 rfl (lv_at hl 3 rfl) ?_
          refine va_get (D := G.1) (ci := 8) (v := .ref (q 9)) (C := RX8) (T := TX8) (N := 44) hx hb hts hin8 hown hK.1 hP 0 rfl rfl 9 (by decide) f25 (fun _ h9 => h9) rfl dX8_wholeAt_39 ?_
          refine lv_iload hx hb dX8_wholeAt_42 (lv_at hl 0 rfl) ?_
          refine lv_bipush (v := 64) hx hb dX8_wholeAt_44 (by decide) ?_
          refine lv_idiv hx hb dX8_wholeAt_46 (by decide) ?_
          refine top_i (y := nI (k / 64)) (div64 (by omega)) ?_
          refine al_z hx hb hK.1 hP 1 2 rfl rfl (j := k / 64) (by omega) (Nat.le_of_ble_eq_true rfl) dX8_wholeAt_47 ?_
          refine top_i (y := b2i (decide (cPk σ (k / 64) = 0))) (hip _ (by omega)) ?_
          refine lv_if_eq (tgt := 84) hx hb dX8_wholeAt_48 (by decide) (fun c_48 => ?_) (fun c_48 => ?_)
          · have c_48 : (decide (cPk σ (k / 64) = 0)) = false := b2i_0.mp c_48
            refine lv_iinc (v := nI (k + 1)) (lv' := [(5, .int (nI (k + 1))), (4, .int (nI cnt)), (3, .int (nI due)), (0, .ref h), (1, .int rk), (2, .int wo)]) hx hb dX8_wholeAt_84 hl (k := 0) rfl (inc_nI _ 1) (by decide) rfl (fun ls hl => ?_)
            refine lv_goto (tgt := 30) hx hb dX8_wholeAt_87 (by decide) ?_
            exact ih30 (k + 1) cnt fx36 fx37 fx38 fx39 fx40 (by omega) (by omega) (by rw [fb_ct_succ, ← hcn, show wlP σ N wo due k = false from by unfold wlP; rw [c_48]; rfl]; rfl) (hrk) _ _ hP hD hS _ (lv_sub hl [0, 1, 2, 3, 4, 5] rfl)
          · have c_48 : (decide (cPk σ (k / 64) = 0)) = true := b2i_n0.mp c_48
            have hc : cPk σ (k / 64) = 0 := of_decide_eq_true c_48
            refine lv_aload_n hx hb dX8_wholeAt_51 rfl (lv_at hl 3 rfl) ?_
            refine lv_iload hx hb dX8_wholeAt_52 (lv_at hl 0 rfl) ?_
            refine lv_bipush (v := 64) hx hb dX8_wholeAt_54 (by decide) ?_
            refine lv_idiv hx hb dX8_wholeAt_56 (by decide) ?_
            refine top_i (y := nI (k / 64)) (div64 (by omega)) ?_
            refine lv_iload hx hb dX8_wholeAt_57 (lv_at hl 0 rfl) ?_
            refine lv_bipush (v := 64) hx hb dX8_wholeAt_59 (by decide) ?_
            refine lv_irem hx hb dX8_wholeAt_61 (by decide) ?_
            refine top_i (y := nI (k % 64)) (rem64 (by omega)) ?_
            refine lv_iload_n hx hb dX8_wholeAt_62 rfl (lv_at hl 5 rfl) ?_
            refine lv_bipush (v := -9) hx hb dX8_wholeAt_63 (by decide) ?_
            refine ca_i (wr := [aZ G (q 9) 64 ip]) (va_runV (As := [.int (nI (k / 64)), .int (nI (k % 64)), .int wo, .int (-9)]) (rest := []) ⟨hx, hb, hml, hown, hts⟩ ((c_X8_scoreOf l G h v q px py hi la lb ip se be he σ sa fx36 fx37 fx38 fx39 fx40 N (k / 64) (k % 64) wo (-9) (hLM0) (hSM) (by omega) (by omega) (hc)) _) (cwV 4 hts gX8_wholeAt_X8_scoreOf rfl rfl rfl (by decide +kernel) ⟨Nat.le_of_ble_eq_true rfl, Nat.le_of_ble_eq_true rfl⟩) (cPre_V hK hP hD [0, 2, 3, 4, 5, 6, 7, 8, 9, 10] (by decide) rfl 0 8 rfl rfl) rfl rfl hl.1 rfl (lv_room (Nat.le_of_ble_eq_true rfl)) dX8_wholeAt_65 ⟨Nat.zero_le _, Nat.zero_le _⟩) hP hD hS hA [0, 2, 3, 4, 5, 6, 7, 8, 9, 10] [1] rfl rfl (by decide) (by decide) [1, 0, 2, 3, 4, 5, 6, 7, 8, 9, 10] (fun u_65 => [oB h 8 (oF8 v q), aZ G (q 9) 64 ip, aI G (q 10) 64 se, aI G (q 11) 640 be, aI G (q 12) 640 he, aI G (q 13) 17 sa, aI G (q 36) 8 u_65.1, aI G (q 37) 10 u_65.2.1, aI G (q 38) 8 u_65.2.2.1, aI G (q 39) 10 u_65.2.2.2.1, aI G (q 40) 8 u_65.2.2.2.2]) (by decide) (fun _ => rfl) (fun r_65 u_65 H locs q_65 hP hD hS => ?_)
            obtain rfl : r_65 = nI (sc (gS σ N (k / 64) (k % 64) wo (-9)) N.1) := q_65
            have hP : va_P G.1 vwCl [oB h 8 (oF8 v q), aZ G (q 9) 64 ip, aI G (q 10) 64 se, aI G (q 11) 640 be, aI G (q 12) 640 he, aI G (q 13) 17 sa, aI G (q 36) 8 u_65.1, aI G (q 37) 10 u_65.2.1, aI G (q 38) 8 u_65.2.2.1, aI G (q 39) 10 u_65.2.2.2.1, aI G (q 40) 8 u_65.2.2.2.2] H := hP
            have hD : va_D A [oB h 8 (oF8 v q), aZ G (q 9) 64 ip, aI G (q 10) 64 se, aI G (q 11) 640 be, aI G (q 12) 640 he, aI G (q 13) 17 sa, aI G (q 36) 8 u_65.1, aI G (q 37) 10 u_65.2.1, aI G (q 38) 8 u_65.2.2.1, aI G (q 39) 10 u_65.2.2.2.1, aI G (q 40) 8 u_65.2.2.2.2] := hD
            have hsl9 := sc_le (gS σ N (k / 64) (k % 64) wo (-9)) N.1
            refine lv_iload_n hx hb dX8_wholeAt_68 rfl (lv_at hl 2 rfl) ?_
            refine lv_icmp_ne (tgt := 84) hx hb dX8_wholeAt_69 (by decide) (fun c_69 => ?_) (fun c_69 => ?_)
            · have c_69 : ¬ (sc (gS σ N (k / 64) (k % 64) wo (-9)) N.1) = due := fun hne => c_69 ((c_eq (a := sc (gS σ N (k / 64) (k % 64) wo (-9)) N.1) (b := due) rfl rfl (by omega) (by omega)).mpr hne)
              refine lv_iinc (v := nI (k + 1)) (lv' := [(5, .int (nI (k + 1))), (4, .int (nI cnt)), (3, .int (nI due)), (0, .ref h), (1, .int rk), (2, .int wo)]) hx hb dX8_wholeAt_84 hl (k := 0) rfl (inc_nI _ 1) (by decide) rfl (fun ls hl => ?_)
              refine lv_goto (tgt := 30) hx hb dX8_wholeAt_87 (by decide) ?_
              exact ih30 (k + 1) cnt u_65.1 u_65.2.1 u_65.2.2.1 u_65.2.2.2.1 u_65.2.2.2.2 (by omega) (by omega) (by rw [fb_ct_succ, ← hcn, show wlP σ N wo due k = false from by unfold wlP; rw [c_48, decide_eq_false c_69]; rfl]; rfl) (hrk) _ _ hP hD hS _ (lv_sub hl [0, 1, 2, 3, 4, 5] rfl)
            · have c_69 : (sc (gS σ N (k / 64) (k % 64) wo (-9)) N.1) = due := (c_eq (a := sc (gS σ N (k / 64) (k % 64) wo (-9)) N.1) (b := due) rfl rfl (by omega) (by omega)).mp c_69
              refine lv_iload hx hb dX8_wholeAt_72 (lv_at hl 1 rfl) ?_
              refine lv_iload_n hx hb dX8_wholeAt_74 rfl (lv_at hl 4 rfl) ?_
              refine lv_icmp_ne (tgt := 81) hx hb dX8_wholeAt_75 (by decide) (fun c_75 => ?_) (fun c_75 => ?_)
              · refine lv_iinc (v := nI (cnt + 1)) (lv' := [(4, .int (nI (cnt + 1))), (5, .int (nI k)), (3, .int (nI due)), (0, .ref h), (1, .int rk), (2, .int wo)]) hx hb dX8_wholeAt_81 hl (k := 1) rfl (inc_nI _ 1) (by decide) rfl (fun ls hl => ?_)
                refine lv_iinc (v := nI (k + 1)) (lv' := [(5, .int (nI (k + 1))), (4, .int (nI (cnt + 1))), (3, .int (nI due)), (0, .ref h), (1, .int rk), (2, .int wo)]) hx hb dX8_wholeAt_84 hl (k := 1) rfl (inc_nI _ 1) (by decide) rfl (fun ls hl => ?_)
                refine lv_goto (tgt := 30) hx hb dX8_wholeAt_87 (by decide) ?_
                exact ih30 (k + 1) (cnt + 1) u_65.1 u_65.2.1 u_65.2.2.1 u_65.2.2.2.1 u_65.2.2.2.2 (by omega) (by omega) (by rw [fb_ct_succ, ← hcn, show wlP σ N wo due k = true from by unfold wlP; rw [c_48, decide_eq_true c_69]; rfl]; rfl) (rk_up hrk c_75) _ _ hP hD hS _ (lv_sub hl [0, 1, 2, 3, 4, 5] rfl)
              · refine lv_iload hx hb dX8_wholeAt_78 (lv_at hl 0 rfl) ?_
                have hpost : (rk < 0 → (nI k : Int32) = nI (fb_ct (wlP σ N wo due) 4096)) ∧ (¬ rk < 0 → RK (wlP σ N wo due) 4096 rk.toNatClampNeg (nI k : Int32)) := by
                  have hP9 : wlP σ N wo due k = true := by unfold wlP; rw [c_48, decide_eq_true c_69]; rfl
                  refine ⟨fun h9 => ?_, fun _ => Or.inr ⟨k, by omega, hP9, ?_, rfl⟩⟩
                  · rw [← c_75] at h9; exact absurd h9 (nI_nn (by omega))
                  · rw [← c_75, nI_clamp (by omega)]; exact hcn.symm
                exact hret _ (u_65.1, u_65.2.1, u_65.2.2.1, u_65.2.2.2.1, u_65.2.2.2.2) _ _ _ _ (hpost) (rfl) hP hD hS dX8_wholeAt_80
    exact loop_30 _ 0 0 ft wh rA bA ha (Nat.lt_succ_self _) (Nat.zero_le _) (rfl) (Or.inr (Nat.zero_le _)) _ _ hP hD hS _ (lv_sub hl [0, 1, 2, 3, 4, 5] rfl)
  · refine lv_aload_n hx hb dX8_wholeAt_6 rfl (lv_at hl 0 rfl) ?_
    refine va_get (D := G.1) (ci := 8) (v := .ref (q 13)) (C := RX8) (T := TX8) (N := 44) hx hb hts hin8 hown hK.1 hP 0 rfl rfl 13 (by decide) f38 (fun _ h9 => h9) rfl dX8_wholeAt_7 ?_
    refine lv_iconst (v := 0) hx hb dX8_wholeAt_10 (by decide) ?_
    refine top_i (y := nI 0) rfl ?_
    refine al_i hx hb hK.1 hP 5 0 rfl rfl (j := 0) (by omega) (Nat.le_of_ble_eq_true rfl) dX8_wholeAt_11 ?_
    refine top_i (y := nI due) (by rw [hSM.1, (hdue.resolve_right (fun h => h.1 c_3)).2]) ?_
    refine lv_goto (tgt := 23) hx hb dX8_wholeAt_12 (by decide) ?_
    refine lv_istore_n (lv' := [(3, .int (nI due)), (0, .ref h), (1, .int rk), (2, .int wo)]) hx hb dX8_wholeAt_23 rfl hl (by decide) rfl (fun ls hl => ?_)
    refine lv_iconst (v := 0) hx hb dX8_wholeAt_24 (by decide) ?_
    refine lv_istore (lv' := [(4, .int 0), (3, .int (nI due)), (0, .ref h), (1, .int rk), (2, .int wo)]) hx hb dX8_wholeAt_25 hl (by decide) rfl (fun ls hl => ?_)
    refine lv_iconst (v := 0) hx hb dX8_wholeAt_27 (by decide) ?_
    refine lv_istore (lv' := [(5, .int 0), (4, .int 0), (3, .int (nI due)), (0, .ref h), (1, .int rk), (2, .int wo)]) hx hb dX8_wholeAt_28 hl (by decide) rfl (fun ls hl => ?_)
    have loop_30 : ∀ (nF : Nat) (k : Nat) (cnt : Nat) (fx36 : Nat → Int32) (fx37 : Nat → Int32) (fx38 : Nat → Int32) (fx39 : Nat → Int32) (fx40 : Nat → Int32), (4096 - k) < nF → (k ≤ 4096) → (cnt = fb_ct (wlP σ N wo due) k) → (rk < 0 ∨ cnt ≤ rk.toNatClampNeg) → ∀ (H : Heap) (locs : List Loc), va_P G.1 vwCl [oB h 8 (oF8 v q), aZ G (q 9) 64 ip, aI G (q 10) 64 se, aI G (q 11) 640 be, aI G (q 12) 640 he, aI G (q 13) 17 sa, aI G (q 36) 8 fx36, aI G (q 37) 10 fx37, aI G (q 38) 8 fx38, aI G (q 39) 10 fx39, aI G (q 40) 8 fx40] H → va_D A [oB h 8 (oF8 v q), aZ G (q 9) 64 ip, aI G (q 10) 64 se, aI G (q 11) 640 be, aI G (q 12) 640 he, aI G (q 13) 17 sa, aI G (q 36) 8 fx36, aI G (q 37) 10 fx37, aI G (q 38) 8 fx38, aI G (q 39) 10 fx39, aI G (q 40) 8 fx40] → va_S A sM.heap H locs → ∀ (ls : Array Slot), lv_has ls 6 [(5, .int (nI k)), (4, .int (nI cnt)), (3, .int (nI due)), (0, .ref h), (1, .int rk), (2, .int wo)] → W pM l eM rX8_wholeAt sM mM [.ref h, .int rk, .int wo].toArray bM tM cM H locs 0 0 Q (F0 mM 30 ls []) := by
      intro nF
      induction nF with
      | zero => intro k cnt fx36 fx37 fx38 fx39 fx40 hmF; exact absurd hmF (Nat.not_lt_zero _)
      | succ nF ih30 =>
        intro k cnt fx36 fx37 fx38 fx39 fx40 hmF hk hcn hrk H locs hP hD hS ls hl
        have hcl : cnt ≤ k := by rw [hcn]; exact fb_ct_le _ _
        refine lv_iload hx hb dX8_wholeAt_30 (lv_at hl 0 rfl) ?_
        refine lv_sipush (v := 4096) hx hb dX8_wholeAt_32 (by decide) ?_
        refine lv_icmp_ge (tgt := 90) hx hb dX8_wholeAt_35 (by decide) (fun c_35 => ?_) (fun c_35 => ?_)
        · have c_35 : 4096 ≤ k := (c_le (a := 4096) (b := k) rfl rfl (by omega) (by omega)).mp c_35
          refine lv_iload_n hx hb dX8_wholeAt_90 rfl (lv_at hl 4 rfl) ?_
          refine lv_if_ge (tgt := 99) hx hb dX8_wholeAt_91 (by decide) (fun c_91 => ?_) (fun c_91 => ?_)
          · refine lv_bipush (v := -9) hx hb dX8_wholeAt_99 (by decide) ?_
            have hpost : (rk < 0 → (-9 : Int32) = nI (fb_ct (wlP σ N wo due) 4096)) ∧ (¬ rk < 0 → RK (wlP σ N wo due) 4096 rk.toNatClampNeg (-9 : Int32)) := by
              have e9 : k = 4096 := by omega
              rw [e9] at hcn
              exact ⟨fun h9 => absurd h9 (ge0 c_91), fun h9 => Or.inl ⟨by rw [← hcn]; exact hrk.resolve_left h9, rfl⟩⟩
            exact hret _ (fx36, fx37, fx38, fx39, fx40) _ _ _ _ (hpost) (rfl) hP hD hS dX8_wholeAt_101
          · refine lv_iload hx hb dX8_wholeAt_94 (lv_at hl 1 rfl) ?_
            refine lv_goto (tgt := 101) hx hb dX8_wholeAt_96 (by decide) ?_
            have hpost : (rk < 0 → (nI cnt : Int32) = nI (fb_ct (wlP σ N wo due) 4096)) ∧ (¬ rk < 0 → RK (wlP σ N wo due) 4096 rk.toNatClampNeg (nI cnt : Int32)) := by
              have e9 : k = 4096 := by omega
              rw [e9] at hcn
              exact ⟨fun _ => by rw [hcn], fun h9 => absurd (le_of_nlt h9) c_91⟩
            exact hret _ (fx36, fx37, fx38, fx39, fx40) _ _ _ _ (hpost) (rfl) hP hD hS dX8_wholeAt_101
        · have c_35 : ¬ 4096 ≤ k := fun hne => c_35 ((c_le (a := 4096) (b := k) rfl rfl (by omega) (by omega)).mpr hne)
          refine lv_aload_n hx hb dX8_wholeAt_38 rfl (lv_at hl 3 rfl) ?_
          refine va_get (D := G.1) (ci := 8) (v := .ref (q 9)) (C := RX8) (T := TX8) (N := 44) hx hb hts hin8 hown hK.1 hP 0 rfl rfl 9 (by decide) f25 (fun _ h9 => h9) rfl dX8_wholeAt_39 ?_
          refine lv_iload hx hb dX8_wholeAt_42 (lv_at hl 0 rfl) ?_
          refine lv_bipush (v := 64) hx hb dX8_wholeAt_44 (by decide) ?_
          refine lv_idiv hx hb dX8_wholeAt_46 (by decide) ?_
          refine top_i (y := nI (k / 64)) (div64 (by omega)) ?_
          refine al_z hx hb hK.1 hP 1 2 rfl rfl (j := k / 64) (by omega) (Nat.le_of_ble_eq_true rfl) dX8_wholeAt_47 ?_
          refine top_i (y := b2i (decide (cPk σ (k / 64) = 0))) (hip _ (by omega)) ?_
          refine lv_if_eq (tgt := 84) hx hb dX8_wholeAt_48 (by decide) (fun c_48 => ?_) (fun c_48 => ?_)
          · have c_48 : (decide (cPk σ (k / 64) = 0)) = false := b2i_0.mp c_48
            refine lv_iinc (v := nI (k + 1)) (lv' := [(5, .int (nI (k + 1))), (4, .int (nI cnt)), (3, .int (nI due)), (0, .ref h), (1, .int rk), (2, .int wo)]) hx hb dX8_wholeAt_84 hl (k := 0) rfl (inc_nI _ 1) (by decide) rfl (fun ls hl => ?_)
            refine lv_goto (tgt := 30) hx hb dX8_wholeAt_87 (by decide) ?_
            exact ih30 (k + 1) cnt fx36 fx37 fx38 fx39 fx40 (by omega) (by omega) (by rw [fb_ct_succ, ← hcn, show wlP σ N wo due k = false from by unfold wlP; rw [c_48]; rfl]; rfl) (hrk) _ _ hP hD hS _ (lv_sub hl [0, 1, 2, 3, 4, 5] rfl)
          · have c_48 : (decide (cPk σ (k / 64) = 0)) = true := b2i_n0.mp c_48
            have hc : cPk σ (k / 64) = 0 := of_decide_eq_true c_48
            refine lv_aload_n hx hb dX8_wholeAt_51 rfl (lv_at hl 3 rfl) ?_
            refine lv_iload hx hb dX8_wholeAt_52 (lv_at hl 0 rfl) ?_
            refine lv_bipush (v := 64) hx hb dX8_wholeAt_54 (by decide) ?_
            refine lv_idiv hx hb dX8_wholeAt_56 (by decide) ?_
            refine top_i (y := nI (k / 64)) (div64 (by omega)) ?_
            refine lv_iload hx hb dX8_wholeAt_57 (lv_at hl 0 rfl) ?_
            refine lv_bipush (v := 64) hx hb dX8_wholeAt_59 (by decide) ?_
            refine lv_irem hx hb dX8_wholeAt_61 (by decide) ?_
            refine top_i (y := nI (k % 64)) (rem64 (by omega)) ?_
            refine lv_iload_n hx hb dX8_wholeAt_62 rfl (lv_at hl 5 rfl) ?_
            refine lv_bipush (v := -9) hx hb dX8_wholeAt_63 (by decide) ?_
            refine ca_i (wr := [aZ G (q 9) 64 ip]) (va_runV (As := [.int (nI (k / 64)), .int (nI (k % 64)), .int wo, .int (-9)]) (rest := []) ⟨hx, hb, hml, hown, hts⟩ ((c_X8_scoreOf l G h v q px py hi la lb ip se be he σ sa fx36 fx37 fx38 fx39 fx40 N (k / 64) (k % 64) wo (-9) (hLM0) (hSM) (by omega) (by omega) (hc)) _) (cwV 4 hts gX8_wholeAt_X8_scoreOf rfl rfl rfl (by decide +kernel) ⟨Nat.le_of_ble_eq_true rfl, Nat.le_of_ble_eq_true rfl⟩) (cPre_V hK hP hD [0, 2, 3, 4, 5, 6, 7, 8, 9, 10] (by decide) rfl 0 8 rfl rfl) rfl rfl hl.1 rfl (lv_room (Nat.le_of_ble_eq_true rfl)) dX8_wholeAt_65 ⟨Nat.zero_le _, Nat.zero_le _⟩) hP hD hS hA [0, 2, 3, 4, 5, 6, 7, 8, 9, 10] [1] rfl rfl (by decide) (by decide) [1, 0, 2, 3, 4, 5, 6, 7, 8, 9, 10] (fun u_65 => [oB h 8 (oF8 v q), aZ G (q 9) 64 ip, aI G (q 10) 64 se, aI G (q 11) 640 be, aI G (q 12) 640 he, aI G (q 13) 17 sa, aI G (q 36) 8 u_65.1, aI G (q 37) 10 u_65.2.1, aI G (q 38) 8 u_65.2.2.1, aI G (q 39) 10 u_65.2.2.2.1, aI G (q 40) 8 u_65.2.2.2.2]) (by decide) (fun _ => rfl) (fun r_65 u_65 H locs q_65 hP hD hS => ?_)
            obtain rfl : r_65 = nI (sc (gS σ N (k / 64) (k % 64) wo (-9)) N.1) := q_65
            have hP : va_P G.1 vwCl [oB h 8 (oF8 v q), aZ G (q 9) 64 ip, aI G (q 10) 64 se, aI G (q 11) 640 be, aI G (q 12) 640 he, aI G (q 13) 17 sa, aI G (q 36) 8 u_65.1, aI G (q 37) 10 u_65.2.1, aI G (q 38) 8 u_65.2.2.1, aI G (q 39) 10 u_65.2.2.2.1, aI G (q 40) 8 u_65.2.2.2.2] H := hP
            have hD : va_D A [oB h 8 (oF8 v q), aZ G (q 9) 64 ip, aI G (q 10) 64 se, aI G (q 11) 640 be, aI G (q 12) 640 he, aI G (q 13) 17 sa, aI G (q 36) 8 u_65.1, aI G (q 37) 10 u_65.2.1, aI G (q 38) 8 u_65.2.2.1, aI G (q 39) 10 u_65.2.2.2.1, aI G (q 40) 8 u_65.2.2.2.2] := hD
            have hsl9 := sc_le (gS σ N (k / 64) (k % 64) wo (-9)) N.1
            refine lv_iload_n hx hb dX8_wholeAt_68 rfl (lv_at hl 2 rfl) ?_
            refine lv_icmp_ne (tgt := 84) hx hb dX8_wholeAt_69 (by decide) (fun c_69 => ?_) (fun c_69 => ?_)
            · have c_69 : ¬ (sc (gS σ N (k / 64) (k % 64) wo (-9)) N.1) = due := fun hne => c_69 ((c_eq (a := sc (gS σ N (k / 64) (k % 64) wo (-9)) N.1) (b := due) rfl rfl (by omega) (by omega)).mpr hne)
              refine lv_iinc (v := nI (k + 1)) (lv' := [(5, .int (nI (k + 1))), (4, .int (nI cnt)), (3, .int (nI due)), (0, .ref h), (1, .int rk), (2, .int wo)]) hx hb dX8_wholeAt_84 hl (k := 0) rfl (inc_nI _ 1) (by decide) rfl (fun ls hl => ?_)
              refine lv_goto (tgt := 30) hx hb dX8_wholeAt_87 (by decide) ?_
              exact ih30 (k + 1) cnt u_65.1 u_65.2.1 u_65.2.2.1 u_65.2.2.2.1 u_65.2.2.2.2 (by omega) (by omega) (by rw [fb_ct_succ, ← hcn, show wlP σ N wo due k = false from by unfold wlP; rw [c_48, decide_eq_false c_69]; rfl]; rfl) (hrk) _ _ hP hD hS _ (lv_sub hl [0, 1, 2, 3, 4, 5] rfl)
            · have c_69 : (sc (gS σ N (k / 64) (k % 64) wo (-9)) N.1) = due := (c_eq (a := sc (gS σ N (k / 64) (k % 64) wo (-9)) N.1) (b := due) rfl rfl (by omega) (by omega)).mp c_69
              refine lv_iload hx hb dX8_wholeAt_72 (lv_at hl 1 rfl) ?_
              refine lv_iload_n hx hb dX8_wholeAt_74 rfl (lv_at hl 4 rfl) ?_
              refine lv_icmp_ne (tgt := 81) hx hb dX8_wholeAt_75 (by decide) (fun c_75 => ?_) (fun c_75 => ?_)
              · refine lv_iinc (v := nI (cnt + 1)) (lv' := [(4, .int (nI (cnt + 1))), (5, .int (nI k)), (3, .int (nI due)), (0, .ref h), (1, .int rk), (2, .int wo)]) hx hb dX8_wholeAt_81 hl (k := 1) rfl (inc_nI _ 1) (by decide) rfl (fun ls hl => ?_)
                refine lv_iinc (v := nI (k + 1)) (lv' := [(5, .int (nI (k + 1))), (4, .int (nI (cnt + 1))), (3, .int (nI due)), (0, .ref h), (1, .int rk), (2, .int wo)]) hx hb dX8_wholeAt_84 hl (k := 1) rfl (inc_nI _ 1) (by decide) rfl (fun ls hl => ?_)
                refine lv_goto (tgt := 30) hx hb dX8_wholeAt_87 (by decide) ?_
                exact ih30 (k + 1) (cnt + 1) u_65.1 u_65.2.1 u_65.2.2.1 u_65.2.2.2.1 u_65.2.2.2.2 (by omega) (by omega) (by rw [fb_ct_succ, ← hcn, show wlP σ N wo due k = true from by unfold wlP; rw [c_48, decide_eq_true c_69]; rfl]; rfl) (rk_up hrk c_75) _ _ hP hD hS _ (lv_sub hl [0, 1, 2, 3, 4, 5] rfl)
              · refine lv_iload hx hb dX8_wholeAt_78 (lv_at hl 0 rfl) ?_
                have hpost : (rk < 0 → (nI k : Int32) = nI (fb_ct (wlP σ N wo due) 4096)) ∧ (¬ rk < 0 → RK (wlP σ N wo due) 4096 rk.toNatClampNeg (nI k : Int32)) := by
                  have hP9 : wlP σ N wo due k = true := by unfold wlP; rw [c_48, decide_eq_true c_69]; rfl
                  refine ⟨fun h9 => ?_, fun _ => Or.inr ⟨k, by omega, hP9, ?_, rfl⟩⟩
                  · rw [← c_75] at h9; exact absurd h9 (nI_nn (by omega))
                  · rw [← c_75, nI_clamp (by omega)]; exact hcn.symm
                exact hret _ (u_65.1, u_65.2.1, u_65.2.2.1, u_65.2.2.2.1, u_65.2.2.2.2) _ _ _ _ (hpost) (rfl) hP hD hS dX8_wholeAt_80
    exact loop_30 _ 0 0 ft wh rA bA ha (Nat.lt_succ_self _) (Nat.zero_le _) (rfl) (Or.inr (Nat.zero_le _)) _ _ hP hD hS _ (lv_sub hl [0, 1, 2, 3, 4, 5] rfl)

abbrev rX8_wholes : Room := { frames := 4, cells := 0, slots := 0, locals := 104 }
set_option maxHeartbeats 4000000 in
set_option maxRecDepth 100000 in
theorem c_X8_wholes (l : Launch) (G : kG) (h : Nat) (v : Nat → Int32) (q : Nat → Nat) (px : Nat → Int32) (py : Nat → Int32) (hi : Nat → Int32) (la : Nat → Int32) (lb : Nat → Int32) (ip : Nat → Int32) (se : Nat → Int32) (be : Nat → Int32) (he : Nat → Int32) (σ : PS) (sa : Nat → Int32) (ft : Nat → Int32) (wh : Nat → Int32) (rA : Nat → Int32) (bA : Nat → Int32) (ha : Nat → Int32) (N : NL) (hLM : LM σ v px py hi la lb ip se be he) (hSM : SMr N sa) : Ci l G yX8_wholes wsX8_wholes rX8_wholes [.ref h] [oB h 8 (oF8 v q), aZ G (q 9) 64 ip, aI G (q 10) 64 se, aI G (q 11) 640 be, aI G (q 12) 640 he, aI G (q 13) 17 sa, aI G (q 36) 8 ft, aI G (q 37) 10 wh, aI G (q 38) 8 rA, aI G (q 39) 10 bA, aI G (q 40) 8 ha] (fun r (u : (Nat → Int32) × (Nat → Int32) × (Nat → Int32) × (Nat → Int32) × (Nat → Int32)) => r = nI (fb_ct (wlP σ N (-9) N.1) 4096)) (fun u => [oB h 8 (oF8 (upd v 0 0) q), aZ G (q 9) 64 ip, aI G (q 10) 64 se, aI G (q 11) 640 be, aI G (q 12) 640 he, aI G (q 13) 17 sa, aI G (q 36) 8 u.1, aI G (q 37) 10 u.2.1, aI G (q 38) 8 u.2.2.1, aI G (q 39) 10 u.2.2.2.1, aI G (q 40) 8 u.2.2.2.2]) := by
  refine Ci.of (cc := cX8_wholes) (maxL := 1) (by decide) rfl (Nat.le_of_ble_eq_true rfl) ?_
  intro pM eM sM mM bM tM cM Q A hx hb hts hown hml hA hK hP hD hS hret ls hl
  have hown : sM.vm.findClass RX8 = some mM.cls := hown
  have hl : lv_has ls 1 [(0, .ref h)] := hl
  have hin8 : ∀ w ∈ u_ws RX8 TX8 44, w ∈ wsX8_wholes := by decide +kernel
  have f98 := hts (.fieldLink RX8 98 "HorizonPeaksModel" "thrown" "I") (by decide +kernel)
  have hLM0 := hLM
  refine lv_aload_n hx hb dX8_wholes_0 rfl (lv_at hl 0 rfl) ?_
  refine lv_iconst (v := 0) hx hb dX8_wholes_1 (by decide) ?_
  refine va_put (D := G.1) (ci := 8) (v := .int 0) (ty := .int) (C := RX8) (T := TX8) (N := 44) hx hb hts hin8 tyX8 tyX8_ok nmX8 hown hK.1 hP hD hS 0 rfl rfl 0 (by decide) f98 (fun _ h9 => h9) rfl (by decide +kernel) rfl rfl (Nat.le_of_ble_eq_true rfl) dX8_wholes_2 (fun H locs hP hD hS => ?_)
  have hP : va_P G.1 vwCl [oB h 8 (oF8 (upd v 0 0) q), aZ G (q 9) 64 ip, aI G (q 10) 64 se, aI G (q 11) 640 be, aI G (q 12) 640 he, aI G (q 13) 17 sa, aI G (q 36) 8 ft, aI G (q 37) 10 wh, aI G (q 38) 8 rA, aI G (q 39) 10 bA, aI G (q 40) 8 ha] H := hP
  have hD : va_D A [oB h 8 (oF8 (upd v 0 0) q), aZ G (q 9) 64 ip, aI G (q 10) 64 se, aI G (q 11) 640 be, aI G (q 12) 640 he, aI G (q 13) 17 sa, aI G (q 36) 8 ft, aI G (q 37) 10 wh, aI G (q 38) 8 rA, aI G (q 39) 10 bA, aI G (q 40) 8 ha] := hD
  refine lv_aload_n hx hb dX8_wholes_5 rfl (lv_at hl 0 rfl) ?_
  refine lv_iconst (v := -1) hx hb dX8_wholes_6 (by decide) ?_
  refine lv_bipush (v := -9) hx hb dX8_wholes_7 (by decide) ?_
  refine ca_i (wr := []) (va_runV (As := [.int (-1), .int (-9)]) (rest := []) ⟨hx, hb, hml, hown, hts⟩ ((c_X8_wholeAt l G h (upd v 0 0) q px py hi la lb ip se be he σ sa ft wh rA bA ha N (-1 : Int32) (-9) N.1 (hLM0) (hSM) (Or.inl ⟨rfl, rfl⟩)) _) (cwV 2 hts gX8_wholes_X8_wholeAt rfl rfl rfl (by decide +kernel) ⟨Nat.le_of_ble_eq_true rfl, Nat.le_of_ble_eq_true rfl⟩) (cPre_V hK hP hD [0, 1, 2, 3, 4, 5, 6, 7, 8, 9, 10] (by decide) rfl 0 8 rfl rfl) rfl rfl hl.1 rfl (lv_room (Nat.le_of_ble_eq_true rfl)) dX8_wholes_9 ⟨Nat.zero_le _, Nat.zero_le _⟩) hP hD hS hA [0, 1, 2, 3, 4, 5, 6, 7, 8, 9, 10] [] rfl rfl (by decide) (by decide) [0, 1, 2, 3, 4, 5, 6, 7, 8, 9, 10] (fun u_9 => [oB h 8 (oF8 (upd v 0 0) q), aZ G (q 9) 64 ip, aI G (q 10) 64 se, aI G (q 11) 640 be, aI G (q 12) 640 he, aI G (q 13) 17 sa, aI G (q 36) 8 u_9.1, aI G (q 37) 10 u_9.2.1, aI G (q 38) 8 u_9.2.2.1, aI G (q 39) 10 u_9.2.2.2.1, aI G (q 40) 8 u_9.2.2.2.2]) (by decide) (fun _ => rfl) (fun r_9 u_9 H locs q_9 hP hD hS => ?_)
  have q_9 : ((-1 : Int32) < 0 → r_9 = nI (fb_ct (wlP σ N (-9) N.1) 4096)) ∧ (¬ (-1 : Int32) < 0 → RK (wlP σ N (-9) N.1) 4096 (-1 : Int32).toNatClampNeg r_9) := q_9
  have hP : va_P G.1 vwCl [oB h 8 (oF8 (upd v 0 0) q), aZ G (q 9) 64 ip, aI G (q 10) 64 se, aI G (q 11) 640 be, aI G (q 12) 640 he, aI G (q 13) 17 sa, aI G (q 36) 8 u_9.1, aI G (q 37) 10 u_9.2.1, aI G (q 38) 8 u_9.2.2.1, aI G (q 39) 10 u_9.2.2.2.1, aI G (q 40) 8 u_9.2.2.2.2] H := hP
  have hD : va_D A [oB h 8 (oF8 (upd v 0 0) q), aZ G (q 9) 64 ip, aI G (q 10) 64 se, aI G (q 11) 640 be, aI G (q 12) 640 he, aI G (q 13) 17 sa, aI G (q 36) 8 u_9.1, aI G (q 37) 10 u_9.2.1, aI G (q 38) 8 u_9.2.2.1, aI G (q 39) 10 u_9.2.2.2.1, aI G (q 40) 8 u_9.2.2.2.2] := hD
  exact hret _ (u_9.1, u_9.2.1, u_9.2.2.1, u_9.2.2.2.1, u_9.2.2.2.2) _ _ _ _ (q_9.1 (by decide)) (rfl) hP hD hS dX8_wholes_12

abbrev rX8_whole : Room := { frames := 4, cells := 0, slots := 0, locals := 104 }
set_option maxHeartbeats 4000000 in
set_option maxRecDepth 100000 in
theorem c_X8_whole (l : Launch) (G : kG) (h : Nat) (v : Nat → Int32) (q : Nat → Nat) (px : Nat → Int32) (py : Nat → Int32) (hi : Nat → Int32) (la : Nat → Int32) (lb : Nat → Int32) (ip : Nat → Int32) (se : Nat → Int32) (be : Nat → Int32) (he : Nat → Int32) (σ : PS) (sa : Nat → Int32) (ft : Nat → Int32) (wh : Nat → Int32) (rA : Nat → Int32) (bA : Nat → Int32) (ha : Nat → Int32) (N : NL) (x : Int32) (y : Int32) (hLM : LM σ v px py hi la lb ip se be he) (hSM : SMr N sa) : Ci l G yX8_whole wsX8_whole rX8_whole [.ref h, .int x, .int y] [oB h 8 (oF8 v q), aZ G (q 9) 64 ip, aI G (q 10) 64 se, aI G (q 11) 640 be, aI G (q 12) 640 he, aI G (q 13) 17 sa, aI G (q 36) 8 ft, aI G (q 37) 10 wh, aI G (q 38) 8 rA, aI G (q 39) 10 bA, aI G (q 40) 8 ha] (fun r (u : (Nat → Int32) × (Nat → Int32) × (Nat → Int32) × (Nat → Int32) × (Nat → Int32)) => (whOk x y = true → ∃ w0, RK (wlP σ N (-9) N.1) 4096 x.toNatClampNeg w0 ∧ r = (if w0 = -9 then -9 else pPart w0 y)) ∧ (whOk x y = false → r = -1)) (fun u => [oB h 8 (oF8 (upd v 0 0) q), aZ G (q 9) 64 ip, aI G (q 10) 64 se, aI G (q 11) 640 be, aI G (q 12) 640 he, aI G (q 13) 17 sa, aI G (q 36) 8 u.1, aI G (q 37) 10 u.2.1, aI G (q 38) 8 u.2.2.1, aI G (q 39) 10 u.2.2.2.1, aI G (q 40) 8 u.2.2.2.2]) := by
  refine Ci.of (cc := cX8_whole) (maxL := 4) (by decide) rfl (Nat.le_of_ble_eq_true rfl) ?_
  intro pM eM sM mM bM tM cM Q A hx hb hts hown hml hA hK hP hD hS hret ls hl
  have hown : sM.vm.findClass RX8 = some mM.cls := hown
  have hl : lv_has ls 4 [(0, .ref h), (1, .int x), (2, .int y)] := hl
  have hin8 : ∀ w ∈ u_ws RX8 TX8 44, w ∈ wsX8_whole := by decide +kernel
  have f98 := hts (.fieldLink RX8 98 "HorizonPeaksModel" "thrown" "I") (by decide +kernel)
  have hLM0 := hLM
  refine lv_aload_n hx hb dX8_whole_0 rfl (lv_at hl 0 rfl) ?_
  refine lv_iconst (v := 0) hx hb dX8_whole_1 (by decide) ?_
  refine va_put (D := G.1) (ci := 8) (v := .int 0) (ty := .int) (C := RX8) (T := TX8) (N := 44) hx hb hts hin8 tyX8 tyX8_ok nmX8 hown hK.1 hP hD hS 0 rfl rfl 0 (by decide) f98 (fun _ h9 => h9) rfl (by decide +kernel) rfl rfl (Nat.le_of_ble_eq_true rfl) dX8_whole_2 (fun H locs hP hD hS => ?_)
  have hP : va_P G.1 vwCl [oB h 8 (oF8 (upd v 0 0) q), aZ G (q 9) 64 ip, aI G (q 10) 64 se, aI G (q 11) 640 be, aI G (q 12) 640 he, aI G (q 13) 17 sa, aI G (q 36) 8 ft, aI G (q 37) 10 wh, aI G (q 38) 8 rA, aI G (q 39) 10 bA, aI G (q 40) 8 ha] H := hP
  have hD : va_D A [oB h 8 (oF8 (upd v 0 0) q), aZ G (q 9) 64 ip, aI G (q 10) 64 se, aI G (q 11) 640 be, aI G (q 12) 640 he, aI G (q 13) 17 sa, aI G (q 36) 8 ft, aI G (q 37) 10 wh, aI G (q 38) 8 rA, aI G (q 39) 10 bA, aI G (q 40) 8 ha] := hD
  refine lv_iload_n hx hb dX8_whole_5 rfl (lv_at hl 1 rfl) ?_
  refine lv_if_lt (tgt := 18) hx hb dX8_whole_6 (by decide) (fun c_6 => ?_) (fun c_6 => ?_)
  · refine lv_iconst (v := -1) hx hb dX8_whole_18 (by decide) ?_
    have hpost : (whOk x y = true → ∃ w0, RK (wlP σ N (-9) N.1) 4096 x.toNatClampNeg w0 ∧ (-1 : Int32) = (if w0 = -9 then -9 else pPart w0 y)) ∧ (whOk x y = false → (-1 : Int32) = -1) := by
      have hO : whOk x y = false := by rw [wh_in]; simp [c_6]
      exact ⟨fun h9 => absurd h9 (ne_t hO), fun _ => rfl⟩
    exact hret _ (ft, wh, rA, bA, ha) _ _ _ _ (hpost) (rfl) hP hD hS dX8_whole_19
  · refine lv_iload_n hx hb dX8_whole_9 rfl (lv_at hl 2 rfl) ?_
    refine lv_iconst (v := 0) hx hb dX8_whole_10 (by decide) ?_
    refine lv_iconst (v := 2) hx hb dX8_whole_11 (by decide) ?_
    refine rd_i (va_runS (As := [.int y, .int 0, .int 2]) (rest := []) ⟨hx, hb, hml, hown, hts⟩ (c_X8_in l G y 0 2) (va_cwS 3 hts gX8_whole_X8_in rfl rfl rfl (by decide +kernel) ⟨Nat.le_of_ble_eq_true rfl, Nat.le_of_ble_eq_true rfl⟩) (rPre_S hK hP [] rfl) rfl rfl hl.1 rfl (lv_room (Nat.le_of_ble_eq_true rfl)) dX8_whole_12 ⟨Nat.zero_le _, Nat.zero_le _⟩) (fun r_12 q_12 => ?_)
    obtain rfl : r_12 = b2i (pIn y 0 2) := q_12
    refine lv_if_ne (tgt := 20) hx hb dX8_whole_15 (by decide) (fun c_15 => ?_) (fun c_15 => ?_)
    · have c_15 : (pIn y 0 2) = true := b2i_n0.mp c_15
      refine lv_aload_n hx hb dX8_whole_20 rfl (lv_at hl 0 rfl) ?_
      refine lv_iload_n hx hb dX8_whole_21 rfl (lv_at hl 1 rfl) ?_
      refine lv_bipush (v := -9) hx hb dX8_whole_22 (by decide) ?_
      refine ca_i (wr := []) (va_runV (As := [.int x, .int (-9)]) (rest := []) ⟨hx, hb, hml, hown, hts⟩ ((c_X8_wholeAt l G h (upd v 0 0) q px py hi la lb ip se be he σ sa ft wh rA bA ha N x (-9) N.1 (hLM0) (hSM) (Or.inl ⟨rfl, rfl⟩)) _) (cwV 2 hts gX8_whole_X8_wholeAt rfl rfl rfl (by decide +kernel) ⟨Nat.le_of_ble_eq_true rfl, Nat.le_of_ble_eq_true rfl⟩) (cPre_V hK hP hD [0, 1, 2, 3, 4, 5, 6, 7, 8, 9, 10] (by decide) rfl 0 8 rfl rfl) rfl rfl hl.1 rfl (lv_room (Nat.le_of_ble_eq_true rfl)) dX8_whole_24 ⟨Nat.zero_le _, Nat.zero_le _⟩) hP hD hS hA [0, 1, 2, 3, 4, 5, 6, 7, 8, 9, 10] [] rfl rfl (by decide) (by decide) [0, 1, 2, 3, 4, 5, 6, 7, 8, 9, 10] (fun u_24 => [oB h 8 (oF8 (upd v 0 0) q), aZ G (q 9) 64 ip, aI G (q 10) 64 se, aI G (q 11) 640 be, aI G (q 12) 640 he, aI G (q 13) 17 sa, aI G (q 36) 8 u_24.1, aI G (q 37) 10 u_24.2.1, aI G (q 38) 8 u_24.2.2.1, aI G (q 39) 10 u_24.2.2.2.1, aI G (q 40) 8 u_24.2.2.2.2]) (by decide) (fun _ => rfl) (fun r_24 u_24 H locs q_24 hP hD hS => ?_)
      have q_24 : (x < 0 → r_24 = nI (fb_ct (wlP σ N (-9) N.1) 4096)) ∧ (¬ x < 0 → RK (wlP σ N (-9) N.1) 4096 x.toNatClampNeg r_24) := q_24
      have hP : va_P G.1 vwCl [oB h 8 (oF8 (upd v 0 0) q), aZ G (q 9) 64 ip, aI G (q 10) 64 se, aI G (q 11) 640 be, aI G (q 12) 640 he, aI G (q 13) 17 sa, aI G (q 36) 8 u_24.1, aI G (q 37) 10 u_24.2.1, aI G (q 38) 8 u_24.2.2.1, aI G (q 39) 10 u_24.2.2.2.1, aI G (q 40) 8 u_24.2.2.2.2] H := hP
      have hD : va_D A [oB h 8 (oF8 (upd v 0 0) q), aZ G (q 9) 64 ip, aI G (q 10) 64 se, aI G (q 11) 640 be, aI G (q 12) 640 he, aI G (q 13) 17 sa, aI G (q 36) 8 u_24.1, aI G (q 37) 10 u_24.2.1, aI G (q 38) 8 u_24.2.2.1, aI G (q 39) 10 u_24.2.2.2.1, aI G (q 40) 8 u_24.2.2.2.2] := hD
      refine lv_istore_n (lv' := [(3, .int r_24), (0, .ref h), (1, .int x), (2, .int y)]) hx hb dX8_whole_27 rfl hl (by decide) rfl (fun ls hl => ?_)
      refine lv_iload_n hx hb dX8_whole_28 rfl (lv_at hl 0 rfl) ?_
      refine lv_bipush (v := -9) hx hb dX8_whole_29 (by decide) ?_
      refine lv_icmp_ne (tgt := 39) hx hb dX8_whole_31 (by decide) (fun c_31 => ?_) (fun c_31 => ?_)
      · refine lv_iload_n hx hb dX8_whole_39 rfl (lv_at hl 0 rfl) ?_
        refine lv_iload_n hx hb dX8_whole_40 rfl (lv_at hl 3 rfl) ?_
        refine rd_i (va_runS (As := [.int r_24, .int y]) (rest := []) ⟨hx, hb, hml, hown, hts⟩ (c_X8_partOf l G r_24 y) (va_cwS 2 hts gX8_whole_X8_partOf rfl rfl rfl (by decide +kernel) ⟨Nat.le_of_ble_eq_true rfl, Nat.le_of_ble_eq_true rfl⟩) (rPre_S hK hP [] rfl) rfl rfl hl.1 rfl (lv_room (Nat.le_of_ble_eq_true rfl)) dX8_whole_41 ⟨Nat.zero_le _, Nat.zero_le _⟩) (fun r_41 q_41 => ?_)
        obtain rfl : r_41 = pPart r_24 y := q_41
        have hpost : (whOk x y = true → ∃ w0, RK (wlP σ N (-9) N.1) 4096 x.toNatClampNeg w0 ∧ (pPart r_24 y : Int32) = (if w0 = -9 then -9 else pPart w0 y)) ∧ (whOk x y = false → (pPart r_24 y : Int32) = -1) := by
          have hO : whOk x y = true := by rw [wh_in, c_15]; simp [c_6]
          exact ⟨fun _ => ⟨r_24, q_24.2 c_6, by rw [if_neg c_31]⟩, fun h9 => absurd hO (ne_t h9)⟩
        exact hret _ (u_24.1, u_24.2.1, u_24.2.2.1, u_24.2.2.2.1, u_24.2.2.2.2) _ _ _ _ (hpost) (rfl) hP hD hS dX8_whole_44
      · refine lv_bipush (v := -9) hx hb dX8_whole_34 (by decide) ?_
        refine lv_goto (tgt := 44) hx hb dX8_whole_36 (by decide) ?_
        have hpost : (whOk x y = true → ∃ w0, RK (wlP σ N (-9) N.1) 4096 x.toNatClampNeg w0 ∧ (-9 : Int32) = (if w0 = -9 then -9 else pPart w0 y)) ∧ (whOk x y = false → (-9 : Int32) = -1) := by
          have hO : whOk x y = true := by rw [wh_in, c_15]; simp [c_6]
          exact ⟨fun _ => ⟨r_24, q_24.2 c_6, by rw [if_pos c_31]⟩, fun h9 => absurd hO (ne_t h9)⟩
        exact hret _ (u_24.1, u_24.2.1, u_24.2.2.1, u_24.2.2.2.1, u_24.2.2.2.2) _ _ _ _ (hpost) (rfl) hP hD hS dX8_whole_44
    · have c_15 : (pIn y 0 2) = false := b2i_0.mp c_15
      refine lv_iconst (v := -1) hx hb dX8_whole_18 (by decide) ?_
      have hpost : (whOk x y = true → ∃ w0, RK (wlP σ N (-9) N.1) 4096 x.toNatClampNeg w0 ∧ (-1 : Int32) = (if w0 = -9 then -9 else pPart w0 y)) ∧ (whOk x y = false → (-1 : Int32) = -1) := by
        have hO : whOk x y = false := by rw [wh_in]; simp [c_6, c_15]
        exact ⟨fun h9 => absurd h9 (ne_t hO), fun _ => rfl⟩
      exact hret _ (ft, wh, rA, bA, ha) _ _ _ _ (hpost) (rfl) hP hD hS dX8_whole_19

abbrev rX8_odd : Room := { frames := 4, cells := 0, slots := 0, locals := 104 }
set_option maxHeartbeats 4000000 in
set_option maxRecDepth 100000 in
theorem c_X8_odd (l : Launch) (G : kG) (h : Nat) (v : Nat → Int32) (q : Nat → Nat) (px : Nat → Int32) (py : Nat → Int32) (hi : Nat → Int32) (la : Nat → Int32) (lb : Nat → Int32) (ip : Nat → Int32) (se : Nat → Int32) (be : Nat → Int32) (he : Nat → Int32) (σ : PS) (sa : Nat → Int32) (ft : Nat → Int32) (wh : Nat → Int32) (rA : Nat → Int32) (bA : Nat → Int32) (ha : Nat → Int32) (N : NL) (hLM : LM σ v px py hi la lb ip se be he) (hSM : SMr N sa) : Ci l G yX8_odd wsX8_odd rX8_odd [.ref h] [oB h 8 (oF8 v q), aZ G (q 9) 64 ip, aI G (q 10) 64 se, aI G (q 11) 640 be, aI G (q 12) 640 he, aI G (q 13) 17 sa, aI G (q 36) 8 ft, aI G (q 37) 10 wh, aI G (q 38) 8 rA, aI G (q 39) 10 bA, aI G (q 40) 8 ha] (fun r (u : (Nat → Int32) × (Nat → Int32) × (Nat → Int32) × (Nat → Int32) × (Nat → Int32)) => (N.1 = 0 ∧ r = -9) ∨ ∃ b, b < N.1 ∧ r = nI b ∧ ∀ k, k < N.1 → ctO σ N k ≤ ctO σ N b ∧ (k < b → ctO σ N k < ctO σ N b)) (fun u => [oB h 8 (oF8 (upd v 0 0) q), aZ G (q 9) 64 ip, aI G (q 10) 64 se, aI G (q 11) 640 be, aI G (q 12) 640 he, aI G (q 13) 17 sa, aI G (q 36) 8 u.1, aI G (q 37) 10 u.2.1, aI G (q 38) 8 u.2.2.1, aI G (q 39) 10 u.2.2.2.1, aI G (q 40) 8 u.2.2.2.2]) := by
  refine Ci.of (cc := cX8_odd) (maxL := 5) (by decide) rfl (Nat.le_of_ble_eq_true rfl) ?_
  intro pM eM sM mM bM tM cM Q A hx hb hts hown hml hA hK hP hD hS hret ls hl
  have hown : sM.vm.findClass RX8 = some mM.cls := hown
  have hl : lv_has ls 5 [(0, .ref h)] := hl
  have hin8 : ∀ w ∈ u_ws RX8 TX8 44, w ∈ wsX8_odd := by decide +kernel
  have f98 := hts (.fieldLink RX8 98 "HorizonPeaksModel" "thrown" "I") (by decide +kernel)
  have f38 := hts (.fieldLink RX8 38 "HorizonPeaksModel" "s" "[I") (by decide +kernel)
  have hLM0 := hLM
  have hn8 := hSM.2.1
  have hcb : ∀ j, ctO σ N j ≤ 4096 := fun j => fb_ct_le _ _
  refine lv_aload_n hx hb dX8_odd_0 rfl (lv_at hl 0 rfl) ?_
  refine lv_iconst (v := 0) hx hb dX8_odd_1 (by decide) ?_
  refine va_put (D := G.1) (ci := 8) (v := .int 0) (ty := .int) (C := RX8) (T := TX8) (N := 44) hx hb hts hin8 tyX8 tyX8_ok nmX8 hown hK.1 hP hD hS 0 rfl rfl 0 (by decide) f98 (fun _ h9 => h9) rfl (by decide +kernel) rfl rfl (Nat.le_of_ble_eq_true rfl) dX8_odd_2 (fun H locs hP hD hS => ?_)
  have hP : va_P G.1 vwCl [oB h 8 (oF8 (upd v 0 0) q), aZ G (q 9) 64 ip, aI G (q 10) 64 se, aI G (q 11) 640 be, aI G (q 12) 640 he, aI G (q 13) 17 sa, aI G (q 36) 8 ft, aI G (q 37) 10 wh, aI G (q 38) 8 rA, aI G (q 39) 10 bA, aI G (q 40) 8 ha] H := hP
  have hD : va_D A [oB h 8 (oF8 (upd v 0 0) q), aZ G (q 9) 64 ip, aI G (q 10) 64 se, aI G (q 11) 640 be, aI G (q 12) 640 he, aI G (q 13) 17 sa, aI G (q 36) 8 ft, aI G (q 37) 10 wh, aI G (q 38) 8 rA, aI G (q 39) 10 bA, aI G (q 40) 8 ha] := hD
  refine lv_iconst (v := -1) hx hb dX8_odd_5 (by decide) ?_
  refine lv_istore_n (lv' := [(1, .int (-1)), (0, .ref h)]) hx hb dX8_odd_6 rfl hl (by decide) rfl (fun ls hl => ?_)
  refine lv_bipush (v := -9) hx hb dX8_odd_7 (by decide) ?_
  refine lv_istore_n (lv' := [(2, .int (-9)), (1, .int (-1)), (0, .ref h)]) hx hb dX8_odd_9 rfl hl (by decide) rfl (fun ls hl => ?_)
  refine lv_iconst (v := 0) hx hb dX8_odd_10 (by decide) ?_
  refine lv_istore_n (lv' := [(3, .int 0), (2, .int (-9)), (1, .int (-1)), (0, .ref h)]) hx hb dX8_odd_11 rfl hl (by decide) rfl (fun ls hl => ?_)
  have loop_12 : ∀ (nF : Nat) (k : Nat) (most : Int32) (its : Int32) (fx36 : Nat → Int32) (fx37 : Nat → Int32) (fx38 : Nat → Int32) (fx39 : Nat → Int32) (fx40 : Nat → Int32), (N.1 - k) < nF → (k ≤ N.1) → (OdI (ctO σ N) k most its) → ∀ (H : Heap) (locs : List Loc), va_P G.1 vwCl [oB h 8 (oF8 (upd v 0 0) q), aZ G (q 9) 64 ip, aI G (q 10) 64 se, aI G (q 11) 640 be, aI G (q 12) 640 he, aI G (q 13) 17 sa, aI G (q 36) 8 fx36, aI G (q 37) 10 fx37, aI G (q 38) 8 fx38, aI G (q 39) 10 fx39, aI G (q 40) 8 fx40] H → va_D A [oB h 8 (oF8 (upd v 0 0) q), aZ G (q 9) 64 ip, aI G (q 10) 64 se, aI G (q 11) 640 be, aI G (q 12) 640 he, aI G (q 13) 17 sa, aI G (q 36) 8 fx36, aI G (q 37) 10 fx37, aI G (q 38) 8 fx38, aI G (q 39) 10 fx39, aI G (q 40) 8 fx40] → va_S A sM.heap H locs → ∀ (ls : Array Slot), lv_has ls 5 [(3, .int (nI k)), (2, .int its), (1, .int most), (0, .ref h)] → W pM l eM rX8_odd sM mM [.ref h].toArray bM tM cM H locs 0 0 Q (F0 mM 12 ls []) := by
    intro nF
    induction nF with
    | zero => intro k most its fx36 fx37 fx38 fx39 fx40 hmF; exact absurd hmF (Nat.not_lt_zero _)
    | succ nF ih12 =>
      intro k most its fx36 fx37 fx38 fx39 fx40 hmF hk hod H locs hP hD hS ls hl
      refine lv_iload_n hx hb dX8_odd_12 rfl (lv_at hl 0 rfl) ?_
      refine lv_aload_n hx hb dX8_odd_13 rfl (lv_at hl 3 rfl) ?_
      refine va_get (D := G.1) (ci := 8) (v := .ref (q 13)) (C := RX8) (T := TX8) (N := 44) hx hb hts hin8 hown hK.1 hP 0 rfl rfl 13 (by decide) f38 (fun _ h9 => h9) rfl dX8_odd_14 ?_
      refine lv_iconst (v := 0) hx hb dX8_odd_17 (by decide) ?_
      refine top_i (y := nI 0) rfl ?_
      refine al_i hx hb hK.1 hP 5 0 rfl rfl (j := 0) (by omega) (Nat.le_of_ble_eq_true rfl) dX8_odd_18 ?_
      refine top_i (y := nI N.1) (hSM.1) ?_
      refine lv_icmp_ge (tgt := 61) hx hb dX8_odd_19 (by decide) (fun c_19 => ?_) (fun c_19 => ?_)
      · have c_19 : N.1 ≤ k := (c_le (a := N.1) (b := k) rfl rfl (by omega) (by omega)).mp c_19
        refine lv_iload_n hx hb dX8_odd_61 rfl (lv_at hl 1 rfl) ?_
        have hpost : (N.1 = 0 ∧ (its : Int32) = -9) ∨ ∃ b, b < N.1 ∧ (its : Int32) = nI b ∧ ∀ k, k < N.1 → ctO σ N k ≤ ctO σ N b ∧ (k < b → ctO σ N k < ctO σ N b) := by
          have e9 : k = N.1 := by omega
          rw [e9] at hod
          rcases hod with ⟨h1, _, h3⟩ | ⟨b, h1, h2, _, h4⟩
          · exact Or.inl ⟨h1, h3⟩
          · exact Or.inr ⟨b, h1, h2, h4⟩
        exact hret _ (fx36, fx37, fx38, fx39, fx40) _ _ _ _ (hpost) (rfl) hP hD hS dX8_odd_62
      · have c_19 : ¬ N.1 ≤ k := fun hne => c_19 ((c_le (a := N.1) (b := k) rfl rfl (by omega) (by omega)).mpr hne)
        refine lv_aload_n hx hb dX8_odd_22 rfl (lv_at hl 3 rfl) ?_
        refine lv_iconst (v := -1) hx hb dX8_odd_23 (by decide) ?_
        refine lv_iload_n hx hb dX8_odd_24 rfl (lv_at hl 0 rfl) ?_
        refine ca_i (wr := []) (va_runV (As := [.int (-1), .int (nI k)]) (rest := []) ⟨hx, hb, hml, hown, hts⟩ ((c_X8_wholeAt l G h (upd v 0 0) q px py hi la lb ip se be he σ sa fx36 fx37 fx38 fx39 fx40 N (-1 : Int32) (nI k) (N.1 - 1) (hLM0) (hSM) (Or.inr ⟨by rw [m9_ne (by omega)]; exact id, by omega⟩)) _) (cwV 2 hts gX8_odd_X8_wholeAt rfl rfl rfl (by decide +kernel) ⟨Nat.le_of_ble_eq_true rfl, Nat.le_of_ble_eq_true rfl⟩) (cPre_V hK hP hD [0, 1, 2, 3, 4, 5, 6, 7, 8, 9, 10] (by decide) rfl 0 8 rfl rfl) rfl rfl hl.1 rfl (lv_room (Nat.le_of_ble_eq_true rfl)) dX8_odd_25 ⟨Nat.zero_le _, Nat.zero_le _⟩) hP hD hS hA [0, 1, 2, 3, 4, 5, 6, 7, 8, 9, 10] [] rfl rfl (by decide) (by decide) [0, 1, 2, 3, 4, 5, 6, 7, 8, 9, 10] (fun u_25 => [oB h 8 (oF8 (upd v 0 0) q), aZ G (q 9) 64 ip, aI G (q 10) 64 se, aI G (q 11) 640 be, aI G (q 12) 640 he, aI G (q 13) 17 sa, aI G (q 36) 8 u_25.1, aI G (q 37) 10 u_25.2.1, aI G (q 38) 8 u_25.2.2.1, aI G (q 39) 10 u_25.2.2.2.1, aI G (q 40) 8 u_25.2.2.2.2]) (by decide) (fun _ => rfl) (fun r_25 u_25 H locs q_25 hP hD hS => ?_)
        have q_25 : ((-1 : Int32) < 0 → r_25 = nI (fb_ct (wlP σ N (nI k) (N.1 - 1)) 4096)) ∧ (¬ (-1 : Int32) < 0 → RK (wlP σ N (nI k) (N.1 - 1)) 4096 (-1 : Int32).toNatClampNeg r_25) := q_25
        have hP : va_P G.1 vwCl [oB h 8 (oF8 (upd v 0 0) q), aZ G (q 9) 64 ip, aI G (q 10) 64 se, aI G (q 11) 640 be, aI G (q 12) 640 he, aI G (q 13) 17 sa, aI G (q 36) 8 u_25.1, aI G (q 37) 10 u_25.2.1, aI G (q 38) 8 u_25.2.2.1, aI G (q 39) 10 u_25.2.2.2.1, aI G (q 40) 8 u_25.2.2.2.2] H := hP
        have hD : va_D A [oB h 8 (oF8 (upd v 0 0) q), aZ G (q 9) 64 ip, aI G (q 10) 64 se, aI G (q 11) 640 be, aI G (q 12) 640 he, aI G (q 13) 17 sa, aI G (q 36) 8 u_25.1, aI G (q 37) 10 u_25.2.1, aI G (q 38) 8 u_25.2.2.1, aI G (q 39) 10 u_25.2.2.2.1, aI G (q 40) 8 u_25.2.2.2.2] := hD
        obtain rfl : r_25 = nI (ctO σ N k) := q_25.1 (by decide)
        refine lv_istore (lv' := [(4, .int (nI (ctO σ N k))), (3, .int (nI k)), (2, .int its), (1, .int most), (0, .ref h)]) hx hb dX8_odd_28 hl (by decide) rfl (fun ls hl => ?_)
        refine lv_iload hx hb dX8_odd_30 (lv_at hl 0 rfl) ?_
        refine lv_iload_n hx hb dX8_odd_32 rfl (lv_at hl 3 rfl) ?_
        refine lv_icmp_le (tgt := 40) hx hb dX8_odd_33 (by decide) (fun c_33 => ?_) (fun c_33 => ?_)
        · refine lv_iload_n hx hb dX8_odd_40 rfl (lv_at hl 2 rfl) ?_
          refine lv_istore_n (lv' := [(2, .int its), (4, .int (nI (ctO σ N k))), (3, .int (nI k)), (1, .int most), (0, .ref h)]) hx hb dX8_odd_41 rfl hl (by decide) rfl (fun ls hl => ?_)
          refine lv_iload hx hb dX8_odd_42 (lv_at hl 1 rfl) ?_
          refine lv_iload_n hx hb dX8_odd_44 rfl (lv_at hl 3 rfl) ?_
          refine lv_icmp_le (tgt := 53) hx hb dX8_odd_45 (by decide) (fun c_45 => ?_) (fun c_45 => ?_)
          · refine lv_iload_n hx hb dX8_odd_53 rfl (lv_at hl 3 rfl) ?_
            refine lv_istore_n (lv' := [(1, .int most), (2, .int its), (4, .int (nI (ctO σ N k))), (3, .int (nI k)), (0, .ref h)]) hx hb dX8_odd_54 rfl hl (by decide) rfl (fun ls hl => ?_)
            refine lv_iinc (v := nI (k + 1)) (lv' := [(3, .int (nI (k + 1))), (1, .int most), (2, .int its), (4, .int (nI (ctO σ N k))), (0, .ref h)]) hx hb dX8_odd_55 hl (k := 3) rfl (inc_nI _ 1) (by decide) rfl (fun ls hl => ?_)
            refine lv_goto (tgt := 12) hx hb dX8_odd_58 (by decide) ?_
            exact ih12 (k + 1) most its u_25.1 u_25.2.1 u_25.2.2.1 u_25.2.2.2.1 u_25.2.2.2.2 (by omega) (by omega) (OdI_no hcb hod c_33) _ _ hP hD hS _ (lv_sub hl [0, 2, 1, 4] rfl)
          · exact absurd c_33 c_45
        · refine lv_iload_n hx hb dX8_odd_36 rfl (lv_at hl 1 rfl) ?_
          refine lv_goto (tgt := 41) hx hb dX8_odd_37 (by decide) ?_
          refine lv_istore_n (lv' := [(2, .int (nI k)), (4, .int (nI (ctO σ N k))), (3, .int (nI k)), (1, .int most), (0, .ref h)]) hx hb dX8_odd_41 rfl hl (by decide) rfl (fun ls hl => ?_)
          refine lv_iload hx hb dX8_odd_42 (lv_at hl 1 rfl) ?_
          refine lv_iload_n hx hb dX8_odd_44 rfl (lv_at hl 3 rfl) ?_
          refine lv_icmp_le (tgt := 53) hx hb dX8_odd_45 (by decide) (fun c_45 => ?_) (fun c_45 => ?_)
          · exact absurd c_45 c_33
          · refine lv_iload hx hb dX8_odd_48 (lv_at hl 1 rfl) ?_
            refine lv_goto (tgt := 54) hx hb dX8_odd_50 (by decide) ?_
            refine lv_istore_n (lv' := [(1, .int (nI (ctO σ N k))), (2, .int (nI k)), (4, .int (nI (ctO σ N k))), (3, .int (nI k)), (0, .ref h)]) hx hb dX8_odd_54 rfl hl (by decide) rfl (fun ls hl => ?_)
            refine lv_iinc (v := nI (k + 1)) (lv' := [(3, .int (nI (k + 1))), (1, .int (nI (ctO σ N k))), (2, .int (nI k)), (4, .int (nI (ctO σ N k))), (0, .ref h)]) hx hb dX8_odd_55 hl (k := 3) rfl (inc_nI _ 1) (by decide) rfl (fun ls hl => ?_)
            refine lv_goto (tgt := 12) hx hb dX8_odd_58 (by decide) ?_
            exact ih12 (k + 1) (nI (ctO σ N k)) (nI k) u_25.1 u_25.2.1 u_25.2.2.1 u_25.2.2.2.1 u_25.2.2.2.2 (by omega) (by omega) (OdI_up hcb hod c_33) _ _ hP hD hS _ (lv_sub hl [0, 2, 1, 4] rfl)
  exact loop_12 _ 0 (-1) (-9) ft wh rA bA ha (Nat.lt_succ_self _) (Nat.zero_le _) (Or.inl ⟨rfl, rfl, rfl⟩) _ _ hP hD hS _ (lv_sub hl [0, 1, 2, 3] rfl)
