theorem gbits_0 {f : Nat → Bool} {n : Nat} (hn : n ≤ 10) : gbits f n = 0 ↔ anyB f n = false := by
  constructor
  · intro h
    refine anyB_no.mpr (fun k hk => ?_)
    have := bt_gbits (f := f) hn (i := k) (by omega)
    rw [h, b_0] at this
    simpa [hk] using this.symm
  · intro h
    refine b_ext (fun i hi => ?_)
    rw [bt_gbits hn hi, b_0]
    by_cases c : i < n
    · simp [c, anyB_no.mp h i c]
    · simp [c]
def whOk (x y : Int32) : Bool := !decide (x < 0) && (!decide (y < 0) && decide (y ≤ 2))
def bsOk (x : Int32) : Bool := !decide (x < 0) && decide (x ≤ 3)
def bsQ (s : Nat → Int) (V : Nat) (x r : Int32) : Prop := ((∀ w, w < V → s w ≤ -1) ∧ r = -9) ∨ ∃ b, b < V ∧ -1 < s b ∧ (∀ w, w < V → s w ≤ s b ∧ (w < b → s w < s b)) ∧ r = (if x = 3 then Int32.ofInt (s b) else pPart (nI b) x)
theorem bsQ_one {s : Nat → Int} {V : Nat} {x r r' : Int32} (h : bsQ s V x r) (h' : bsQ s V x r') : r = r' := by
  rcases h with ⟨a, b⟩ | ⟨b, a1, a2, a3, a4⟩
  · rcases h' with ⟨a', b'⟩ | ⟨b', c1, c2, c3, c4⟩
    · rw [b, b']
    · have := a b' c1; omega
  · rcases h' with ⟨a', b'⟩ | ⟨b', c1, c2, c3, c4⟩
    · have := a' b a1; omega
    · have e : b = b' := by
        rcases Nat.lt_or_ge b b' with q | q
        · have h1 := (c3 b a1).2 q; have h2 := (a3 b' c1).1; omega
        · rcases Nat.lt_or_ge b' b with q2 | q2
          · have h1 := (a3 b' c1).2 q2; have h2 := (c3 b a1).1; omega
          · omega
      subst e
      rw [a4, c4]
abbrev rX7_score : Room := { frames := 15, cells := 0, slots := 0, locals := 356 }
set_option maxHeartbeats 4000000 in
set_option maxRecDepth 100000 in
theorem c_X7_score (l : Launch) (G : kG) (h : Nat) (v : Nat → Int32) (q : Nat → Nat) (vV : Nat → Int32) (mA : Nat) (sA : Nat) (kA : Nat) (lA : Nat) (lk : Nat → Int64) (vL : Nat → Int32) (qL : Nat → Nat) (xs : Nat → Int32) (ys : Nat → Int32) (hs : Nat → Int32) (pk : Nat → Int32) (vis : Nat → Int32) (vN : Nat → Int32) (qN : Nat → Nat) (bs : Nat → Int32) (zs : Nat → Int32) (vM : Nat → Int32) (qM : Nat → Nat) (rw : Nat → Int32) (ow : Nat → Int32) (x : Int32) (y : Int32) (z : Int32) (be : Nat → Nat → Nat) (nb : Nat → Nat) (n : Nat) (nn : Nat) (sl : Nat) (hn1 : vL 3 = nI n) (hn : n ≤ 10) (hsl : vL 7 = nI sl) (hsl3 : sl ≤ 3) (hn3 : vN 2 = nI nn) (hnn : nn ≤ 8) (hN : ∀ k, k < nn → bs k = nI (nb k) ∧ nb k < 64) (hB : ∀ pt, pt < 64 → pk pt = 0 → ∀ p, p < n → gbear (gx xs pt p) (gy ys pt p) = nI (be pt p) ∧ be pt p < 64) : Ci l G yX7_score wsX7_score rX7_score [.ref h, .int x, .int y, .int z] [oB h 7 (oF7 v q), oB (q 5) 6 (oF6 vV (qVw (q 1) (q 3) mA sA kA lA)), aJ G kA 80 lk, oB (q 1) 1 (oF1 vL qL), aI G (qL 0) 10 xs, aI G (qL 1) 10 ys, aI G (qL 2) 10 hs, aZ G (qL 8) 64 pk, aI G (qL 9) 64 vis, oB (q 3) 3 (oF3 vN qN), aI G (qN 0) 8 bs, aI G (qN 1) 8 zs, oB mA 2 (oF2 vM qM), aI G (qM 0) 8 rw, aI G (qM 1) 10 ow] (fun r (u : (Nat → Int64) × (Nat → Int32) × (Nat → Int32) × (Nat → Int32)) => r = (if (pPlace pk x y && pLook z) = true then nI (sc (fun k p => decide (p < n) && fE (shB vis (1 <<< (nI n &&& 31) - 1) (ptN x y)) (gstand xs ys hs (ptN x y)) (be (ptN x y)) zs nb sl k p z.toNatClampNeg) nn) else -1)) (fun u => [oB h 7 (oF7 v q), oB (q 5) 6 (oF6 vV (qVw (q 1) (q 3) mA sA kA lA)), aJ G kA 80 u.1, oB (q 1) 1 (oF1 vL qL), aI G (qL 0) 10 xs, aI G (qL 1) 10 ys, aI G (qL 2) 10 hs, aZ G (qL 8) 64 pk, aI G (qL 9) 64 vis, oB (q 3) 3 (oF3 vN qN), aI G (qN 0) 8 bs, aI G (qN 1) 8 zs, oB mA 2 (oF2 u.2.1 qM), aI G (qM 0) 8 u.2.2.1, aI G (qM 1) 10 u.2.2.2]) := by
  refine Ci.of (cc := cX7_score) (maxL := 4) (by decide) rfl (Nat.le_of_ble_eq_true rfl) ?_
  intro pM eM sM mM bM tM cM Q A hx hb hts hown hml hA hK hP hD hS hret ls hl
  have hown : sM.vm.findClass RX7 = some mM.cls := hown
  have hl : lv_has ls 4 [(0, .ref h), (1, .int x), (2, .int y), (3, .int z)] := hl
  have hin7 : ∀ w ∈ u_ws RX7 TX7 9, w ∈ wsX7_score := by decide +kernel
  have f19 := hts (.fieldLink RX7 19 "HorizonPeaks" "land" "LHorizonPeaks$Land;") (by decide +kernel)
  have f45 := hts (.fieldLink RX7 45 "HorizonPeaks" "views" "LHorizonPeaks$Views;") (by decide +kernel)
  refine lv_aload_n hx hb dX7_score_0 rfl (lv_at hl 0 rfl) ?_
  refine va_get (D := G.1) (ci := 7) (v := .ref (q 1)) (C := RX7) (T := TX7) (N := 9) hx hb hts hin7 hown hK.1 hP 0 rfl rfl 1 (by decide) f19 (fun _ h9 => h9) rfl dX7_score_1 ?_
  refine lv_iload_n hx hb dX7_score_4 rfl (lv_at hl 1 rfl) ?_
  refine lv_iload_n hx hb dX7_score_5 rfl (lv_at hl 2 rfl) ?_
  refine rd_i (va_runV (As := [.int x, .int y]) (rest := []) ⟨hx, hb, hml, hown, hts⟩ (c_X1_isPlace l G (q 1) vL qL pk x y) (cwV 2 hts gX7_score_X1_isPlace rfl rfl rfl (by decide +kernel) ⟨Nat.le_of_ble_eq_true rfl, Nat.le_of_ble_eq_true rfl⟩) (rPre_V hK hP [3, 7] rfl 0 1 rfl rfl) rfl rfl hl.1 rfl (lv_room (Nat.le_of_ble_eq_true rfl)) dX7_score_6 ⟨Nat.zero_le _, Nat.zero_le _⟩) (fun r_6 q_6 => ?_)
  obtain rfl : r_6 = b2i (pPlace pk x y) := q_6
  refine lv_if_eq (tgt := 19) hx hb dX7_score_9 (by decide) (fun c_9 => ?_) (fun c_9 => ?_)
  · have c_9 : (pPlace pk x y) = false := b2i_0.mp c_9
    refine lv_iconst (v := -1) hx hb dX7_score_19 (by decide) ?_
    have hpost : (-1 : Int32) = (if (pPlace pk x y && pLook z) = true then nI (sc (fun k p => decide (p < n) && fE (shB vis (1 <<< (nI n &&& 31) - 1) (ptN x y)) (gstand xs ys hs (ptN x y)) (be (ptN x y)) zs nb sl k p z.toNatClampNeg) nn) else -1) := by
      rw [if_neg (by simp [c_9])]
    exact hret _ (lk, vM, rw, ow) _ _ _ _ (hpost) (rfl) hP hD hS dX7_score_20
  · have c_9 : (pPlace pk x y) = true := b2i_n0.mp c_9
    obtain ⟨X, Y, hX, hY, rfl, rfl, hpk0⟩ := pPlace_t c_9
    refine lv_iload_n hx hb dX7_score_12 rfl (lv_at hl 3 rfl) ?_
    refine rd_i (va_runS (As := [.int z]) (rest := []) ⟨hx, hb, hml, hown, hts⟩ (c_X7_isLook l G z) (va_cwS 1 hts gX7_score_X7_isLook rfl rfl rfl (by decide +kernel) ⟨Nat.le_of_ble_eq_true rfl, Nat.le_of_ble_eq_true rfl⟩) (rPre_S hK hP [] rfl) rfl rfl hl.1 rfl (lv_room (Nat.le_of_ble_eq_true rfl)) dX7_score_13 ⟨Nat.zero_le _, Nat.zero_le _⟩) (fun r_13 q_13 => ?_)
    obtain rfl : r_13 = b2i (pLook z) := q_13
    refine lv_if_ne (tgt := 21) hx hb dX7_score_16 (by decide) (fun c_16 => ?_) (fun c_16 => ?_)
    · have c_16 : (pLook z) = true := b2i_n0.mp c_16
      obtain ⟨j0, hj0, rfl⟩ := pLook_of c_16
      refine lv_aload_n hx hb dX7_score_21 rfl (lv_at hl 0 rfl) ?_
      refine va_get (D := G.1) (ci := 7) (v := .ref (q 5)) (C := RX7) (T := TX7) (N := 9) hx hb hts hin7 hown hK.1 hP 0 rfl rfl 5 (by decide) f45 (fun _ h9 => h9) rfl dX7_score_22 ?_
      refine lv_iload_n hx hb dX7_score_25 rfl (lv_at hl 1 rfl) ?_
      refine lv_iload_n hx hb dX7_score_26 rfl (lv_at hl 2 rfl) ?_
      refine rd_i (va_runS (As := [.int (nI X), .int (nI Y)]) (rest := [.ref (q 5)]) ⟨hx, hb, hml, hown, hts⟩ (c_X7_pointOf l G (nI X) (nI Y)) (va_cwS 2 hts gX7_score_X7_pointOf rfl rfl rfl (by decide +kernel) ⟨Nat.le_of_ble_eq_true rfl, Nat.le_of_ble_eq_true rfl⟩) (rPre_S hK hP [] rfl) rfl rfl hl.1 rfl (lv_room (Nat.le_of_ble_eq_true rfl)) dX7_score_27 ⟨Nat.zero_le _, Nat.zero_le _⟩) (fun r_27 q_27 => ?_)
      obtain rfl : r_27 = (nI X) * 8 + (nI Y) := q_27
      refine top_i (y := nI (X * 8 + Y)) (mul8 X Y) ?_
      refine lv_iload_n hx hb dX7_score_30 rfl (lv_at hl 3 rfl) ?_
      refine lv_aload_n hx hb dX7_score_31 rfl (lv_at hl 0 rfl) ?_
      refine va_get (D := G.1) (ci := 7) (v := .ref (q 1)) (C := RX7) (T := TX7) (N := 9) hx hb hts hin7 hown hK.1 hP 0 rfl rfl 1 (by decide) f19 (fun _ h9 => h9) rfl dX7_score_32 ?_
      refine rd_i (va_runV (As := []) (rest := [.int (nI j0), .int (nI (X * 8 + Y)), .ref (q 5)]) ⟨hx, hb, hml, hown, hts⟩ (c_X1_allPeaks l G (q 1) vL qL) (cwV 0 hts gX7_score_X1_allPeaks rfl rfl rfl (by decide +kernel) ⟨Nat.le_of_ble_eq_true rfl, Nat.le_of_ble_eq_true rfl⟩) (rPre_V hK hP [3] rfl 0 1 rfl rfl) rfl rfl hl.1 rfl (lv_room (Nat.le_of_ble_eq_true rfl)) dX7_score_35 ⟨Nat.zero_le _, Nat.zero_le _⟩) (fun r_35 q_35 => ?_)
      obtain rfl : r_35 = 1 <<< (vL 3 &&& 31) - 1 := q_35
      refine top_i (y := 1 <<< (nI n &&& 31) - 1) (by rw [hn1]) ?_
      refine ca_i (wr := [oB h 7 (oF7 v q), aZ G (qL 8) 64 pk]) (va_runV (As := [.int (nI (X * 8 + Y)), .int (nI j0), .int (1 <<< (nI n &&& 31) - 1)]) (rest := []) ⟨hx, hb, hml, hown, hts⟩ ((c_X6_scoreWith l G (q 5) vV (qVw (q 1) (q 3) mA sA kA lA) lk vL qL xs ys hs vis vN qN bs zs vM qM rw ow (be (X * 8 + Y)) nb n nn sl (X * 8 + Y) j0 (1 <<< (nI n &&& 31) - 1) (by omega) (hn1) (hn) (hsl) (hsl3) (hn3) (hnn) (hN) (hB _ (by omega) hpk0) (hj0)) _) (cwV 3 hts gX7_score_X6_scoreWith rfl rfl rfl (by decide +kernel) ⟨Nat.le_of_ble_eq_true rfl, Nat.le_of_ble_eq_true rfl⟩) (cPre_V hK hP hD [1, 2, 3, 4, 5, 6, 8, 9, 10, 11, 12, 13, 14] (by decide) rfl 0 6 rfl rfl) rfl rfl hl.1 rfl (lv_room (Nat.le_of_ble_eq_true rfl)) dX7_score_38 ⟨Nat.zero_le _, Nat.zero_le _⟩) hP hD hS hA [1, 2, 3, 4, 5, 6, 8, 9, 10, 11, 12, 13, 14] [0, 7] rfl rfl (by decide) (by decide) [0, 2, 3, 4, 5, 6, 7, 1, 8, 9, 10, 11, 12, 13, 14] (fun u_38 => [oB h 7 (oF7 v q), oB (q 5) 6 (oF6 vV (qVw (q 1) (q 3) mA sA kA lA)), aJ G kA 80 u_38.1, oB (q 1) 1 (oF1 vL qL), aI G (qL 0) 10 xs, aI G (qL 1) 10 ys, aI G (qL 2) 10 hs, aZ G (qL 8) 64 pk, aI G (qL 9) 64 vis, oB (q 3) 3 (oF3 vN qN), aI G (qN 0) 8 bs, aI G (qN 1) 8 zs, oB mA 2 (oF2 u_38.2.1 qM), aI G (qM 0) 8 u_38.2.2.1, aI G (qM 1) 10 u_38.2.2.2]) (by decide) (fun _ => rfl) (fun r_38 u_38 H locs q_38 hP hD hS => ?_)
      obtain rfl : r_38 = nI (sc (fun k p => decide (p < n) && fE (shB vis (1 <<< (nI n &&& 31) - 1) (X * 8 + Y)) (gstand xs ys hs (X * 8 + Y)) (be (X * 8 + Y)) zs nb sl k p j0) nn) := q_38
      have hP : va_P G.1 vwCl [oB h 7 (oF7 v q), oB (q 5) 6 (oF6 vV (qVw (q 1) (q 3) mA sA kA lA)), aJ G kA 80 u_38.1, oB (q 1) 1 (oF1 vL qL), aI G (qL 0) 10 xs, aI G (qL 1) 10 ys, aI G (qL 2) 10 hs, aZ G (qL 8) 64 pk, aI G (qL 9) 64 vis, oB (q 3) 3 (oF3 vN qN), aI G (qN 0) 8 bs, aI G (qN 1) 8 zs, oB mA 2 (oF2 u_38.2.1 qM), aI G (qM 0) 8 u_38.2.2.1, aI G (qM 1) 10 u_38.2.2.2] H := hP
      have hD : va_D A [oB h 7 (oF7 v q), oB (q 5) 6 (oF6 vV (qVw (q 1) (q 3) mA sA kA lA)), aJ G kA 80 u_38.1, oB (q 1) 1 (oF1 vL qL), aI G (qL 0) 10 xs, aI G (qL 1) 10 ys, aI G (qL 2) 10 hs, aZ G (qL 8) 64 pk, aI G (qL 9) 64 vis, oB (q 3) 3 (oF3 vN qN), aI G (qN 0) 8 bs, aI G (qN 1) 8 zs, oB mA 2 (oF2 u_38.2.1 qM), aI G (qM 0) 8 u_38.2.2.1, aI G (qM 1) 10 u_38.2.2.2] := hD
      have hpost : (nI (sc (fun k p => decide (p < n) && fE (shB vis (1 <<< (nI n &&& 31) - 1) (X * 8 + Y)) (gstand xs ys hs (X * 8 + Y)) (be (X * 8 + Y)) zs nb sl k p j0) nn) : Int32) = (if (pPlace pk (nI X) (nI Y) && pLook (nI j0)) = true then nI (sc (fun k p => decide (p < n) && fE (shB vis (1 <<< (nI n &&& 31) - 1) (ptN (nI X) (nI Y))) (gstand xs ys hs (ptN (nI X) (nI Y))) (be (ptN (nI X) (nI Y))) zs nb sl k p (nI j0).toNatClampNeg) nn) else -1) := by
        rw [if_pos (by simp [c_9, c_16]), ptN_nI hX hY, nI_clamp (by omega)]
      exact hret _ (u_38.1, u_38.2.1, u_38.2.2.1, u_38.2.2.2) _ _ _ _ (hpost) (rfl) hP hD hS dX7_score_41
    · have c_16 : (pLook z) = false := b2i_0.mp c_16
      refine lv_iconst (v := -1) hx hb dX7_score_19 (by decide) ?_
      have hpost : (-1 : Int32) = (if (pPlace pk (nI X) (nI Y) && pLook z) = true then nI (sc (fun k p => decide (p < n) && fE (shB vis (1 <<< (nI n &&& 31) - 1) (ptN (nI X) (nI Y))) (gstand xs ys hs (ptN (nI X) (nI Y))) (be (ptN (nI X) (nI Y))) zs nb sl k p z.toNatClampNeg) nn) else -1) := by
        rw [if_neg (by simp [c_9, c_16])]
      exact hret _ (lk, vM, rw, ow) _ _ _ _ (hpost) (rfl) hP hD hS dX7_score_20

abbrev rX7_fits : Room := { frames := 4, cells := 0, slots := 0, locals := 100 }
set_option maxHeartbeats 4000000 in
set_option maxRecDepth 100000 in
theorem c_X7_fits (l : Launch) (G : kG) (h : Nat) (v : Nat → Int32) (q : Nat → Nat) (vV : Nat → Int32) (mA : Nat) (sA : Nat) (kA : Nat) (lA : Nat) (lk : Nat → Int64) (vL : Nat → Int32) (qL : Nat → Nat) (xs : Nat → Int32) (ys : Nat → Int32) (hs : Nat → Int32) (pk : Nat → Int32) (vis : Nat → Int32) (vN : Nat → Int32) (qN : Nat → Nat) (bs : Nat → Int32) (zs : Nat → Int32) (x : Int32) (y : Int32) (z : Int32) (w : Int32) (w2 : Int32) (be : Nat → Nat → Nat) (nb : Nat → Nat) (n : Nat) (nn : Nat) (sl : Nat) (hn1 : vL 3 = nI n) (hn : n ≤ 10) (hsl : vL 7 = nI sl) (hsl3 : sl ≤ 3) (hn3 : vN 2 = nI nn) (hnn : nn ≤ 8) (hN : ∀ k, k < nn → bs k = nI (nb k) ∧ nb k < 64) (hB : ∀ pt, pt < 64 → pk pt = 0 → ∀ p, p < n → gbear (gx xs pt p) (gy ys pt p) = nI (be pt p) ∧ be pt p < 64) : Ci l G yX7_fits wsX7_fits rX7_fits [.ref h, .int x, .int y, .int z, .int w, .int w2] [oB h 7 (oF7 v q), oB (q 5) 6 (oF6 vV (qVw (q 1) (q 3) mA sA kA lA)), aJ G kA 80 lk, oB (q 1) 1 (oF1 vL qL), aI G (qL 0) 10 xs, aI G (qL 1) 10 ys, aI G (qL 2) 10 hs, aZ G (qL 8) 64 pk, aI G (qL 9) 64 vis, oB (q 3) 3 (oF3 vN qN), aI G (qN 0) 8 bs, aI G (qN 1) 8 zs] (fun r (u : (Nat → Int64)) => r = (if (pPlace pk x y && (pLook z && (pHas (nI nn) w && pHas (nI n) w2))) = true then b2i (anyB (fun p => fE (shB vis (1 <<< (w2 &&& 31)) (ptN x y)) (gstand xs ys hs (ptN x y)) (be (ptN x y)) zs nb sl w.toNatClampNeg p z.toNatClampNeg) n) else -1)) (fun u => [oB h 7 (oF7 v q), oB (q 5) 6 (oF6 vV (qVw (q 1) (q 3) mA sA kA lA)), aJ G kA 80 u, oB (q 1) 1 (oF1 vL qL), aI G (qL 0) 10 xs, aI G (qL 1) 10 ys, aI G (qL 2) 10 hs, aZ G (qL 8) 64 pk, aI G (qL 9) 64 vis, oB (q 3) 3 (oF3 vN qN), aI G (qN 0) 8 bs, aI G (qN 1) 8 zs]) := by
  refine Ci.of (cc := cX7_fits) (maxL := 6) (by decide) rfl (Nat.le_of_ble_eq_true rfl) ?_
  intro pM eM sM mM bM tM cM Q A hx hb hts hown hml hA hK hP hD hS hret ls hl
  have hown : sM.vm.findClass RX7 = some mM.cls := hown
  have hl : lv_has ls 6 [(0, .ref h), (1, .int x), (2, .int y), (3, .int z), (4, .int w), (5, .int w2)] := hl
  have hin7 : ∀ w ∈ u_ws RX7 TX7 9, w ∈ wsX7_fits := by decide +kernel
  have f19 := hts (.fieldLink RX7 19 "HorizonPeaks" "land" "LHorizonPeaks$Land;") (by decide +kernel)
  have f29 := hts (.fieldLink RX7 29 "HorizonPeaks" "notches" "LHorizonPeaks$Notches;") (by decide +kernel)
  have f45 := hts (.fieldLink RX7 45 "HorizonPeaks" "views" "LHorizonPeaks$Views;") (by decide +kernel)
  refine lv_aload_n hx hb dX7_fits_0 rfl (lv_at hl 0 rfl) ?_
  refine va_get (D := G.1) (ci := 7) (v := .ref (q 1)) (C := RX7) (T := TX7) (N := 9) hx hb hts hin7 hown hK.1 hP 0 rfl rfl 1 (by decide) f19 (fun _ h9 => h9) rfl dX7_fits_1 ?_
  refine lv_iload_n hx hb dX7_fits_4 rfl (lv_at hl 1 rfl) ?_
  refine lv_iload_n hx hb dX7_fits_5 rfl (lv_at hl 2 rfl) ?_
  refine rd_i (va_runV (As := [.int x, .int y]) (rest := []) ⟨hx, hb, hml, hown, hts⟩ (c_X1_isPlace l G (q 1) vL qL pk x y) (cwV 2 hts gX7_fits_X1_isPlace rfl rfl rfl (by decide +kernel) ⟨Nat.le_of_ble_eq_true rfl, Nat.le_of_ble_eq_true rfl⟩) (rPre_V hK hP [3, 7] rfl 0 1 rfl rfl) rfl rfl hl.1 rfl (lv_room (Nat.le_of_ble_eq_true rfl)) dX7_fits_6 ⟨Nat.zero_le _, Nat.zero_le _⟩) (fun r_6 q_6 => ?_)
  obtain rfl : r_6 = b2i (pPlace pk x y) := q_6
  refine lv_if_eq (tgt := 43) hx hb dX7_fits_9 (by decide) (fun c_9 => ?_) (fun c_9 => ?_)
  · have c_9 : (pPlace pk x y) = false := b2i_0.mp c_9
    refine lv_iconst (v := -1) hx hb dX7_fits_43 (by decide) ?_
    have hpost : (-1 : Int32) = (if (pPlace pk x y && (pLook z && (pHas (nI nn) w && pHas (nI n) w2))) = true then b2i (anyB (fun p => fE (shB vis (1 <<< (w2 &&& 31)) (ptN x y)) (gstand xs ys hs (ptN x y)) (be (ptN x y)) zs nb sl w.toNatClampNeg p z.toNatClampNeg) n) else -1) := by
      rw [if_neg (by simp [c_9])]
    exact hret _ lk _ _ _ _ (hpost) (rfl) hP hD hS dX7_fits_44
  · have c_9 : (pPlace pk x y) = true := b2i_n0.mp c_9
    obtain ⟨X, Y, hX, hY, rfl, rfl, hpk0⟩ := pPlace_t c_9
    refine lv_iload_n hx hb dX7_fits_12 rfl (lv_at hl 3 rfl) ?_
    refine rd_i (va_runS (As := [.int z]) (rest := []) ⟨hx, hb, hml, hown, hts⟩ (c_X7_isLook l G z) (va_cwS 1 hts gX7_fits_X7_isLook rfl rfl rfl (by decide +kernel) ⟨Nat.le_of_ble_eq_true rfl, Nat.le_of_ble_eq_true rfl⟩) (rPre_S hK hP [] rfl) rfl rfl hl.1 rfl (lv_room (Nat.le_of_ble_eq_true rfl)) dX7_fits_13 ⟨Nat.zero_le _, Nat.zero_le _⟩) (fun r_13 q_13 => ?_)
    obtain rfl : r_13 = b2i (pLook z) := q_13
    refine lv_if_eq (tgt := 43) hx hb dX7_fits_16 (by decide) (fun c_16 => ?_) (fun c_16 => ?_)
    · have c_16 : (pLook z) = false := b2i_0.mp c_16
      refine lv_iconst (v := -1) hx hb dX7_fits_43 (by decide) ?_
      have hpost : (-1 : Int32) = (if (pPlace pk (nI X) (nI Y) && (pLook z && (pHas (nI nn) w && pHas (nI n) w2))) = true then b2i (anyB (fun p => fE (shB vis (1 <<< (w2 &&& 31)) (ptN (nI X) (nI Y))) (gstand xs ys hs (ptN (nI X) (nI Y))) (be (ptN (nI X) (nI Y))) zs nb sl w.toNatClampNeg p z.toNatClampNeg) n) else -1) := by
        rw [if_neg (by simp [c_9, c_16])]
      exact hret _ lk _ _ _ _ (hpost) (rfl) hP hD hS dX7_fits_44
    · have c_16 : (pLook z) = true := b2i_n0.mp c_16
      obtain ⟨j0, hj0, rfl⟩ := pLook_of c_16
      refine lv_aload_n hx hb dX7_fits_19 rfl (lv_at hl 0 rfl) ?_
      refine va_get (D := G.1) (ci := 7) (v := .ref (q 3)) (C := RX7) (T := TX7) (N := 9) hx hb hts hin7 hown hK.1 hP 0 rfl rfl 3 (by decide) f29 (fun _ h9 => h9) rfl dX7_fits_20 ?_
      refine lv_iload hx hb dX7_fits_23 (lv_at hl 4 rfl) ?_
      refine rd_i (va_runV (As := [.int w]) (rest := []) ⟨hx, hb, hml, hown, hts⟩ (c_X3_has l G (q 3) vN qN w) (cwV 1 hts gX7_fits_X3_has rfl rfl rfl (by decide +kernel) ⟨Nat.le_of_ble_eq_true rfl, Nat.le_of_ble_eq_true rfl⟩) (rPre_V hK hP [9] rfl 0 3 rfl rfl) rfl rfl hl.1 rfl (lv_room (Nat.le_of_ble_eq_true rfl)) dX7_fits_25 ⟨Nat.zero_le _, Nat.zero_le _⟩) (fun r_25 q_25 => ?_)
      obtain rfl : r_25 = b2i (pHas (vN 2) w) := q_25
      refine lv_if_eq (tgt := 43) hx hb dX7_fits_28 (by decide) (fun c_28 => ?_) (fun c_28 => ?_)
      · have c_28 : (pHas (vN 2) w) = false := b2i_0.mp c_28
        rw [hn3] at c_28
        refine lv_iconst (v := -1) hx hb dX7_fits_43 (by decide) ?_
        have hpost : (-1 : Int32) = (if (pPlace pk (nI X) (nI Y) && (pLook (nI j0) && (pHas (nI nn) w && pHas (nI n) w2))) = true then b2i (anyB (fun p => fE (shB vis (1 <<< (w2 &&& 31)) (ptN (nI X) (nI Y))) (gstand xs ys hs (ptN (nI X) (nI Y))) (be (ptN (nI X) (nI Y))) zs nb sl w.toNatClampNeg p (nI j0).toNatClampNeg) n) else -1) := by
          rw [if_neg (by simp [c_9, c_16, c_28])]
        exact hret _ lk _ _ _ _ (hpost) (rfl) hP hD hS dX7_fits_44
      · have c_28 : (pHas (vN 2) w) = true := b2i_n0.mp c_28
        rw [hn3] at c_28
        obtain ⟨k1, hk1, rfl⟩ := pHas_of (by omega) c_28
        refine lv_aload_n hx hb dX7_fits_31 rfl (lv_at hl 0 rfl) ?_
        refine va_get (D := G.1) (ci := 7) (v := .ref (q 1)) (C := RX7) (T := TX7) (N := 9) hx hb hts hin7 hown hK.1 hP 0 rfl rfl 1 (by decide) f19 (fun _ h9 => h9) rfl dX7_fits_32 ?_
        refine lv_iload hx hb dX7_fits_35 (lv_at hl 5 rfl) ?_
        refine rd_i (va_runV (As := [.int w2]) (rest := []) ⟨hx, hb, hml, hown, hts⟩ (c_X1_hasPeak l G (q 1) vL qL w2) (cwV 1 hts gX7_fits_X1_hasPeak rfl rfl rfl (by decide +kernel) ⟨Nat.le_of_ble_eq_true rfl, Nat.le_of_ble_eq_true rfl⟩) (rPre_V hK hP [3] rfl 0 1 rfl rfl) rfl rfl hl.1 rfl (lv_room (Nat.le_of_ble_eq_true rfl)) dX7_fits_37 ⟨Nat.zero_le _, Nat.zero_le _⟩) (fun r_37 q_37 => ?_)
        obtain rfl : r_37 = b2i (pHas (vL 3) w2) := q_37
        refine lv_if_ne (tgt := 45) hx hb dX7_fits_40 (by decide) (fun c_40 => ?_) (fun c_40 => ?_)
        · have c_40 : (pHas (vL 3) w2) = true := b2i_n0.mp c_40
          rw [hn1] at c_40
          obtain ⟨p1, hp1, rfl⟩ := pHas_of (by omega) c_40
          refine lv_aload_n hx hb dX7_fits_45 rfl (lv_at hl 0 rfl) ?_
          refine va_get (D := G.1) (ci := 7) (v := .ref (q 5)) (C := RX7) (T := TX7) (N := 9) hx hb hts hin7 hown hK.1 hP 0 rfl rfl 5 (by decide) f45 (fun _ h9 => h9) rfl dX7_fits_46 ?_
          refine lv_iload_n hx hb dX7_fits_49 rfl (lv_at hl 1 rfl) ?_
          refine lv_iload_n hx hb dX7_fits_50 rfl (lv_at hl 2 rfl) ?_
          refine rd_i (va_runS (As := [.int (nI X), .int (nI Y)]) (rest := [.ref (q 5)]) ⟨hx, hb, hml, hown, hts⟩ (c_X7_pointOf l G (nI X) (nI Y)) (va_cwS 2 hts gX7_fits_X7_pointOf rfl rfl rfl (by decide +kernel) ⟨Nat.le_of_ble_eq_true rfl, Nat.le_of_ble_eq_true rfl⟩) (rPre_S hK hP [] rfl) rfl rfl hl.1 rfl (lv_room (Nat.le_of_ble_eq_true rfl)) dX7_fits_51 ⟨Nat.zero_le _, Nat.zero_le _⟩) (fun r_51 q_51 => ?_)
          obtain rfl : r_51 = (nI X) * 8 + (nI Y) := q_51
          refine top_i (y := nI (X * 8 + Y)) (mul8 X Y) ?_
          refine lv_iconst (v := 1) hx hb dX7_fits_54 (by decide) ?_
          refine lv_iload hx hb dX7_fits_55 (lv_at hl 5 rfl) ?_
          refine lv_ishl hx hb dX7_fits_57 ?_
          refine ca_l (wr := [oB h 7 (oF7 v q), aZ G (qL 8) 64 pk]) (va_runV (As := [.int (nI (X * 8 + Y)), .int (1 <<< ((nI p1) &&& 31))]) (rest := []) ⟨hx, hb, hml, hown, hts⟩ ((c_X6_standAt l G (q 5) vV (qVw (q 1) (q 3) mA sA kA lA) lk vL qL xs ys hs vis vN qN bs zs (be (X * 8 + Y)) nb n nn sl (X * 8 + Y) (1 <<< ((nI p1) &&& 31)) (by omega) (hn1) (hn) (hsl) (hsl3) (hn3) (hnn) (hN) (hB _ (by omega) hpk0)) _) (cwV 2 hts gX7_fits_X6_standAt rfl rfl rfl (by decide +kernel) ⟨Nat.le_of_ble_eq_true rfl, Nat.le_of_ble_eq_true rfl⟩) (cPre_V hK hP hD [1, 2, 3, 4, 5, 6, 8, 9, 10, 11] (by decide) rfl 0 6 rfl rfl) rfl rfl hl.1 rfl (lv_room (Nat.le_of_ble_eq_true rfl)) dX7_fits_58 ⟨Nat.zero_le _, Nat.zero_le _⟩) hP hD hS hA [1, 2, 3, 4, 5, 6, 8, 9, 10, 11] [0, 7] rfl rfl (by decide) (by decide) [0, 2, 3, 4, 5, 6, 7, 1, 8, 9, 10, 11] (fun u_58 => [oB h 7 (oF7 v q), oB (q 5) 6 (oF6 vV (qVw (q 1) (q 3) mA sA kA lA)), aJ G kA 80 u_58, oB (q 1) 1 (oF1 vL qL), aI G (qL 0) 10 xs, aI G (qL 1) 10 ys, aI G (qL 2) 10 hs, aZ G (qL 8) 64 pk, aI G (qL 9) 64 vis, oB (q 3) 3 (oF3 vN qN), aI G (qN 0) 8 bs, aI G (qN 1) 8 zs]) (by decide) (fun _ => rfl) (fun r_58 u_58 H locs q_58 hP hD hS => ?_)
          have q_58 : ∀ j, j < 64 → lb r_58 j = anyB (fun p => anyB (fun k => fE (shB vis (1 <<< ((nI p1) &&& 31)) (X * 8 + Y)) (gstand xs ys hs (X * 8 + Y)) (be (X * 8 + Y)) zs nb sl k p j) nn) n ∧ ∀ k p, k < nn → p < n → lb (u_58 (k * 10 + p)) j = fE (shB vis (1 <<< ((nI p1) &&& 31)) (X * 8 + Y)) (gstand xs ys hs (X * 8 + Y)) (be (X * 8 + Y)) zs nb sl k p j := q_58
          have hP : va_P G.1 vwCl [oB h 7 (oF7 v q), oB (q 5) 6 (oF6 vV (qVw (q 1) (q 3) mA sA kA lA)), aJ G kA 80 u_58, oB (q 1) 1 (oF1 vL qL), aI G (qL 0) 10 xs, aI G (qL 1) 10 ys, aI G (qL 2) 10 hs, aZ G (qL 8) 64 pk, aI G (qL 9) 64 vis, oB (q 3) 3 (oF3 vN qN), aI G (qN 0) 8 bs, aI G (qN 1) 8 zs] H := hP
          have hD : va_D A [oB h 7 (oF7 v q), oB (q 5) 6 (oF6 vV (qVw (q 1) (q 3) mA sA kA lA)), aJ G kA 80 u_58, oB (q 1) 1 (oF1 vL qL), aI G (qL 0) 10 xs, aI G (qL 1) 10 ys, aI G (qL 2) 10 hs, aZ G (qL 8) 64 pk, aI G (qL 9) 64 vis, oB (q 3) 3 (oF3 vN qN), aI G (qN 0) 8 bs, aI G (qN 1) 8 zs] := hD
          refine lv_pop2_2 hx hb dX7_fits_61 rfl ?_
          refine lv_aload_n hx hb dX7_fits_62 rfl (lv_at hl 0 rfl) ?_
          refine va_get (D := G.1) (ci := 7) (v := .ref (q 5)) (C := RX7) (T := TX7) (N := 9) hx hb hts hin7 hown hK.1 hP 0 rfl rfl 5 (by decide) f45 (fun _ h9 => h9) rfl dX7_fits_63 ?_
          refine lv_iload_n hx hb dX7_fits_66 rfl (lv_at hl 3 rfl) ?_
          refine lv_iload hx hb dX7_fits_67 (lv_at hl 4 rfl) ?_
          refine rd_i (va_runV (As := [.int (nI j0), .int (nI k1)]) (rest := []) ⟨hx, hb, hml, hown, hts⟩ (c_X6_fitting l G (q 5) vV (qVw (q 1) (q 3) mA sA kA lA) u_58 vL qL n j0 k1 (hn1) (hn) (hj0) (by omega)) (cwV 2 hts gX7_fits_X6_fitting rfl rfl rfl (by decide +kernel) ⟨Nat.le_of_ble_eq_true rfl, Nat.le_of_ble_eq_true rfl⟩) (rPre_V hK hP [1, 2, 3] rfl 0 6 rfl rfl) rfl rfl hl.1 rfl (lv_room (Nat.le_of_ble_eq_true rfl)) dX7_fits_69 ⟨Nat.zero_le _, Nat.zero_le _⟩) (fun r_69 q_69 => ?_)
          obtain rfl : r_69 = gbits (fun p => lb (u_58 (k1 * 10 + p)) j0) n := q_69
          refine lv_if_eq (tgt := 79) hx hb dX7_fits_72 (by decide) (fun c_72 => ?_) (fun c_72 => ?_)
          · refine lv_iconst (v := 0) hx hb dX7_fits_79 (by decide) ?_
            have hpost : (0 : Int32) = (if (pPlace pk (nI X) (nI Y) && (pLook (nI j0) && (pHas (nI nn) (nI k1) && pHas (nI n) (nI p1)))) = true then b2i (anyB (fun p => fE (shB vis (1 <<< ((nI p1) &&& 31)) (ptN (nI X) (nI Y))) (gstand xs ys hs (ptN (nI X) (nI Y))) (be (ptN (nI X) (nI Y))) zs nb sl (nI k1).toNatClampNeg p (nI j0).toNatClampNeg) n) else -1) := by
              rw [if_pos (by simp [c_9, c_16, c_28, c_40]), ptN_nI hX hY, nI_clamp (by omega), nI_clamp (by omega)]
              have hcg : anyB (fun p => lb (u_58 (k1 * 10 + p)) j0) n = anyB (fun p => fE (shB vis (1 <<< (nI p1 &&& 31)) (X * 8 + Y)) (gstand xs ys hs (X * 8 + Y)) (be (X * 8 + Y)) zs nb sl k1 p j0) n := anyB_cong (fun p hp => (q_58 j0 hj0).2 k1 p hk1 hp)
              rw [← hcg, (gbits_0 hn).mp c_72]
              rfl
            exact hret _ u_58 _ _ _ _ (hpost) (rfl) hP hD hS dX7_fits_80
          · refine lv_iconst (v := 1) hx hb dX7_fits_75 (by decide) ?_
            refine lv_goto (tgt := 80) hx hb dX7_fits_76 (by decide) ?_
            have hpost : (1 : Int32) = (if (pPlace pk (nI X) (nI Y) && (pLook (nI j0) && (pHas (nI nn) (nI k1) && pHas (nI n) (nI p1)))) = true then b2i (anyB (fun p => fE (shB vis (1 <<< ((nI p1) &&& 31)) (ptN (nI X) (nI Y))) (gstand xs ys hs (ptN (nI X) (nI Y))) (be (ptN (nI X) (nI Y))) zs nb sl (nI k1).toNatClampNeg p (nI j0).toNatClampNeg) n) else -1) := by
              rw [if_pos (by simp [c_9, c_16, c_28, c_40]), ptN_nI hX hY, nI_clamp (by omega), nI_clamp (by omega)]
              have hcg : anyB (fun p => lb (u_58 (k1 * 10 + p)) j0) n = anyB (fun p => fE (shB vis (1 <<< (nI p1 &&& 31)) (X * 8 + Y)) (gstand xs ys hs (X * 8 + Y)) (be (X * 8 + Y)) zs nb sl k1 p j0) n := anyB_cong (fun p hp => (q_58 j0 hj0).2 k1 p hk1 hp)
              rw [← hcg, eq_true_of_ne_false (fun e => c_72 ((gbits_0 hn).mpr e))]
              rfl
            exact hret _ u_58 _ _ _ _ (hpost) (rfl) hP hD hS dX7_fits_80
        · have c_40 : (pHas (vL 3) w2) = false := b2i_0.mp c_40
          rw [hn1] at c_40
          refine lv_iconst (v := -1) hx hb dX7_fits_43 (by decide) ?_
          have hpost : (-1 : Int32) = (if (pPlace pk (nI X) (nI Y) && (pLook (nI j0) && (pHas (nI nn) (nI k1) && pHas (nI n) w2))) = true then b2i (anyB (fun p => fE (shB vis (1 <<< (w2 &&& 31)) (ptN (nI X) (nI Y))) (gstand xs ys hs (ptN (nI X) (nI Y))) (be (ptN (nI X) (nI Y))) zs nb sl (nI k1).toNatClampNeg p (nI j0).toNatClampNeg) n) else -1) := by
            rw [if_neg (by simp [c_9, c_16, c_28, c_40])]
          exact hret _ lk _ _ _ _ (hpost) (rfl) hP hD hS dX7_fits_44

abbrev rX7_wholes : Room := { frames := 15, cells := 0, slots := 0, locals := 359 }
set_option maxHeartbeats 4000000 in
set_option maxRecDepth 100000 in
theorem c_X7_wholes (l : Launch) (G : kG) (h : Nat) (v : Nat → Int32) (q : Nat → Nat) (vV : Nat → Int32) (mA : Nat) (sA : Nat) (kA : Nat) (lA : Nat) (sco : Nat → Int32) (lk : Nat → Int64) (vL : Nat → Int32) (qL : Nat → Nat) (xs : Nat → Int32) (ys : Nat → Int32) (hs : Nat → Int32) (pk : Nat → Int32) (vis : Nat → Int32) (vN : Nat → Int32) (qN : Nat → Nat) (bs : Nat → Int32) (zs : Nat → Int32) (vM : Nat → Int32) (qM : Nat → Nat) (rw : Nat → Int32) (ow : Nat → Int32) (be : Nat → Nat → Nat) (nb : Nat → Nat) (n : Nat) (nn : Nat) (sl : Nat) (hn1 : vL 3 = nI n) (hn : n ≤ 10) (hsl : vL 7 = nI sl) (hsl3 : sl ≤ 3) (hn3 : vN 2 = nI nn) (hnn : nn ≤ 8) (hN : ∀ k, k < nn → bs k = nI (nb k) ∧ nb k < 64) (hB : ∀ pt, pt < 64 → pk pt = 0 → ∀ p, p < n → gbear (gx xs pt p) (gy ys pt p) = nI (be pt p) ∧ be pt p < 64) (hkn : vV 4 = 0 ∨ (vV 4 = 1 ∧ KVs (sV vis pk xs ys hs zs be nb sl n nn (1 <<< (nI n &&& 31) - 1)) nn 4096 vV sco)) : Ci l G yX7_wholes wsX7_wholes rX7_wholes [.ref h] [oB h 7 (oF7 v q), oB (q 5) 6 (oF6 vV (qVw (q 1) (q 3) mA sA kA lA)), aI G sA 4096 sco, aJ G kA 80 lk, oB (q 1) 1 (oF1 vL qL), aI G (qL 0) 10 xs, aI G (qL 1) 10 ys, aI G (qL 2) 10 hs, aZ G (qL 8) 64 pk, aI G (qL 9) 64 vis, oB (q 3) 3 (oF3 vN qN), aI G (qN 0) 8 bs, aI G (qN 1) 8 zs, oB mA 2 (oF2 vM qM), aI G (qM 0) 8 rw, aI G (qM 1) 10 ow] (fun r (u : (Nat → Int32) × (Nat → Int32) × (Nat → Int64) × (Nat → Int32) × (Nat → Int32) × (Nat → Int32)) => r = nI (fb_ct (fun w => decide (sV vis pk xs ys hs zs be nb sl n nn (1 <<< (nI n &&& 31) - 1) w = nn)) 4096) ∧ (u.1 4 = 0 ∨ (u.1 4 = 1 ∧ KVs (sV vis pk xs ys hs zs be nb sl n nn (1 <<< (nI n &&& 31) - 1)) nn 4096 u.1 u.2.1))) (fun u => [oB h 7 (oF7 v q), oB (q 5) 6 (oF6 u.1 (qVw (q 1) (q 3) mA sA kA lA)), aI G sA 4096 u.2.1, aJ G kA 80 u.2.2.1, oB (q 1) 1 (oF1 vL qL), aI G (qL 0) 10 xs, aI G (qL 1) 10 ys, aI G (qL 2) 10 hs, aZ G (qL 8) 64 pk, aI G (qL 9) 64 vis, oB (q 3) 3 (oF3 vN qN), aI G (qN 0) 8 bs, aI G (qN 1) 8 zs, oB mA 2 (oF2 u.2.2.2.1 qM), aI G (qM 0) 8 u.2.2.2.2.1, aI G (qM 1) 10 u.2.2.2.2.2]) := by
  refine Ci.of (cc := cX7_wholes) (maxL := 1) (by decide) rfl (Nat.le_of_ble_eq_true rfl) ?_
  intro pM eM sM mM bM tM cM Q A hx hb hts hown hml hA hK hP hD hS hret ls hl
  have hown : sM.vm.findClass RX7 = some mM.cls := hown
  have hl : lv_has ls 1 [(0, .ref h)] := hl
  have hin6 : ∀ w ∈ u_ws RX6 TX6 10, w ∈ wsX7_wholes := by decide +kernel
  have hin7 : ∀ w ∈ u_ws RX7 TX7 9, w ∈ wsX7_wholes := by decide +kernel
  have f45 := hts (.fieldLink RX7 45 "HorizonPeaks" "views" "LHorizonPeaks$Views;") (by decide +kernel)
  have f190 := hts (.fieldLink RX7 190 "HorizonPeaks$Views" "wholeViews" "I") (by decide +kernel)
  refine lv_aload_n hx hb dX7_wholes_0 rfl (lv_at hl 0 rfl) ?_
  refine va_get (D := G.1) (ci := 7) (v := .ref (q 5)) (C := RX7) (T := TX7) (N := 9) hx hb hts hin7 hown hK.1 hP 0 rfl rfl 5 (by decide) f45 (fun _ h9 => h9) rfl dX7_wholes_1 ?_
  refine ca_v (wr := [oB h 7 (oF7 v q)]) (va_runV (As := []) (rest := []) ⟨hx, hb, hml, hown, hts⟩ ((c_X6_know l G (q 5) vV (qVw (q 1) (q 3) mA sA kA lA) sco lk vL qL xs ys hs pk vis vN qN bs zs vM qM rw ow be nb n nn sl (hn1) (hn) (hsl) (hsl3) (hn3) (hnn) (hN) (hB) (hkn)) _) (cwV 0 hts gX7_wholes_X6_know rfl rfl rfl (by decide +kernel) ⟨Nat.le_of_ble_eq_true rfl, Nat.le_of_ble_eq_true rfl⟩) (cPre_V hK hP hD [1, 2, 3, 4, 5, 6, 7, 8, 9, 10, 11, 12, 13, 14, 15] (by decide) rfl 0 6 rfl rfl) rfl rfl hl.1 rfl (lv_room (Nat.le_of_ble_eq_true rfl)) dX7_wholes_4 ⟨Nat.zero_le _, Nat.zero_le _⟩) hP hD hS hA [1, 2, 3, 4, 5, 6, 7, 8, 9, 10, 11, 12, 13, 14, 15] [0] rfl rfl (by decide) (by decide) [0, 1, 2, 3, 4, 5, 6, 7, 8, 9, 10, 11, 12, 13, 14, 15] (fun u_4 => [oB h 7 (oF7 v q), oB (q 5) 6 (oF6 u_4.1 (qVw (q 1) (q 3) mA sA kA lA)), aI G sA 4096 u_4.2.1, aJ G kA 80 u_4.2.2.1, oB (q 1) 1 (oF1 vL qL), aI G (qL 0) 10 xs, aI G (qL 1) 10 ys, aI G (qL 2) 10 hs, aZ G (qL 8) 64 pk, aI G (qL 9) 64 vis, oB (q 3) 3 (oF3 vN qN), aI G (qN 0) 8 bs, aI G (qN 1) 8 zs, oB mA 2 (oF2 u_4.2.2.2.1 qM), aI G (qM 0) 8 u_4.2.2.2.2.1, aI G (qM 1) 10 u_4.2.2.2.2.2]) (by decide) (fun _ => rfl) (fun u_4 H locs q_4 hP hD hS => ?_)
  have q_4 : u_4.1 4 = 1 ∧ KVs (sV vis pk xs ys hs zs be nb sl n nn (1 <<< (nI n &&& 31) - 1)) nn 4096 u_4.1 u_4.2.1 := q_4
  have hP : va_P G.1 vwCl [oB h 7 (oF7 v q), oB (q 5) 6 (oF6 u_4.1 (qVw (q 1) (q 3) mA sA kA lA)), aI G sA 4096 u_4.2.1, aJ G kA 80 u_4.2.2.1, oB (q 1) 1 (oF1 vL qL), aI G (qL 0) 10 xs, aI G (qL 1) 10 ys, aI G (qL 2) 10 hs, aZ G (qL 8) 64 pk, aI G (qL 9) 64 vis, oB (q 3) 3 (oF3 vN qN), aI G (qN 0) 8 bs, aI G (qN 1) 8 zs, oB mA 2 (oF2 u_4.2.2.2.1 qM), aI G (qM 0) 8 u_4.2.2.2.2.1, aI G (qM 1) 10 u_4.2.2.2.2.2] H := hP
  have hD : va_D A [oB h 7 (oF7 v q), oB (q 5) 6 (oF6 u_4.1 (qVw (q 1) (q 3) mA sA kA lA)), aI G sA 4096 u_4.2.1, aJ G kA 80 u_4.2.2.1, oB (q 1) 1 (oF1 vL qL), aI G (qL 0) 10 xs, aI G (qL 1) 10 ys, aI G (qL 2) 10 hs, aZ G (qL 8) 64 pk, aI G (qL 9) 64 vis, oB (q 3) 3 (oF3 vN qN), aI G (qN 0) 8 bs, aI G (qN 1) 8 zs, oB mA 2 (oF2 u_4.2.2.2.1 qM), aI G (qM 0) 8 u_4.2.2.2.2.1, aI G (qM 1) 10 u_4.2.2.2.2.2] := hD
  refine lv_aload_n hx hb dX7_wholes_7 rfl (lv_at hl 0 rfl) ?_
  refine va_get (D := G.1) (ci := 7) (v := .ref (q 5)) (C := RX7) (T := TX7) (N := 9) hx hb hts hin7 hown hK.1 hP 0 rfl rfl 5 (by decide) f45 (fun _ h9 => h9) rfl dX7_wholes_8 ?_
  refine va_get (D := G.1) (ci := 6) (v := .int (u_4.1 5)) (C := RX6) (T := TX6) (N := 10) hx hb hts hin6 hown hK.1 hP 1 rfl rfl 5 (by decide) f190 (fun _ h9 => h9) rfl dX7_wholes_11 ?_
  refine top_i (y := nI (fb_ct (fun w => decide (sV vis pk xs ys hs zs be nb sl n nn (1 <<< (nI n &&& 31) - 1) w = nn)) 4096)) (q_4.2.2.1) ?_
  have hpost : (nI (fb_ct (fun w => decide (sV vis pk xs ys hs zs be nb sl n nn (1 <<< (nI n &&& 31) - 1) w = nn)) 4096) : Int32) = nI (fb_ct (fun w => decide (sV vis pk xs ys hs zs be nb sl n nn (1 <<< (nI n &&& 31) - 1) w = nn)) 4096) ∧ ((u_4.1, u_4.2.1, u_4.2.2.1, u_4.2.2.2.1, u_4.2.2.2.2.1, u_4.2.2.2.2.2).1 4 = 0 ∨ ((u_4.1, u_4.2.1, u_4.2.2.1, u_4.2.2.2.1, u_4.2.2.2.2.1, u_4.2.2.2.2.2).1 4 = 1 ∧ KVs (sV vis pk xs ys hs zs be nb sl n nn (1 <<< (nI n &&& 31) - 1)) nn 4096 (u_4.1, u_4.2.1, u_4.2.2.1, u_4.2.2.2.1, u_4.2.2.2.2.1, u_4.2.2.2.2.2).1 (u_4.1, u_4.2.1, u_4.2.2.1, u_4.2.2.2.1, u_4.2.2.2.2.1, u_4.2.2.2.2.2).2.1)) := by
    exact ⟨rfl, Or.inr q_4⟩
  exact hret _ (u_4.1, u_4.2.1, u_4.2.2.1, u_4.2.2.2.1, u_4.2.2.2.2.1, u_4.2.2.2.2.2) _ _ _ _ (hpost) (rfl) hP hD hS dX7_wholes_14

abbrev rX7_whole : Room := { frames := 16, cells := 0, slots := 0, locals := 382 }
set_option maxHeartbeats 4000000 in
set_option maxRecDepth 100000 in
theorem c_X7_whole (l : Launch) (G : kG) (h : Nat) (v : Nat → Int32) (q : Nat → Nat) (vV : Nat → Int32) (mA : Nat) (sA : Nat) (kA : Nat) (lA : Nat) (sco : Nat → Int32) (lk : Nat → Int64) (vL : Nat → Int32) (qL : Nat → Nat) (xs : Nat → Int32) (ys : Nat → Int32) (hs : Nat → Int32) (pk : Nat → Int32) (vis : Nat → Int32) (vN : Nat → Int32) (qN : Nat → Nat) (bs : Nat → Int32) (zs : Nat → Int32) (vM : Nat → Int32) (qM : Nat → Nat) (rw : Nat → Int32) (ow : Nat → Int32) (x : Int32) (y : Int32) (be : Nat → Nat → Nat) (nb : Nat → Nat) (n : Nat) (nn : Nat) (sl : Nat) (hn1 : vL 3 = nI n) (hn : n ≤ 10) (hsl : vL 7 = nI sl) (hsl3 : sl ≤ 3) (hn3 : vN 2 = nI nn) (hnn : nn ≤ 8) (hN : ∀ k, k < nn → bs k = nI (nb k) ∧ nb k < 64) (hB : ∀ pt, pt < 64 → pk pt = 0 → ∀ p, p < n → gbear (gx xs pt p) (gy ys pt p) = nI (be pt p) ∧ be pt p < 64) (hkn : vV 4 = 0 ∨ (vV 4 = 1 ∧ KVs (sV vis pk xs ys hs zs be nb sl n nn (1 <<< (nI n &&& 31) - 1)) nn 4096 vV sco)) : Ci l G yX7_whole wsX7_whole rX7_whole [.ref h, .int x, .int y] [oB h 7 (oF7 v q), oB (q 5) 6 (oF6 vV (qVw (q 1) (q 3) mA sA kA lA)), aI G sA 4096 sco, aJ G kA 80 lk, oB (q 1) 1 (oF1 vL qL), aI G (qL 0) 10 xs, aI G (qL 1) 10 ys, aI G (qL 2) 10 hs, aZ G (qL 8) 64 pk, aI G (qL 9) 64 vis, oB (q 3) 3 (oF3 vN qN), aI G (qN 0) 8 bs, aI G (qN 1) 8 zs, oB mA 2 (oF2 vM qM), aI G (qM 0) 8 rw, aI G (qM 1) 10 ow] (fun r (u : (Nat → Int32) × (Nat → Int32) × (Nat → Int64) × (Nat → Int32) × (Nat → Int32) × (Nat → Int32)) => (whOk x y = true → ∃ w0, RK (fun w => decide (sV vis pk xs ys hs zs be nb sl n nn (1 <<< (nI n &&& 31) - 1) w = nn)) 4096 x.toNatClampNeg w0 ∧ r = (if w0 = -9 then -9 else pPart w0 y)) ∧ (whOk x y = false → r = -1) ∧ (u.1 4 = 0 ∨ (u.1 4 = 1 ∧ KVs (sV vis pk xs ys hs zs be nb sl n nn (1 <<< (nI n &&& 31) - 1)) nn 4096 u.1 u.2.1))) (fun u => [oB h 7 (oF7 v q), oB (q 5) 6 (oF6 u.1 (qVw (q 1) (q 3) mA sA kA lA)), aI G sA 4096 u.2.1, aJ G kA 80 u.2.2.1, oB (q 1) 1 (oF1 vL qL), aI G (qL 0) 10 xs, aI G (qL 1) 10 ys, aI G (qL 2) 10 hs, aZ G (qL 8) 64 pk, aI G (qL 9) 64 vis, oB (q 3) 3 (oF3 vN qN), aI G (qN 0) 8 bs, aI G (qN 1) 8 zs, oB mA 2 (oF2 u.2.2.2.1 qM), aI G (qM 0) 8 u.2.2.2.2.1, aI G (qM 1) 10 u.2.2.2.2.2]) := by
  refine Ci.of (cc := cX7_whole) (maxL := 4) (by decide) rfl (Nat.le_of_ble_eq_true rfl) ?_
  intro pM eM sM mM bM tM cM Q A hx hb hts hown hml hA hK hP hD hS hret ls hl
  have hown : sM.vm.findClass RX7 = some mM.cls := hown
  have hl : lv_has ls 4 [(0, .ref h), (1, .int x), (2, .int y)] := hl
  have hin7 : ∀ w ∈ u_ws RX7 TX7 9, w ∈ wsX7_whole := by decide +kernel
  have f45 := hts (.fieldLink RX7 45 "HorizonPeaks" "views" "LHorizonPeaks$Views;") (by decide +kernel)
  refine lv_iload_n hx hb dX7_whole_0 rfl (lv_at hl 1 rfl) ?_
  refine lv_if_lt (tgt := 13) hx hb dX7_whole_1 (by decide) (fun c_1 => ?_) (fun c_1 => ?_)
  · refine lv_iconst (v := -1) hx hb dX7_whole_13 (by decide) ?_
    have hpost : (whOk x y = true → ∃ w0, RK (fun w => decide (sV vis pk xs ys hs zs be nb sl n nn (1 <<< (nI n &&& 31) - 1) w = nn)) 4096 x.toNatClampNeg w0 ∧ (-1 : Int32) = (if w0 = -9 then -9 else pPart w0 y)) ∧ (whOk x y = false → (-1 : Int32) = -1) ∧ ((vV, sco, lk, vM, rw, ow).1 4 = 0 ∨ ((vV, sco, lk, vM, rw, ow).1 4 = 1 ∧ KVs (sV vis pk xs ys hs zs be nb sl n nn (1 <<< (nI n &&& 31) - 1)) nn 4096 (vV, sco, lk, vM, rw, ow).1 (vV, sco, lk, vM, rw, ow).2.1)) := by
      have e : whOk x y = false := by simp [whOk, c_1]
      exact ⟨fun h => absurd h (ne_t e), fun _ => rfl, hkn⟩
    exact hret _ (vV, sco, lk, vM, rw, ow) _ _ _ _ (hpost) (rfl) hP hD hS dX7_whole_14
  · refine lv_iload_n hx hb dX7_whole_4 rfl (lv_at hl 2 rfl) ?_
    refine lv_if_lt (tgt := 13) hx hb dX7_whole_5 (by decide) (fun c_5 => ?_) (fun c_5 => ?_)
    · refine lv_iconst (v := -1) hx hb dX7_whole_13 (by decide) ?_
      have hpost : (whOk x y = true → ∃ w0, RK (fun w => decide (sV vis pk xs ys hs zs be nb sl n nn (1 <<< (nI n &&& 31) - 1) w = nn)) 4096 x.toNatClampNeg w0 ∧ (-1 : Int32) = (if w0 = -9 then -9 else pPart w0 y)) ∧ (whOk x y = false → (-1 : Int32) = -1) ∧ ((vV, sco, lk, vM, rw, ow).1 4 = 0 ∨ ((vV, sco, lk, vM, rw, ow).1 4 = 1 ∧ KVs (sV vis pk xs ys hs zs be nb sl n nn (1 <<< (nI n &&& 31) - 1)) nn 4096 (vV, sco, lk, vM, rw, ow).1 (vV, sco, lk, vM, rw, ow).2.1)) := by
        have e : whOk x y = false := by simp [whOk, c_1, c_5]
        exact ⟨fun h => absurd h (ne_t e), fun _ => rfl, hkn⟩
      exact hret _ (vV, sco, lk, vM, rw, ow) _ _ _ _ (hpost) (rfl) hP hD hS dX7_whole_14
    · refine lv_iload_n hx hb dX7_whole_8 rfl (lv_at hl 2 rfl) ?_
      refine lv_iconst (v := 2) hx hb dX7_whole_9 (by decide) ?_
      refine lv_icmp_le (tgt := 15) hx hb dX7_whole_10 (by decide) (fun c_10 => ?_) (fun c_10 => ?_)
      · obtain ⟨kk, hkk, rfl⟩ := nI_of c_1
        refine lv_aload_n hx hb dX7_whole_15 rfl (lv_at hl 0 rfl) ?_
        refine va_get (D := G.1) (ci := 7) (v := .ref (q 5)) (C := RX7) (T := TX7) (N := 9) hx hb hts hin7 hown hK.1 hP 0 rfl rfl 5 (by decide) f45 (fun _ h9 => h9) rfl dX7_whole_16 ?_
        refine lv_iload_n hx hb dX7_whole_19 rfl (lv_at hl 1 rfl) ?_
        refine ca_i (wr := [oB h 7 (oF7 v q)]) (va_runV (As := [.int (nI kk)]) (rest := []) ⟨hx, hb, hml, hown, hts⟩ ((c_X6_wholeView l G (q 5) vV (qVw (q 1) (q 3) mA sA kA lA) sco lk vL qL xs ys hs pk vis vN qN bs zs vM qM rw ow be nb n nn sl kk (hn1) (hn) (hsl) (hsl3) (hn3) (hnn) (hN) (hB) (hkn) (hkk)) _) (cwV 1 hts gX7_whole_X6_wholeView rfl rfl rfl (by decide +kernel) ⟨Nat.le_of_ble_eq_true rfl, Nat.le_of_ble_eq_true rfl⟩) (cPre_V hK hP hD [1, 2, 3, 4, 5, 6, 7, 8, 9, 10, 11, 12, 13, 14, 15] (by decide) rfl 0 6 rfl rfl) rfl rfl hl.1 rfl (lv_room (Nat.le_of_ble_eq_true rfl)) dX7_whole_20 ⟨Nat.zero_le _, Nat.zero_le _⟩) hP hD hS hA [1, 2, 3, 4, 5, 6, 7, 8, 9, 10, 11, 12, 13, 14, 15] [0] rfl rfl (by decide) (by decide) [0, 1, 2, 3, 4, 5, 6, 7, 8, 9, 10, 11, 12, 13, 14, 15] (fun u_20 => [oB h 7 (oF7 v q), oB (q 5) 6 (oF6 u_20.1 (qVw (q 1) (q 3) mA sA kA lA)), aI G sA 4096 u_20.2.1, aJ G kA 80 u_20.2.2.1, oB (q 1) 1 (oF1 vL qL), aI G (qL 0) 10 xs, aI G (qL 1) 10 ys, aI G (qL 2) 10 hs, aZ G (qL 8) 64 pk, aI G (qL 9) 64 vis, oB (q 3) 3 (oF3 vN qN), aI G (qN 0) 8 bs, aI G (qN 1) 8 zs, oB mA 2 (oF2 u_20.2.2.2.1 qM), aI G (qM 0) 8 u_20.2.2.2.2.1, aI G (qM 1) 10 u_20.2.2.2.2.2]) (by decide) (fun _ => rfl) (fun r_20 u_20 H locs q_20 hP hD hS => ?_)
        have q_20 : RK (fun w => decide (sV vis pk xs ys hs zs be nb sl n nn (1 <<< (nI n &&& 31) - 1) w = nn)) 4096 kk r_20 ∧ u_20.1 4 = 1 ∧ KVs (sV vis pk xs ys hs zs be nb sl n nn (1 <<< (nI n &&& 31) - 1)) nn 4096 u_20.1 u_20.2.1 := q_20
        have hP : va_P G.1 vwCl [oB h 7 (oF7 v q), oB (q 5) 6 (oF6 u_20.1 (qVw (q 1) (q 3) mA sA kA lA)), aI G sA 4096 u_20.2.1, aJ G kA 80 u_20.2.2.1, oB (q 1) 1 (oF1 vL qL), aI G (qL 0) 10 xs, aI G (qL 1) 10 ys, aI G (qL 2) 10 hs, aZ G (qL 8) 64 pk, aI G (qL 9) 64 vis, oB (q 3) 3 (oF3 vN qN), aI G (qN 0) 8 bs, aI G (qN 1) 8 zs, oB mA 2 (oF2 u_20.2.2.2.1 qM), aI G (qM 0) 8 u_20.2.2.2.2.1, aI G (qM 1) 10 u_20.2.2.2.2.2] H := hP
        have hD : va_D A [oB h 7 (oF7 v q), oB (q 5) 6 (oF6 u_20.1 (qVw (q 1) (q 3) mA sA kA lA)), aI G sA 4096 u_20.2.1, aJ G kA 80 u_20.2.2.1, oB (q 1) 1 (oF1 vL qL), aI G (qL 0) 10 xs, aI G (qL 1) 10 ys, aI G (qL 2) 10 hs, aZ G (qL 8) 64 pk, aI G (qL 9) 64 vis, oB (q 3) 3 (oF3 vN qN), aI G (qN 0) 8 bs, aI G (qN 1) 8 zs, oB mA 2 (oF2 u_20.2.2.2.1 qM), aI G (qM 0) 8 u_20.2.2.2.2.1, aI G (qM 1) 10 u_20.2.2.2.2.2] := hD
        refine lv_istore_n (lv' := [(3, .int r_20), (0, .ref h), (1, .int (nI kk)), (2, .int y)]) hx hb dX7_whole_23 rfl hl (by decide) rfl (fun ls hl => ?_)
        refine lv_iload_n hx hb dX7_whole_24 rfl (lv_at hl 0 rfl) ?_
        refine lv_bipush (v := -9) hx hb dX7_whole_25 (by decide) ?_
        refine lv_icmp_ne (tgt := 35) hx hb dX7_whole_27 (by decide) (fun c_27 => ?_) (fun c_27 => ?_)
        · refine lv_iload_n hx hb dX7_whole_35 rfl (lv_at hl 0 rfl) ?_
          refine lv_iload_n hx hb dX7_whole_36 rfl (lv_at hl 3 rfl) ?_
          refine rd_i (va_runS (As := [.int r_20, .int y]) (rest := []) ⟨hx, hb, hml, hown, hts⟩ (c_X7_partOf l G r_20 y) (va_cwS 2 hts gX7_whole_X7_partOf rfl rfl rfl (by decide +kernel) ⟨Nat.le_of_ble_eq_true rfl, Nat.le_of_ble_eq_true rfl⟩) (rPre_S hK hP [] rfl) rfl rfl hl.1 rfl (lv_room (Nat.le_of_ble_eq_true rfl)) dX7_whole_37 ⟨Nat.zero_le _, Nat.zero_le _⟩) (fun r_37 q_37 => ?_)
          obtain rfl : r_37 = pPart r_20 y := q_37
          have hpost : (whOk (nI kk) y = true → ∃ w0, RK (fun w => decide (sV vis pk xs ys hs zs be nb sl n nn (1 <<< (nI n &&& 31) - 1) w = nn)) 4096 (nI kk).toNatClampNeg w0 ∧ (pPart r_20 y : Int32) = (if w0 = -9 then -9 else pPart w0 y)) ∧ (whOk (nI kk) y = false → (pPart r_20 y : Int32) = -1) ∧ ((u_20.1, u_20.2.1, u_20.2.2.1, u_20.2.2.2.1, u_20.2.2.2.2.1, u_20.2.2.2.2.2).1 4 = 0 ∨ ((u_20.1, u_20.2.1, u_20.2.2.1, u_20.2.2.2.1, u_20.2.2.2.2.1, u_20.2.2.2.2.2).1 4 = 1 ∧ KVs (sV vis pk xs ys hs zs be nb sl n nn (1 <<< (nI n &&& 31) - 1)) nn 4096 (u_20.1, u_20.2.1, u_20.2.2.1, u_20.2.2.2.1, u_20.2.2.2.2.1, u_20.2.2.2.2.2).1 (u_20.1, u_20.2.1, u_20.2.2.1, u_20.2.2.2.1, u_20.2.2.2.2.1, u_20.2.2.2.2.2).2.1)) := by
            have e : whOk (nI kk) y = true := by simp [whOk, c_1, c_5, c_10]
            refine ⟨fun _ => ?_, fun h => absurd h (ne_f e), Or.inr q_20.2⟩
            rw [nI_clamp hkk]
            exact ⟨r_20, q_20.1, by rw [if_neg c_27]⟩
          exact hret _ (u_20.1, u_20.2.1, u_20.2.2.1, u_20.2.2.2.1, u_20.2.2.2.2.1, u_20.2.2.2.2.2) _ _ _ _ (hpost) (rfl) hP hD hS dX7_whole_40
        · refine lv_bipush (v := -9) hx hb dX7_whole_30 (by decide) ?_
          refine lv_goto (tgt := 40) hx hb dX7_whole_32 (by decide) ?_
          have hpost : (whOk (nI kk) y = true → ∃ w0, RK (fun w => decide (sV vis pk xs ys hs zs be nb sl n nn (1 <<< (nI n &&& 31) - 1) w = nn)) 4096 (nI kk).toNatClampNeg w0 ∧ (-9 : Int32) = (if w0 = -9 then -9 else pPart w0 y)) ∧ (whOk (nI kk) y = false → (-9 : Int32) = -1) ∧ ((u_20.1, u_20.2.1, u_20.2.2.1, u_20.2.2.2.1, u_20.2.2.2.2.1, u_20.2.2.2.2.2).1 4 = 0 ∨ ((u_20.1, u_20.2.1, u_20.2.2.1, u_20.2.2.2.1, u_20.2.2.2.2.1, u_20.2.2.2.2.2).1 4 = 1 ∧ KVs (sV vis pk xs ys hs zs be nb sl n nn (1 <<< (nI n &&& 31) - 1)) nn 4096 (u_20.1, u_20.2.1, u_20.2.2.1, u_20.2.2.2.1, u_20.2.2.2.2.1, u_20.2.2.2.2.2).1 (u_20.1, u_20.2.1, u_20.2.2.1, u_20.2.2.2.1, u_20.2.2.2.2.1, u_20.2.2.2.2.2).2.1)) := by
            have e : whOk (nI kk) y = true := by simp [whOk, c_1, c_5, c_10]
            refine ⟨fun _ => ?_, fun h => absurd h (ne_f e), Or.inr q_20.2⟩
            rw [nI_clamp hkk]
            exact ⟨r_20, q_20.1, by rw [if_pos c_27]⟩
          exact hret _ (u_20.1, u_20.2.1, u_20.2.2.1, u_20.2.2.2.1, u_20.2.2.2.2.1, u_20.2.2.2.2.2) _ _ _ _ (hpost) (rfl) hP hD hS dX7_whole_40
      · refine lv_iconst (v := -1) hx hb dX7_whole_13 (by decide) ?_
        have hpost : (whOk x y = true → ∃ w0, RK (fun w => decide (sV vis pk xs ys hs zs be nb sl n nn (1 <<< (nI n &&& 31) - 1) w = nn)) 4096 x.toNatClampNeg w0 ∧ (-1 : Int32) = (if w0 = -9 then -9 else pPart w0 y)) ∧ (whOk x y = false → (-1 : Int32) = -1) ∧ ((vV, sco, lk, vM, rw, ow).1 4 = 0 ∨ ((vV, sco, lk, vM, rw, ow).1 4 = 1 ∧ KVs (sV vis pk xs ys hs zs be nb sl n nn (1 <<< (nI n &&& 31) - 1)) nn 4096 (vV, sco, lk, vM, rw, ow).1 (vV, sco, lk, vM, rw, ow).2.1)) := by
          have e : whOk x y = false := by simp [whOk, c_1, c_5, c_10]
          exact ⟨fun h => absurd h (ne_t e), fun _ => rfl, hkn⟩
        exact hret _ (vV, sco, lk, vM, rw, ow) _ _ _ _ (hpost) (rfl) hP hD hS dX7_whole_14

abbrev rX7_best : Room := { frames := 15, cells := 0, slots := 0, locals := 359 }
set_option maxHeartbeats 4000000 in
set_option maxRecDepth 100000 in
theorem c_X7_best (l : Launch) (G : kG) (h : Nat) (v : Nat → Int32) (q : Nat → Nat) (vV : Nat → Int32) (mA : Nat) (sA : Nat) (kA : Nat) (lA : Nat) (sco : Nat → Int32) (lk : Nat → Int64) (vL : Nat → Int32) (qL : Nat → Nat) (xs : Nat → Int32) (ys : Nat → Int32) (hs : Nat → Int32) (pk : Nat → Int32) (vis : Nat → Int32) (vN : Nat → Int32) (qN : Nat → Nat) (bs : Nat → Int32) (zs : Nat → Int32) (vM : Nat → Int32) (qM : Nat → Nat) (rw : Nat → Int32) (ow : Nat → Int32) (x : Int32) (be : Nat → Nat → Nat) (nb : Nat → Nat) (n : Nat) (nn : Nat) (sl : Nat) (hn1 : vL 3 = nI n) (hn : n ≤ 10) (hsl : vL 7 = nI sl) (hsl3 : sl ≤ 3) (hn3 : vN 2 = nI nn) (hnn : nn ≤ 8) (hN : ∀ k, k < nn → bs k = nI (nb k) ∧ nb k < 64) (hB : ∀ pt, pt < 64 → pk pt = 0 → ∀ p, p < n → gbear (gx xs pt p) (gy ys pt p) = nI (be pt p) ∧ be pt p < 64) (hkn : vV 4 = 0 ∨ (vV 4 = 1 ∧ KVs (sV vis pk xs ys hs zs be nb sl n nn (1 <<< (nI n &&& 31) - 1)) nn 4096 vV sco)) : Ci l G yX7_best wsX7_best rX7_best [.ref h, .int x] [oB h 7 (oF7 v q), oB (q 5) 6 (oF6 vV (qVw (q 1) (q 3) mA sA kA lA)), aI G sA 4096 sco, aJ G kA 80 lk, oB (q 1) 1 (oF1 vL qL), aI G (qL 0) 10 xs, aI G (qL 1) 10 ys, aI G (qL 2) 10 hs, aZ G (qL 8) 64 pk, aI G (qL 9) 64 vis, oB (q 3) 3 (oF3 vN qN), aI G (qN 0) 8 bs, aI G (qN 1) 8 zs, oB mA 2 (oF2 vM qM), aI G (qM 0) 8 rw, aI G (qM 1) 10 ow] (fun r (u : (Nat → Int32) × (Nat → Int32) × (Nat → Int64) × (Nat → Int32) × (Nat → Int32) × (Nat → Int32)) => (bsOk x = true → bsQ (sV vis pk xs ys hs zs be nb sl n nn (1 <<< (nI n &&& 31) - 1)) 4096 x r) ∧ (bsOk x = false → r = -1) ∧ (u.1 4 = 0 ∨ (u.1 4 = 1 ∧ KVs (sV vis pk xs ys hs zs be nb sl n nn (1 <<< (nI n &&& 31) - 1)) nn 4096 u.1 u.2.1))) (fun u => [oB h 7 (oF7 v q), oB (q 5) 6 (oF6 u.1 (qVw (q 1) (q 3) mA sA kA lA)), aI G sA 4096 u.2.1, aJ G kA 80 u.2.2.1, oB (q 1) 1 (oF1 vL qL), aI G (qL 0) 10 xs, aI G (qL 1) 10 ys, aI G (qL 2) 10 hs, aZ G (qL 8) 64 pk, aI G (qL 9) 64 vis, oB (q 3) 3 (oF3 vN qN), aI G (qN 0) 8 bs, aI G (qN 1) 8 zs, oB mA 2 (oF2 u.2.2.2.1 qM), aI G (qM 0) 8 u.2.2.2.2.1, aI G (qM 1) 10 u.2.2.2.2.2]) := by
  refine Ci.of (cc := cX7_best) (maxL := 2) (by decide) rfl (Nat.le_of_ble_eq_true rfl) ?_
  intro pM eM sM mM bM tM cM Q A hx hb hts hown hml hA hK hP hD hS hret ls hl
  have hown : sM.vm.findClass RX7 = some mM.cls := hown
  have hl : lv_has ls 2 [(0, .ref h), (1, .int x)] := hl
  have hin6 : ∀ w ∈ u_ws RX6 TX6 10, w ∈ wsX7_best := by decide +kernel
  have hin7 : ∀ w ∈ u_ws RX7 TX7 9, w ∈ wsX7_best := by decide +kernel
  have f45 := hts (.fieldLink RX7 45 "HorizonPeaks" "views" "LHorizonPeaks$Views;") (by decide +kernel)
  have f199 := hts (.fieldLink RX7 199 "HorizonPeaks$Views" "bestView" "I") (by decide +kernel)
  have f202 := hts (.fieldLink RX7 202 "HorizonPeaks$Views" "bestScore" "I") (by decide +kernel)
  refine lv_iload_n hx hb dX7_best_0 rfl (lv_at hl 1 rfl) ?_
  refine lv_if_lt (tgt := 9) hx hb dX7_best_1 (by decide) (fun c_1 => ?_) (fun c_1 => ?_)
  · refine lv_iconst (v := -1) hx hb dX7_best_9 (by decide) ?_
    have hpost : (bsOk x = true → bsQ (sV vis pk xs ys hs zs be nb sl n nn (1 <<< (nI n &&& 31) - 1)) 4096 x (-1 : Int32)) ∧ (bsOk x = false → (-1 : Int32) = -1) ∧ ((vV, sco, lk, vM, rw, ow).1 4 = 0 ∨ ((vV, sco, lk, vM, rw, ow).1 4 = 1 ∧ KVs (sV vis pk xs ys hs zs be nb sl n nn (1 <<< (nI n &&& 31) - 1)) nn 4096 (vV, sco, lk, vM, rw, ow).1 (vV, sco, lk, vM, rw, ow).2.1)) := by
      have e : bsOk x = false := by simp [bsOk, c_1]
      exact ⟨fun h => absurd h (ne_t e), fun _ => rfl, hkn⟩
    exact hret _ (vV, sco, lk, vM, rw, ow) _ _ _ _ (hpost) (rfl) hP hD hS dX7_best_10
  · refine lv_iload_n hx hb dX7_best_4 rfl (lv_at hl 1 rfl) ?_
    refine lv_iconst (v := 3) hx hb dX7_best_5 (by decide) ?_
    refine lv_icmp_le (tgt := 11) hx hb dX7_best_6 (by decide) (fun c_6 => ?_) (fun c_6 => ?_)
    · refine lv_aload_n hx hb dX7_best_11 rfl (lv_at hl 0 rfl) ?_
      refine va_get (D := G.1) (ci := 7) (v := .ref (q 5)) (C := RX7) (T := TX7) (N := 9) hx hb hts hin7 hown hK.1 hP 0 rfl rfl 5 (by decide) f45 (fun _ h9 => h9) rfl dX7_best_12 ?_
      refine ca_v (wr := [oB h 7 (oF7 v q)]) (va_runV (As := []) (rest := []) ⟨hx, hb, hml, hown, hts⟩ ((c_X6_know l G (q 5) vV (qVw (q 1) (q 3) mA sA kA lA) sco lk vL qL xs ys hs pk vis vN qN bs zs vM qM rw ow be nb n nn sl (hn1) (hn) (hsl) (hsl3) (hn3) (hnn) (hN) (hB) (hkn)) _) (cwV 0 hts gX7_best_X6_know rfl rfl rfl (by decide +kernel) ⟨Nat.le_of_ble_eq_true rfl, Nat.le_of_ble_eq_true rfl⟩) (cPre_V hK hP hD [1, 2, 3, 4, 5, 6, 7, 8, 9, 10, 11, 12, 13, 14, 15] (by decide) rfl 0 6 rfl rfl) rfl rfl hl.1 rfl (lv_room (Nat.le_of_ble_eq_true rfl)) dX7_best_15 ⟨Nat.zero_le _, Nat.zero_le _⟩) hP hD hS hA [1, 2, 3, 4, 5, 6, 7, 8, 9, 10, 11, 12, 13, 14, 15] [0] rfl rfl (by decide) (by decide) [0, 1, 2, 3, 4, 5, 6, 7, 8, 9, 10, 11, 12, 13, 14, 15] (fun u_15 => [oB h 7 (oF7 v q), oB (q 5) 6 (oF6 u_15.1 (qVw (q 1) (q 3) mA sA kA lA)), aI G sA 4096 u_15.2.1, aJ G kA 80 u_15.2.2.1, oB (q 1) 1 (oF1 vL qL), aI G (qL 0) 10 xs, aI G (qL 1) 10 ys, aI G (qL 2) 10 hs, aZ G (qL 8) 64 pk, aI G (qL 9) 64 vis, oB (q 3) 3 (oF3 vN qN), aI G (qN 0) 8 bs, aI G (qN 1) 8 zs, oB mA 2 (oF2 u_15.2.2.2.1 qM), aI G (qM 0) 8 u_15.2.2.2.2.1, aI G (qM 1) 10 u_15.2.2.2.2.2]) (by decide) (fun _ => rfl) (fun u_15 H locs q_15 hP hD hS => ?_)
      have q_15 : u_15.1 4 = 1 ∧ KVs (sV vis pk xs ys hs zs be nb sl n nn (1 <<< (nI n &&& 31) - 1)) nn 4096 u_15.1 u_15.2.1 := q_15
      have hP : va_P G.1 vwCl [oB h 7 (oF7 v q), oB (q 5) 6 (oF6 u_15.1 (qVw (q 1) (q 3) mA sA kA lA)), aI G sA 4096 u_15.2.1, aJ G kA 80 u_15.2.2.1, oB (q 1) 1 (oF1 vL qL), aI G (qL 0) 10 xs, aI G (qL 1) 10 ys, aI G (qL 2) 10 hs, aZ G (qL 8) 64 pk, aI G (qL 9) 64 vis, oB (q 3) 3 (oF3 vN qN), aI G (qN 0) 8 bs, aI G (qN 1) 8 zs, oB mA 2 (oF2 u_15.2.2.2.1 qM), aI G (qM 0) 8 u_15.2.2.2.2.1, aI G (qM 1) 10 u_15.2.2.2.2.2] H := hP
      have hD : va_D A [oB h 7 (oF7 v q), oB (q 5) 6 (oF6 u_15.1 (qVw (q 1) (q 3) mA sA kA lA)), aI G sA 4096 u_15.2.1, aJ G kA 80 u_15.2.2.1, oB (q 1) 1 (oF1 vL qL), aI G (qL 0) 10 xs, aI G (qL 1) 10 ys, aI G (qL 2) 10 hs, aZ G (qL 8) 64 pk, aI G (qL 9) 64 vis, oB (q 3) 3 (oF3 vN qN), aI G (qN 0) 8 bs, aI G (qN 1) 8 zs, oB mA 2 (oF2 u_15.2.2.2.1 qM), aI G (qM 0) 8 u_15.2.2.2.2.1, aI G (qM 1) 10 u_15.2.2.2.2.2] := hD
      refine lv_aload_n hx hb dX7_best_18 rfl (lv_at hl 0 rfl) ?_
      refine va_get (D := G.1) (ci := 7) (v := .ref (q 5)) (C := RX7) (T := TX7) (N := 9) hx hb hts hin7 hown hK.1 hP 0 rfl rfl 5 (by decide) f45 (fun _ h9 => h9) rfl dX7_best_19 ?_
      refine va_get (D := G.1) (ci := 6) (v := .int (u_15.1 6)) (C := RX6) (T := TX6) (N := 10) hx hb hts hin6 hown hK.1 hP 1 rfl rfl 6 (by decide) f199 (fun _ h9 => h9) rfl dX7_best_22 ?_
      refine lv_bipush (v := -9) hx hb dX7_best_25 (by decide) ?_
      refine lv_icmp_ne (tgt := 33) hx hb dX7_best_27 (by decide) (fun c_27 => ?_) (fun c_27 => ?_)
      · refine lv_iload_n hx hb dX7_best_33 rfl (lv_at hl 1 rfl) ?_
        refine lv_iconst (v := 3) hx hb dX7_best_34 (by decide) ?_
        refine lv_icmp_ne (tgt := 48) hx hb dX7_best_35 (by decide) (fun c_35 => ?_) (fun c_35 => ?_)
        · refine lv_aload_n hx hb dX7_best_48 rfl (lv_at hl 0 rfl) ?_
          refine va_get (D := G.1) (ci := 7) (v := .ref (q 5)) (C := RX7) (T := TX7) (N := 9) hx hb hts hin7 hown hK.1 hP 0 rfl rfl 5 (by decide) f45 (fun _ h9 => h9) rfl dX7_best_49 ?_
          refine va_get (D := G.1) (ci := 6) (v := .int (u_15.1 6)) (C := RX6) (T := TX6) (N := 10) hx hb hts hin6 hown hK.1 hP 1 rfl rfl 6 (by decide) f199 (fun _ h9 => h9) rfl dX7_best_52 ?_
          refine lv_iload_n hx hb dX7_best_55 rfl (lv_at hl 1 rfl) ?_
          refine rd_i (va_runS (As := [.int (u_15.1 6), .int x]) (rest := []) ⟨hx, hb, hml, hown, hts⟩ (c_X7_partOf l G (u_15.1 6) x) (va_cwS 2 hts gX7_best_X7_partOf rfl rfl rfl (by decide +kernel) ⟨Nat.le_of_ble_eq_true rfl, Nat.le_of_ble_eq_true rfl⟩) (rPre_S hK hP [] rfl) rfl rfl hl.1 rfl (lv_room (Nat.le_of_ble_eq_true rfl)) dX7_best_56 ⟨Nat.zero_le _, Nat.zero_le _⟩) (fun r_56 q_56 => ?_)
          obtain rfl : r_56 = pPart (u_15.1 6) x := q_56
          have hpost : (bsOk x = true → bsQ (sV vis pk xs ys hs zs be nb sl n nn (1 <<< (nI n &&& 31) - 1)) 4096 x (pPart (u_15.1 6) x : Int32)) ∧ (bsOk x = false → (pPart (u_15.1 6) x : Int32) = -1) ∧ ((u_15.1, u_15.2.1, u_15.2.2.1, u_15.2.2.2.1, u_15.2.2.2.2.1, u_15.2.2.2.2.2).1 4 = 0 ∨ ((u_15.1, u_15.2.1, u_15.2.2.1, u_15.2.2.2.1, u_15.2.2.2.2.1, u_15.2.2.2.2.2).1 4 = 1 ∧ KVs (sV vis pk xs ys hs zs be nb sl n nn (1 <<< (nI n &&& 31) - 1)) nn 4096 (u_15.1, u_15.2.1, u_15.2.2.1, u_15.2.2.2.1, u_15.2.2.2.2.1, u_15.2.2.2.2.2).1 (u_15.1, u_15.2.1, u_15.2.2.1, u_15.2.2.2.1, u_15.2.2.2.2.1, u_15.2.2.2.2.2).2.1)) := by
            have e : bsOk x = true := by simp [bsOk, c_1, c_6]
            refine ⟨fun _ => ?_, fun h => absurd h (ne_f e), Or.inr q_15⟩
            rcases q_15.2.2.2 with hz | ⟨b, b1, b2, b3, b4, b5⟩
            · exact absurd hz.2.1 c_27
            · exact Or.inr ⟨b, b1, b4, b5, by rw [if_neg c_35, b2]⟩
          exact hret _ (u_15.1, u_15.2.1, u_15.2.2.1, u_15.2.2.2.1, u_15.2.2.2.2.1, u_15.2.2.2.2.2) _ _ _ _ (hpost) (rfl) hP hD hS dX7_best_59
        · refine lv_aload_n hx hb dX7_best_38 rfl (lv_at hl 0 rfl) ?_
          refine va_get (D := G.1) (ci := 7) (v := .ref (q 5)) (C := RX7) (T := TX7) (N := 9) hx hb hts hin7 hown hK.1 hP 0 rfl rfl 5 (by decide) f45 (fun _ h9 => h9) rfl dX7_best_39 ?_
          refine va_get (D := G.1) (ci := 6) (v := .int (u_15.1 7)) (C := RX6) (T := TX6) (N := 10) hx hb hts hin6 hown hK.1 hP 1 rfl rfl 7 (by decide) f202 (fun _ h9 => h9) rfl dX7_best_42 ?_
          refine lv_goto (tgt := 59) hx hb dX7_best_45 (by decide) ?_
          have hpost : (bsOk x = true → bsQ (sV vis pk xs ys hs zs be nb sl n nn (1 <<< (nI n &&& 31) - 1)) 4096 x (u_15.1 7 : Int32)) ∧ (bsOk x = false → (u_15.1 7 : Int32) = -1) ∧ ((u_15.1, u_15.2.1, u_15.2.2.1, u_15.2.2.2.1, u_15.2.2.2.2.1, u_15.2.2.2.2.2).1 4 = 0 ∨ ((u_15.1, u_15.2.1, u_15.2.2.1, u_15.2.2.2.1, u_15.2.2.2.2.1, u_15.2.2.2.2.2).1 4 = 1 ∧ KVs (sV vis pk xs ys hs zs be nb sl n nn (1 <<< (nI n &&& 31) - 1)) nn 4096 (u_15.1, u_15.2.1, u_15.2.2.1, u_15.2.2.2.1, u_15.2.2.2.2.1, u_15.2.2.2.2.2).1 (u_15.1, u_15.2.1, u_15.2.2.1, u_15.2.2.2.1, u_15.2.2.2.2.1, u_15.2.2.2.2.2).2.1)) := by
            have e : bsOk x = true := by simp [bsOk, c_1, c_6]
            refine ⟨fun _ => ?_, fun h => absurd h (ne_f e), Or.inr q_15⟩
            rcases q_15.2.2.2 with hz | ⟨b, b1, b2, b3, b4, b5⟩
            · exact absurd hz.2.1 c_27
            · exact Or.inr ⟨b, b1, b4, b5, by rw [if_pos c_35]; exact b3⟩
          exact hret _ (u_15.1, u_15.2.1, u_15.2.2.1, u_15.2.2.2.1, u_15.2.2.2.2.1, u_15.2.2.2.2.2) _ _ _ _ (hpost) (rfl) hP hD hS dX7_best_59
      · refine lv_bipush (v := -9) hx hb dX7_best_30 (by decide) ?_
        have hpost : (bsOk x = true → bsQ (sV vis pk xs ys hs zs be nb sl n nn (1 <<< (nI n &&& 31) - 1)) 4096 x (-9 : Int32)) ∧ (bsOk x = false → (-9 : Int32) = -1) ∧ ((u_15.1, u_15.2.1, u_15.2.2.1, u_15.2.2.2.1, u_15.2.2.2.2.1, u_15.2.2.2.2.2).1 4 = 0 ∨ ((u_15.1, u_15.2.1, u_15.2.2.1, u_15.2.2.2.1, u_15.2.2.2.2.1, u_15.2.2.2.2.2).1 4 = 1 ∧ KVs (sV vis pk xs ys hs zs be nb sl n nn (1 <<< (nI n &&& 31) - 1)) nn 4096 (u_15.1, u_15.2.1, u_15.2.2.1, u_15.2.2.2.1, u_15.2.2.2.2.1, u_15.2.2.2.2.2).1 (u_15.1, u_15.2.1, u_15.2.2.1, u_15.2.2.2.1, u_15.2.2.2.2.1, u_15.2.2.2.2.2).2.1)) := by
          have e : bsOk x = true := by simp [bsOk, c_1, c_6]
          refine ⟨fun _ => ?_, fun h => absurd h (ne_f e), Or.inr q_15⟩
          rcases q_15.2.2.2 with hz | ⟨b, b1, b2, b3, b4, b5⟩
          · exact Or.inl ⟨hz.2.2, rfl⟩
          · rw [b2, m9_ne (by omega)] at c_27; exact c_27.elim
        exact hret _ (u_15.1, u_15.2.1, u_15.2.2.1, u_15.2.2.2.1, u_15.2.2.2.2.1, u_15.2.2.2.2.2) _ _ _ _ (hpost) (rfl) hP hD hS dX7_best_32
    · refine lv_iconst (v := -1) hx hb dX7_best_9 (by decide) ?_
      have hpost : (bsOk x = true → bsQ (sV vis pk xs ys hs zs be nb sl n nn (1 <<< (nI n &&& 31) - 1)) 4096 x (-1 : Int32)) ∧ (bsOk x = false → (-1 : Int32) = -1) ∧ ((vV, sco, lk, vM, rw, ow).1 4 = 0 ∨ ((vV, sco, lk, vM, rw, ow).1 4 = 1 ∧ KVs (sV vis pk xs ys hs zs be nb sl n nn (1 <<< (nI n &&& 31) - 1)) nn 4096 (vV, sco, lk, vM, rw, ow).1 (vV, sco, lk, vM, rw, ow).2.1)) := by
        have e : bsOk x = false := by simp [bsOk, c_1, c_6]
        exact ⟨fun h => absurd h (ne_t e), fun _ => rfl, hkn⟩
      exact hret _ (vV, sco, lk, vM, rw, ow) _ _ _ _ (hpost) (rfl) hP hD hS dX7_best_10

abbrev rX7_doubt : Room := { frames := 16, cells := 0, slots := 0, locals := 381 }
set_option maxHeartbeats 4000000 in
set_option maxRecDepth 100000 in
theorem c_X7_doubt (l : Launch) (G : kG) (h : Nat) (v : Nat → Int32) (q : Nat → Nat) (vV : Nat → Int32) (mA : Nat) (sA : Nat) (kA : Nat) (lA : Nat) (sco : Nat → Int32) (lk : Nat → Int64) (vL : Nat → Int32) (qL : Nat → Nat) (xs : Nat → Int32) (ys : Nat → Int32) (hs : Nat → Int32) (pk : Nat → Int32) (vis : Nat → Int32) (vN : Nat → Int32) (qN : Nat → Nat) (bs : Nat → Int32) (zs : Nat → Int32) (vM : Nat → Int32) (qM : Nat → Nat) (rw : Nat → Int32) (ow : Nat → Int32) (be : Nat → Nat → Nat) (nb : Nat → Nat) (n : Nat) (nn : Nat) (sl : Nat) (hn1 : vL 3 = nI n) (hn : n ≤ 10) (hsl : vL 7 = nI sl) (hsl3 : sl ≤ 3) (hn3 : vN 2 = nI nn) (hnn : nn ≤ 8) (hN : ∀ k, k < nn → bs k = nI (nb k) ∧ nb k < 64) (hB : ∀ pt, pt < 64 → pk pt = 0 → ∀ p, p < n → gbear (gx xs pt p) (gy ys pt p) = nI (be pt p) ∧ be pt p < 64) (hkn : vV 4 = 0 ∨ (vV 4 = 1 ∧ KVs (sV vis pk xs ys hs zs be nb sl n nn (1 <<< (nI n &&& 31) - 1)) nn 4096 vV sco)) : Ci l G yX7_doubt wsX7_doubt rX7_doubt [.ref h] [oB h 7 (oF7 v q), oB (q 5) 6 (oF6 vV (qVw (q 1) (q 3) mA sA kA lA)), aI G sA 4096 sco, aJ G kA 80 lk, oB (q 1) 1 (oF1 vL qL), aI G (qL 0) 10 xs, aI G (qL 1) 10 ys, aI G (qL 2) 10 hs, aZ G (qL 8) 64 pk, aI G (qL 9) 64 vis, oB (q 3) 3 (oF3 vN qN), aI G (qN 0) 8 bs, aI G (qN 1) 8 zs, oB mA 2 (oF2 vM qM), aI G (qM 0) 8 rw, aI G (qM 1) 10 ow] (fun r (u : (Nat → Int32) × (Nat → Int32) × (Nat → Int64) × (Nat → Int32) × (Nat → Int32) × (Nat → Int32)) => r = nI (fb_ct (fun pt => decide (pk pt = 0) && anyB (fun j => decide (u.2.1 (pt * 64 + j) = u.1 7)) 64) 64) ∧ (u.1 4 = 1 ∧ KVs (sV vis pk xs ys hs zs be nb sl n nn (1 <<< (nI n &&& 31) - 1)) nn 4096 u.1 u.2.1)) (fun u => [oB h 7 (oF7 v q), oB (q 5) 6 (oF6 u.1 (qVw (q 1) (q 3) mA sA kA lA)), aI G sA 4096 u.2.1, aJ G kA 80 u.2.2.1, oB (q 1) 1 (oF1 vL qL), aI G (qL 0) 10 xs, aI G (qL 1) 10 ys, aI G (qL 2) 10 hs, aZ G (qL 8) 64 pk, aI G (qL 9) 64 vis, oB (q 3) 3 (oF3 vN qN), aI G (qN 0) 8 bs, aI G (qN 1) 8 zs, oB mA 2 (oF2 u.2.2.2.1 qM), aI G (qM 0) 8 u.2.2.2.2.1, aI G (qM 1) 10 u.2.2.2.2.2]) := by
  refine Ci.of (cc := cX7_doubt) (maxL := 1) (by decide) rfl (Nat.le_of_ble_eq_true rfl) ?_
  intro pM eM sM mM bM tM cM Q A hx hb hts hown hml hA hK hP hD hS hret ls hl
  have hown : sM.vm.findClass RX7 = some mM.cls := hown
  have hl : lv_has ls 1 [(0, .ref h)] := hl
  have hin7 : ∀ w ∈ u_ws RX7 TX7 9, w ∈ wsX7_doubt := by decide +kernel
  have f45 := hts (.fieldLink RX7 45 "HorizonPeaks" "views" "LHorizonPeaks$Views;") (by decide +kernel)
  refine lv_aload_n hx hb dX7_doubt_0 rfl (lv_at hl 0 rfl) ?_
  refine va_get (D := G.1) (ci := 7) (v := .ref (q 5)) (C := RX7) (T := TX7) (N := 9) hx hb hts hin7 hown hK.1 hP 0 rfl rfl 5 (by decide) f45 (fun _ h9 => h9) rfl dX7_doubt_1 ?_
  refine ca_i (wr := [oB h 7 (oF7 v q)]) (va_runV (As := []) (rest := []) ⟨hx, hb, hml, hown, hts⟩ ((c_X6_bestPlaces l G (q 5) vV (qVw (q 1) (q 3) mA sA kA lA) sco lk vL qL xs ys hs pk vis vN qN bs zs vM qM rw ow be nb n nn sl (hn1) (hn) (hsl) (hsl3) (hn3) (hnn) (hN) (hB) (hkn)) _) (cwV 0 hts gX7_doubt_X6_bestPlaces rfl rfl rfl (by decide +kernel) ⟨Nat.le_of_ble_eq_true rfl, Nat.le_of_ble_eq_true rfl⟩) (cPre_V hK hP hD [1, 2, 3, 4, 5, 6, 7, 8, 9, 10, 11, 12, 13, 14, 15] (by decide) rfl 0 6 rfl rfl) rfl rfl hl.1 rfl (lv_room (Nat.le_of_ble_eq_true rfl)) dX7_doubt_4 ⟨Nat.zero_le _, Nat.zero_le _⟩) hP hD hS hA [1, 2, 3, 4, 5, 6, 7, 8, 9, 10, 11, 12, 13, 14, 15] [0] rfl rfl (by decide) (by decide) [0, 1, 2, 3, 4, 5, 6, 7, 8, 9, 10, 11, 12, 13, 14, 15] (fun u_4 => [oB h 7 (oF7 v q), oB (q 5) 6 (oF6 u_4.1 (qVw (q 1) (q 3) mA sA kA lA)), aI G sA 4096 u_4.2.1, aJ G kA 80 u_4.2.2.1, oB (q 1) 1 (oF1 vL qL), aI G (qL 0) 10 xs, aI G (qL 1) 10 ys, aI G (qL 2) 10 hs, aZ G (qL 8) 64 pk, aI G (qL 9) 64 vis, oB (q 3) 3 (oF3 vN qN), aI G (qN 0) 8 bs, aI G (qN 1) 8 zs, oB mA 2 (oF2 u_4.2.2.2.1 qM), aI G (qM 0) 8 u_4.2.2.2.2.1, aI G (qM 1) 10 u_4.2.2.2.2.2]) (by decide) (fun _ => rfl) (fun r_4 u_4 H locs q_4 hP hD hS => ?_)
  obtain ⟨rfl, q_4⟩ : r_4 = nI (fb_ct (fun pt => decide (pk pt = 0) && anyB (fun j => decide (u_4.2.1 (pt * 64 + j) = u_4.1 7)) 64) 64) ∧ (u_4.1 4 = 1 ∧ KVs (sV vis pk xs ys hs zs be nb sl n nn (1 <<< (nI n &&& 31) - 1)) nn 4096 u_4.1 u_4.2.1) := q_4
  have hP : va_P G.1 vwCl [oB h 7 (oF7 v q), oB (q 5) 6 (oF6 u_4.1 (qVw (q 1) (q 3) mA sA kA lA)), aI G sA 4096 u_4.2.1, aJ G kA 80 u_4.2.2.1, oB (q 1) 1 (oF1 vL qL), aI G (qL 0) 10 xs, aI G (qL 1) 10 ys, aI G (qL 2) 10 hs, aZ G (qL 8) 64 pk, aI G (qL 9) 64 vis, oB (q 3) 3 (oF3 vN qN), aI G (qN 0) 8 bs, aI G (qN 1) 8 zs, oB mA 2 (oF2 u_4.2.2.2.1 qM), aI G (qM 0) 8 u_4.2.2.2.2.1, aI G (qM 1) 10 u_4.2.2.2.2.2] H := hP
  have hD : va_D A [oB h 7 (oF7 v q), oB (q 5) 6 (oF6 u_4.1 (qVw (q 1) (q 3) mA sA kA lA)), aI G sA 4096 u_4.2.1, aJ G kA 80 u_4.2.2.1, oB (q 1) 1 (oF1 vL qL), aI G (qL 0) 10 xs, aI G (qL 1) 10 ys, aI G (qL 2) 10 hs, aZ G (qL 8) 64 pk, aI G (qL 9) 64 vis, oB (q 3) 3 (oF3 vN qN), aI G (qN 0) 8 bs, aI G (qN 1) 8 zs, oB mA 2 (oF2 u_4.2.2.2.1 qM), aI G (qM 0) 8 u_4.2.2.2.2.1, aI G (qM 1) 10 u_4.2.2.2.2.2] := hD
  have hpost : (nI (fb_ct (fun pt => decide (pk pt = 0) && anyB (fun j => decide (u_4.2.1 (pt * 64 + j) = u_4.1 7)) 64) 64) : Int32) = nI (fb_ct (fun pt => decide (pk pt = 0) && anyB (fun j => decide ((u_4.1, u_4.2.1, u_4.2.2.1, u_4.2.2.2.1, u_4.2.2.2.2.1, u_4.2.2.2.2.2).2.1 (pt * 64 + j) = (u_4.1, u_4.2.1, u_4.2.2.1, u_4.2.2.2.1, u_4.2.2.2.2.1, u_4.2.2.2.2.2).1 7)) 64) 64) ∧ ((u_4.1, u_4.2.1, u_4.2.2.1, u_4.2.2.2.1, u_4.2.2.2.2.1, u_4.2.2.2.2.2).1 4 = 1 ∧ KVs (sV vis pk xs ys hs zs be nb sl n nn (1 <<< (nI n &&& 31) - 1)) nn 4096 (u_4.1, u_4.2.1, u_4.2.2.1, u_4.2.2.2.1, u_4.2.2.2.2.1, u_4.2.2.2.2.2).1 (u_4.1, u_4.2.1, u_4.2.2.1, u_4.2.2.2.1, u_4.2.2.2.2.1, u_4.2.2.2.2.2).2.1) := by
    exact ⟨rfl, q_4⟩
  exact hret _ (u_4.1, u_4.2.1, u_4.2.2.1, u_4.2.2.2.1, u_4.2.2.2.2.1, u_4.2.2.2.2.2) _ _ _ _ (hpost) (rfl) hP hD hS dX7_doubt_7

abbrev rX7_odd : Room := { frames := 16, cells := 0, slots := 0, locals := 381 }
set_option maxHeartbeats 4000000 in
set_option maxRecDepth 100000 in
theorem c_X7_odd (l : Launch) (G : kG) (h : Nat) (v : Nat → Int32) (q : Nat → Nat) (vV : Nat → Int32) (mA : Nat) (sA : Nat) (kA : Nat) (lA : Nat) (sco : Nat → Int32) (lk : Nat → Int64) (vL : Nat → Int32) (qL : Nat → Nat) (xs : Nat → Int32) (ys : Nat → Int32) (hs : Nat → Int32) (pk : Nat → Int32) (vis : Nat → Int32) (vN : Nat → Int32) (qN : Nat → Nat) (bs : Nat → Int32) (zs : Nat → Int32) (vM : Nat → Int32) (qM : Nat → Nat) (rw : Nat → Int32) (ow : Nat → Int32) (la : Nat → Int32) (be : Nat → Nat → Nat) (nb : Nat → Nat) (n : Nat) (nn : Nat) (sl : Nat) (hn1 : vL 3 = nI n) (hn : n ≤ 10) (hsl : vL 7 = nI sl) (hsl3 : sl ≤ 3) (hn3 : vN 2 = nI nn) (hnn : nn ≤ 8) (hN : ∀ k, k < nn → bs k = nI (nb k) ∧ nb k < 64) (hB : ∀ pt, pt < 64 → pk pt = 0 → ∀ p, p < n → gbear (gx xs pt p) (gy ys pt p) = nI (be pt p) ∧ be pt p < 64) (hkn : vV 4 = 0 ∨ (vV 4 = 1 ∧ KVs (sV vis pk xs ys hs zs be nb sl n nn (1 <<< (nI n &&& 31) - 1)) nn 4096 vV sco)) : Ci l G yX7_odd wsX7_odd rX7_odd [.ref h] [oB h 7 (oF7 v q), oB (q 5) 6 (oF6 vV (qVw (q 1) (q 3) mA sA kA lA)), aI G sA 4096 sco, aJ G kA 80 lk, oB (q 1) 1 (oF1 vL qL), aI G (qL 0) 10 xs, aI G (qL 1) 10 ys, aI G (qL 2) 10 hs, aZ G (qL 8) 64 pk, aI G (qL 9) 64 vis, oB (q 3) 3 (oF3 vN qN), aI G (qN 0) 8 bs, aI G (qN 1) 8 zs, oB mA 2 (oF2 vM qM), aI G (qM 0) 8 rw, aI G (qM 1) 10 ow, aI G lA 8 la] (fun r (u : (Nat → Int32) × (Nat → Int32) × (Nat → Int64) × (Nat → Int32) × (Nat → Int32) × (Nat → Int32) × (Nat → Int32)) => ((nn = 0 ∧ r = -9) ∨ ∃ b, b < nn ∧ r = nI b ∧ ∀ k, k < nn → fb_ct (lkW vis pk xs ys hs zs be nb sl n nn (1 <<< (nI n &&& 31) - 1) k) 4096 ≤ fb_ct (lkW vis pk xs ys hs zs be nb sl n nn (1 <<< (nI n &&& 31) - 1) b) 4096 ∧ (k < b → fb_ct (lkW vis pk xs ys hs zs be nb sl n nn (1 <<< (nI n &&& 31) - 1) k) 4096 < fb_ct (lkW vis pk xs ys hs zs be nb sl n nn (1 <<< (nI n &&& 31) - 1) b) 4096)) ∧ (u.1 4 = 1 ∧ KVs (sV vis pk xs ys hs zs be nb sl n nn (1 <<< (nI n &&& 31) - 1)) nn 4096 u.1 u.2.1)) (fun u => [oB h 7 (oF7 v q), oB (q 5) 6 (oF6 u.1 (qVw (q 1) (q 3) mA sA kA lA)), aI G sA 4096 u.2.1, aJ G kA 80 u.2.2.1, oB (q 1) 1 (oF1 vL qL), aI G (qL 0) 10 xs, aI G (qL 1) 10 ys, aI G (qL 2) 10 hs, aZ G (qL 8) 64 pk, aI G (qL 9) 64 vis, oB (q 3) 3 (oF3 vN qN), aI G (qN 0) 8 bs, aI G (qN 1) 8 zs, oB mA 2 (oF2 u.2.2.2.1 qM), aI G (qM 0) 8 u.2.2.2.2.1, aI G (qM 1) 10 u.2.2.2.2.2.1, aI G lA 8 u.2.2.2.2.2.2]) := by
  refine Ci.of (cc := cX7_odd) (maxL := 1) (by decide) rfl (Nat.le_of_ble_eq_true rfl) ?_
  intro pM eM sM mM bM tM cM Q A hx hb hts hown hml hA hK hP hD hS hret ls hl
  have hown : sM.vm.findClass RX7 = some mM.cls := hown
  have hl : lv_has ls 1 [(0, .ref h)] := hl
  have hin7 : ∀ w ∈ u_ws RX7 TX7 9, w ∈ wsX7_odd := by decide +kernel
  have f45 := hts (.fieldLink RX7 45 "HorizonPeaks" "views" "LHorizonPeaks$Views;") (by decide +kernel)
  refine lv_aload_n hx hb dX7_odd_0 rfl (lv_at hl 0 rfl) ?_
  refine va_get (D := G.1) (ci := 7) (v := .ref (q 5)) (C := RX7) (T := TX7) (N := 9) hx hb hts hin7 hown hK.1 hP 0 rfl rfl 5 (by decide) f45 (fun _ h9 => h9) rfl dX7_odd_1 ?_
  refine ca_i (wr := [oB h 7 (oF7 v q)]) (va_runV (As := []) (rest := []) ⟨hx, hb, hml, hown, hts⟩ ((c_X6_oddNotch l G (q 5) vV (qVw (q 1) (q 3) mA sA kA lA) sco lk vL qL xs ys hs pk vis vN qN bs zs vM qM rw ow be nb n nn sl la (hn1) (hn) (hsl) (hsl3) (hn3) (hnn) (hN) (hB) (hkn)) _) (cwV 0 hts gX7_odd_X6_oddNotch rfl rfl rfl (by decide +kernel) ⟨Nat.le_of_ble_eq_true rfl, Nat.le_of_ble_eq_true rfl⟩) (cPre_V hK hP hD [1, 2, 3, 4, 5, 6, 7, 8, 9, 10, 11, 12, 13, 14, 15, 16] (by decide) rfl 0 6 rfl rfl) rfl rfl hl.1 rfl (lv_room (Nat.le_of_ble_eq_true rfl)) dX7_odd_4 ⟨Nat.zero_le _, Nat.zero_le _⟩) hP hD hS hA [1, 2, 3, 4, 5, 6, 7, 8, 9, 10, 11, 12, 13, 14, 15, 16] [0] rfl rfl (by decide) (by decide) [0, 1, 2, 3, 4, 5, 6, 7, 8, 9, 10, 11, 12, 13, 14, 15, 16] (fun u_4 => [oB h 7 (oF7 v q), oB (q 5) 6 (oF6 u_4.1 (qVw (q 1) (q 3) mA sA kA lA)), aI G sA 4096 u_4.2.1, aJ G kA 80 u_4.2.2.1, oB (q 1) 1 (oF1 vL qL), aI G (qL 0) 10 xs, aI G (qL 1) 10 ys, aI G (qL 2) 10 hs, aZ G (qL 8) 64 pk, aI G (qL 9) 64 vis, oB (q 3) 3 (oF3 vN qN), aI G (qN 0) 8 bs, aI G (qN 1) 8 zs, oB mA 2 (oF2 u_4.2.2.2.1 qM), aI G (qM 0) 8 u_4.2.2.2.2.1, aI G (qM 1) 10 u_4.2.2.2.2.2.1, aI G lA 8 u_4.2.2.2.2.2.2]) (by decide) (fun _ => rfl) (fun r_4 u_4 H locs q_4 hP hD hS => ?_)
  have q_4 : ((nn = 0 ∧ r_4 = -9) ∨ ∃ b, b < nn ∧ r_4 = nI b ∧ ∀ k, k < nn → fb_ct (lkW vis pk xs ys hs zs be nb sl n nn (1 <<< (nI n &&& 31) - 1) k) 4096 ≤ fb_ct (lkW vis pk xs ys hs zs be nb sl n nn (1 <<< (nI n &&& 31) - 1) b) 4096 ∧ (k < b → fb_ct (lkW vis pk xs ys hs zs be nb sl n nn (1 <<< (nI n &&& 31) - 1) k) 4096 < fb_ct (lkW vis pk xs ys hs zs be nb sl n nn (1 <<< (nI n &&& 31) - 1) b) 4096)) ∧ u_4.1 4 = 1 ∧ KVs (sV vis pk xs ys hs zs be nb sl n nn (1 <<< (nI n &&& 31) - 1)) nn 4096 u_4.1 u_4.2.1 := q_4
  have hP : va_P G.1 vwCl [oB h 7 (oF7 v q), oB (q 5) 6 (oF6 u_4.1 (qVw (q 1) (q 3) mA sA kA lA)), aI G sA 4096 u_4.2.1, aJ G kA 80 u_4.2.2.1, oB (q 1) 1 (oF1 vL qL), aI G (qL 0) 10 xs, aI G (qL 1) 10 ys, aI G (qL 2) 10 hs, aZ G (qL 8) 64 pk, aI G (qL 9) 64 vis, oB (q 3) 3 (oF3 vN qN), aI G (qN 0) 8 bs, aI G (qN 1) 8 zs, oB mA 2 (oF2 u_4.2.2.2.1 qM), aI G (qM 0) 8 u_4.2.2.2.2.1, aI G (qM 1) 10 u_4.2.2.2.2.2.1, aI G lA 8 u_4.2.2.2.2.2.2] H := hP
  have hD : va_D A [oB h 7 (oF7 v q), oB (q 5) 6 (oF6 u_4.1 (qVw (q 1) (q 3) mA sA kA lA)), aI G sA 4096 u_4.2.1, aJ G kA 80 u_4.2.2.1, oB (q 1) 1 (oF1 vL qL), aI G (qL 0) 10 xs, aI G (qL 1) 10 ys, aI G (qL 2) 10 hs, aZ G (qL 8) 64 pk, aI G (qL 9) 64 vis, oB (q 3) 3 (oF3 vN qN), aI G (qN 0) 8 bs, aI G (qN 1) 8 zs, oB mA 2 (oF2 u_4.2.2.2.1 qM), aI G (qM 0) 8 u_4.2.2.2.2.1, aI G (qM 1) 10 u_4.2.2.2.2.2.1, aI G lA 8 u_4.2.2.2.2.2.2] := hD
  have hpost : ((nn = 0 ∧ (r_4 : Int32) = -9) ∨ ∃ b, b < nn ∧ (r_4 : Int32) = nI b ∧ ∀ k, k < nn → fb_ct (lkW vis pk xs ys hs zs be nb sl n nn (1 <<< (nI n &&& 31) - 1) k) 4096 ≤ fb_ct (lkW vis pk xs ys hs zs be nb sl n nn (1 <<< (nI n &&& 31) - 1) b) 4096 ∧ (k < b → fb_ct (lkW vis pk xs ys hs zs be nb sl n nn (1 <<< (nI n &&& 31) - 1) k) 4096 < fb_ct (lkW vis pk xs ys hs zs be nb sl n nn (1 <<< (nI n &&& 31) - 1) b) 4096)) ∧ ((u_4.1, u_4.2.1, u_4.2.2.1, u_4.2.2.2.1, u_4.2.2.2.2.1, u_4.2.2.2.2.2.1, u_4.2.2.2.2.2.2).1 4 = 1 ∧ KVs (sV vis pk xs ys hs zs be nb sl n nn (1 <<< (nI n &&& 31) - 1)) nn 4096 (u_4.1, u_4.2.1, u_4.2.2.1, u_4.2.2.2.1, u_4.2.2.2.2.1, u_4.2.2.2.2.2.1, u_4.2.2.2.2.2.2).1 (u_4.1, u_4.2.1, u_4.2.2.1, u_4.2.2.2.1, u_4.2.2.2.2.1, u_4.2.2.2.2.2.1, u_4.2.2.2.2.2.2).2.1) := by
    exact q_4
  exact hret _ (u_4.1, u_4.2.1, u_4.2.2.1, u_4.2.2.2.1, u_4.2.2.2.2.1, u_4.2.2.2.2.2.1, u_4.2.2.2.2.2.2) _ _ _ _ (hpost) (rfl) hP hD hS dX7_odd_7

abbrev rX7_isToldSoWithout : Room := { frames := 15, cells := 0, slots := 0, locals := 356 }
set_option maxHeartbeats 4000000 in
set_option maxRecDepth 100000 in
theorem c_X7_isToldSoWithout (l : Launch) (G : kG) (h : Nat) (v : Nat → Int32) (q : Nat → Nat) (vV : Nat → Int32) (mA : Nat) (sA : Nat) (kA : Nat) (lA : Nat) (lk : Nat → Int64) (vL : Nat → Int32) (qL : Nat → Nat) (xs : Nat → Int32) (ys : Nat → Int32) (hs : Nat → Int32) (pk : Nat → Int32) (vis : Nat → Int32) (vN : Nat → Int32) (qN : Nat → Nat) (bs : Nat → Int32) (zs : Nat → Int32) (vM : Nat → Int32) (qM : Nat → Nat) (rw : Nat → Int32) (ow : Nat → Int32) (vC : Nat → Int32) (qC : Nat → Nat) (cp : Nat → Int32) (cl : Nat → Int32) (cw : Nat → Int32) (be : Nat → Nat → Nat) (nb : Nat → Nat) (n : Nat) (nn : Nat) (sl : Nat) (cc : Nat) (cpt : Nat → Nat) (clk : Nat → Nat) (cwh : Nat → Bool) (p0 : Nat) (hn1 : vL 3 = nI n) (hn : n ≤ 10) (hsl : vL 7 = nI sl) (hsl3 : sl ≤ 3) (hn3 : vN 2 = nI nn) (hnn : nn ≤ 8) (hN : ∀ k, k < nn → bs k = nI (nb k) ∧ nb k < 64) (hB : ∀ pt, pt < 64 → pk pt = 0 → ∀ p, p < n → gbear (gx xs pt p) (gy ys pt p) = nI (be pt p) ∧ be pt p < 64) (hC : CRep cc cpt clk cwh vC cp cl cw) (hCp : ∀ k, k < cc → pk (cpt k) = 0) (hp0 : p0 < 10) : Ci l G yX7_isToldSoWithout wsX7_isToldSoWithout rX7_isToldSoWithout [.ref h, .int (nI p0)] [oB h 7 (oF7 v q), oB (q 5) 6 (oF6 vV (qVw (q 1) (q 3) mA sA kA lA)), aJ G kA 80 lk, oB (q 1) 1 (oF1 vL qL), aI G (qL 0) 10 xs, aI G (qL 1) 10 ys, aI G (qL 2) 10 hs, aZ G (qL 8) 64 pk, aI G (qL 9) 64 vis, oB (q 3) 3 (oF3 vN qN), aI G (qN 0) 8 bs, aI G (qN 1) 8 zs, oB mA 2 (oF2 vM qM), aI G (qM 0) 8 rw, aI G (qM 1) 10 ow, oB (q 6) 0 (oF0 vC qC), aI G (qC 0) 6 cp, aI G (qC 1) 6 cl, aZ G (qC 2) 6 cw] (fun r (u : (Nat → Int64) × (Nat → Int32) × (Nat → Int32) × (Nat → Int32)) => r = b2i (!anyB (fun i => decide ((sc (fun k p => decide (p < n) && fE (shB vis (((1 : Int32) <<< (nI n &&& 31) - 1) &&& (((1 : Int32) <<< (nI p0 &&& 31)) ^^^ (-1))) (cpt i)) (gstand xs ys hs (cpt i)) (be (cpt i)) zs nb sl k p (clk i)) nn = nn) ≠ (cwh i = true))) cc)) (fun u => [oB h 7 (oF7 v q), oB (q 5) 6 (oF6 vV (qVw (q 1) (q 3) mA sA kA lA)), aJ G kA 80 u.1, oB (q 1) 1 (oF1 vL qL), aI G (qL 0) 10 xs, aI G (qL 1) 10 ys, aI G (qL 2) 10 hs, aZ G (qL 8) 64 pk, aI G (qL 9) 64 vis, oB (q 3) 3 (oF3 vN qN), aI G (qN 0) 8 bs, aI G (qN 1) 8 zs, oB mA 2 (oF2 u.2.1 qM), aI G (qM 0) 8 u.2.2.1, aI G (qM 1) 10 u.2.2.2, oB (q 6) 0 (oF0 vC qC), aI G (qC 0) 6 cp, aI G (qC 1) 6 cl, aZ G (qC 2) 6 cw]) := by
  refine Ci.of (cc := cX7_isToldSoWithout) (maxL := 5) (by decide) rfl (Nat.le_of_ble_eq_true rfl) ?_
  intro pM eM sM mM bM tM cM Q A hx hb hts hown hml hA hK hP hD hS hret ls hl
  have hown : sM.vm.findClass RX7 = some mM.cls := hown
  have hl : lv_has ls 5 [(0, .ref h), (1, .int (nI p0))] := hl
  have hin0 : ∀ w ∈ u_ws RX0 TX0 4, w ∈ wsX7_isToldSoWithout := by decide +kernel
  have hin3 : ∀ w ∈ u_ws RX3 TX3 3, w ∈ wsX7_isToldSoWithout := by decide +kernel
  have hin7 : ∀ w ∈ u_ws RX7 TX7 9, w ∈ wsX7_isToldSoWithout := by decide +kernel
  have f19 := hts (.fieldLink RX7 19 "HorizonPeaks" "land" "LHorizonPeaks$Land;") (by decide +kernel)
  have f52 := hts (.fieldLink RX7 52 "HorizonPeaks" "told" "LHorizonPeaks$Clouds;") (by decide +kernel)
  have f87 := hts (.fieldLink RX7 87 "HorizonPeaks$Clouds" "size" "I") (by decide +kernel)
  have f45 := hts (.fieldLink RX7 45 "HorizonPeaks" "views" "LHorizonPeaks$Views;") (by decide +kernel)
  have f228 := hts (.fieldLink RX7 228 "HorizonPeaks$Clouds" "points" "[I") (by decide +kernel)
  have f231 := hts (.fieldLink RX7 231 "HorizonPeaks$Clouds" "looks" "[I") (by decide +kernel)
  have f29 := hts (.fieldLink RX7 29 "HorizonPeaks" "notches" "LHorizonPeaks$Notches;") (by decide +kernel)
  have f83 := hts (.fieldLink RX7 83 "HorizonPeaks$Notches" "size" "I") (by decide +kernel)
  have f234 := hts (.fieldLink RX7 234 "HorizonPeaks$Clouds" "wholes" "[Z") (by decide +kernel)
  have hc6 := hC.2.1
  refine lv_aload_n hx hb dX7_isToldSoWithout_0 rfl (lv_at hl 0 rfl) ?_
  refine va_get (D := G.1) (ci := 7) (v := .ref (q 1)) (C := RX7) (T := TX7) (N := 9) hx hb hts hin7 hown hK.1 hP 0 rfl rfl 1 (by decide) f19 (fun _ h9 => h9) rfl dX7_isToldSoWithout_1 ?_
  refine rd_i (va_runV (As := []) (rest := []) ⟨hx, hb, hml, hown, hts⟩ (c_X1_allPeaks l G (q 1) vL qL) (cwV 0 hts gX7_isToldSoWithout_X1_allPeaks rfl rfl rfl (by decide +kernel) ⟨Nat.le_of_ble_eq_true rfl, Nat.le_of_ble_eq_true rfl⟩) (rPre_V hK hP [3] rfl 0 1 rfl rfl) rfl rfl hl.1 rfl (lv_room (Nat.le_of_ble_eq_true rfl)) dX7_isToldSoWithout_4 ⟨Nat.zero_le _, Nat.zero_le _⟩) (fun r_4 q_4 => ?_)
  obtain rfl : r_4 = 1 <<< (vL 3 &&& 31) - 1 := q_4
  refine lv_iconst (v := 1) hx hb dX7_isToldSoWithout_7 (by decide) ?_
  refine lv_iload_n hx hb dX7_isToldSoWithout_8 rfl (lv_at hl 1 rfl) ?_
  refine lv_ishl hx hb dX7_isToldSoWithout_9 ?_
  refine lv_iconst (v := -1) hx hb dX7_isToldSoWithout_10 (by decide) ?_
  refine lv_ixor hx hb dX7_isToldSoWithout_11 ?_
  refine lv_iand hx hb dX7_isToldSoWithout_12 ?_
  refine top_i (y := ((1 : Int32) <<< (nI n &&& 31) - 1) &&& (((1 : Int32) <<< (nI p0 &&& 31)) ^^^ (-1))) (by rw [hn1]) ?_
  refine lv_istore_n (lv' := [(2, .int (((1 : Int32) <<< (nI n &&& 31) - 1) &&& (((1 : Int32) <<< (nI p0 &&& 31)) ^^^ (-1)))), (0, .ref h), (1, .int (nI p0))]) hx hb dX7_isToldSoWithout_13 rfl hl (by decide) rfl (fun ls hl => ?_)
  refine lv_iconst (v := 0) hx hb dX7_isToldSoWithout_14 (by decide) ?_
  refine lv_istore_n (lv' := [(3, .int 0), (2, .int (((1 : Int32) <<< (nI n &&& 31) - 1) &&& (((1 : Int32) <<< (nI p0 &&& 31)) ^^^ (-1)))), (0, .ref h), (1, .int (nI p0))]) hx hb dX7_isToldSoWithout_15 rfl hl (by decide) rfl (fun ls hl => ?_)
  have loop_16 : ∀ (nF : Nat) (lk1 : Nat → Int64) (m1 : Nat → Int32) (rw1 : Nat → Int32) (ow1 : Nat → Int32) (i : Nat), (cc - i) < nF → (i ≤ cc) → (∀ a, a < i → (fun i => decide ((sc (fun k p => decide (p < n) && fE (shB vis (((1 : Int32) <<< (nI n &&& 31) - 1) &&& (((1 : Int32) <<< (nI p0 &&& 31)) ^^^ (-1))) (cpt i)) (gstand xs ys hs (cpt i)) (be (cpt i)) zs nb sl k p (clk i)) nn = nn) ≠ (cwh i = true))) a = false) → ∀ (H : Heap) (locs : List Loc), va_P G.1 vwCl [oB h 7 (oF7 v q), oB (q 5) 6 (oF6 vV (qVw (q 1) (q 3) mA sA kA lA)), aJ G kA 80 lk1, oB (q 1) 1 (oF1 vL qL), aI G (qL 0) 10 xs, aI G (qL 1) 10 ys, aI G (qL 2) 10 hs, aZ G (qL 8) 64 pk, aI G (qL 9) 64 vis, oB (q 3) 3 (oF3 vN qN), aI G (qN 0) 8 bs, aI G (qN 1) 8 zs, oB mA 2 (oF2 m1 qM), aI G (qM 0) 8 rw1, aI G (qM 1) 10 ow1, oB (q 6) 0 (oF0 vC qC), aI G (qC 0) 6 cp, aI G (qC 1) 6 cl, aZ G (qC 2) 6 cw] H → va_D A [oB h 7 (oF7 v q), oB (q 5) 6 (oF6 vV (qVw (q 1) (q 3) mA sA kA lA)), aJ G kA 80 lk1, oB (q 1) 1 (oF1 vL qL), aI G (qL 0) 10 xs, aI G (qL 1) 10 ys, aI G (qL 2) 10 hs, aZ G (qL 8) 64 pk, aI G (qL 9) 64 vis, oB (q 3) 3 (oF3 vN qN), aI G (qN 0) 8 bs, aI G (qN 1) 8 zs, oB mA 2 (oF2 m1 qM), aI G (qM 0) 8 rw1, aI G (qM 1) 10 ow1, oB (q 6) 0 (oF0 vC qC), aI G (qC 0) 6 cp, aI G (qC 1) 6 cl, aZ G (qC 2) 6 cw] → va_S A sM.heap H locs → ∀ (ls : Array Slot), lv_has ls 5 [(3, .int (nI i)), (2, .int (((1 : Int32) <<< (nI n &&& 31) - 1) &&& (((1 : Int32) <<< (nI p0 &&& 31)) ^^^ (-1)))), (0, .ref h), (1, .int (nI p0))] → W pM l eM rX7_isToldSoWithout sM mM [.ref h, .int (nI p0)].toArray bM tM cM H locs 0 0 Q (F0 mM 16 ls []) := by
    intro nF
    induction nF with
    | zero => intro lk1 m1 rw1 ow1 i hmF; exact absurd hmF (Nat.not_lt_zero _)
    | succ nF ih16 =>
      intro lk1 m1 rw1 ow1 i hmF hi hall H locs hP hD hS ls hl
      refine lv_iload_n hx hb dX7_isToldSoWithout_16 rfl (lv_at hl 0 rfl) ?_
      refine lv_aload_n hx hb dX7_isToldSoWithout_17 rfl (lv_at hl 2 rfl) ?_
      refine va_get (D := G.1) (ci := 7) (v := .ref (q 6)) (C := RX7) (T := TX7) (N := 9) hx hb hts hin7 hown hK.1 hP 0 rfl rfl 6 (by decide) f52 (fun _ h9 => h9) rfl dX7_isToldSoWithout_18 ?_
      refine va_get (D := G.1) (ci := 0) (v := .int (vC 3)) (C := RX0) (T := TX0) (N := 4) hx hb hts hin0 hown hK.1 hP 15 rfl rfl 3 (by decide) f87 (fun _ h9 => h9) rfl dX7_isToldSoWithout_21 ?_
      refine top_i (y := nI cc) (hC.1) ?_
      refine lv_icmp_ge (tgt := 92) hx hb dX7_isToldSoWithout_24 (by decide) (fun c_24 => ?_) (fun c_24 => ?_)
      · have c_24 : cc ≤ i := (c_le (a := cc) (b := i) rfl rfl (by omega) (by omega)).mp c_24
        refine lv_iconst (v := 1) hx hb dX7_isToldSoWithout_92 (by decide) ?_
        have hpost : (1 : Int32) = b2i (!anyB (fun i => decide ((sc (fun k p => decide (p < n) && fE (shB vis (((1 : Int32) <<< (nI n &&& 31) - 1) &&& (((1 : Int32) <<< (nI p0 &&& 31)) ^^^ (-1))) (cpt i)) (gstand xs ys hs (cpt i)) (be (cpt i)) zs nb sl k p (clk i)) nn = nn) ≠ (cwh i = true))) cc) := by
          rw [anyB_no.mpr (fun a ha => hall a (by omega))]
          rfl
        exact hret _ (lk1, m1, rw1, ow1) _ _ _ _ (hpost) (rfl) hP hD hS dX7_isToldSoWithout_93
      · have c_24 : ¬ cc ≤ i := fun hne => c_24 ((c_le (a := cc) (b := i) rfl rfl (by omega) (by omega)).mpr hne)
        refine lv_aload_n hx hb dX7_isToldSoWithout_27 rfl (lv_at hl 2 rfl) ?_
        refine va_get (D := G.1) (ci := 7) (v := .ref (q 5)) (C := RX7) (T := TX7) (N := 9) hx hb hts hin7 hown hK.1 hP 0 rfl rfl 5 (by decide) f45 (fun _ h9 => h9) rfl dX7_isToldSoWithout_28 ?_
        refine lv_aload_n hx hb dX7_isToldSoWithout_31 rfl (lv_at hl 2 rfl) ?_
        refine va_get (D := G.1) (ci := 7) (v := .ref (q 6)) (C := RX7) (T := TX7) (N := 9) hx hb hts hin7 hown hK.1 hP 0 rfl rfl 6 (by decide) f52 (fun _ h9 => h9) rfl dX7_isToldSoWithout_32 ?_
        refine va_get (D := G.1) (ci := 0) (v := .ref (qC 0)) (C := RX0) (T := TX0) (N := 4) hx hb hts hin0 hown hK.1 hP 15 rfl rfl 0 (by decide) f228 (fun _ h9 => h9) rfl dX7_isToldSoWithout_35 ?_
        refine lv_iload_n hx hb dX7_isToldSoWithout_38 rfl (lv_at hl 0 rfl) ?_
        refine al_i hx hb hK.1 hP 16 0 rfl rfl (j := i) (by omega) (Nat.le_of_ble_eq_true rfl) dX7_isToldSoWithout_39 ?_
        refine top_i (y := nI (cpt i)) ((hC.2.2 i (by omega)).1) ?_
        refine lv_aload_n hx hb dX7_isToldSoWithout_40 rfl (lv_at hl 2 rfl) ?_
        refine va_get (D := G.1) (ci := 7) (v := .ref (q 6)) (C := RX7) (T := TX7) (N := 9) hx hb hts hin7 hown hK.1 hP 0 rfl rfl 6 (by decide) f52 (fun _ h9 => h9) rfl dX7_isToldSoWithout_41 ?_
        refine va_get (D := G.1) (ci := 0) (v := .ref (qC 1)) (C := RX0) (T := TX0) (N := 4) hx hb hts hin0 hown hK.1 hP 15 rfl rfl 1 (by decide) f231 (fun _ h9 => h9) rfl dX7_isToldSoWithout_44 ?_
        refine lv_iload_n hx hb dX7_isToldSoWithout_47 rfl (lv_at hl 0 rfl) ?_
        refine al_i hx hb hK.1 hP 17 0 rfl rfl (j := i) (by omega) (Nat.le_of_ble_eq_true rfl) dX7_isToldSoWithout_48 ?_
        refine top_i (y := nI (clk i)) ((hC.2.2 i (by omega)).2.2.1) ?_
        refine lv_iload_n hx hb dX7_isToldSoWithout_49 rfl (lv_at hl 1 rfl) ?_
        refine ca_i (wr := [oB h 7 (oF7 v q), aZ G (qL 8) 64 pk, oB (q 6) 0 (oF0 vC qC), aI G (qC 0) 6 cp, aI G (qC 1) 6 cl, aZ G (qC 2) 6 cw]) (va_runV (As := [.int (nI (cpt i)), .int (nI (clk i)), .int (((1 : Int32) <<< (nI n &&& 31) - 1) &&& (((1 : Int32) <<< (nI p0 &&& 31)) ^^^ (-1)))]) (rest := []) ⟨hx, hb, hml, hown, hts⟩ ((c_X6_scoreWith l G (q 5) vV (qVw (q 1) (q 3) mA sA kA lA) lk1 vL qL xs ys hs vis vN qN bs zs m1 qM rw1 ow1 (be (cpt i)) nb n nn sl (cpt i) (clk i) (((1 : Int32) <<< (nI n &&& 31) - 1) &&& (((1 : Int32) <<< (nI p0 &&& 31)) ^^^ (-1))) ((hC.2.2 i (by omega)).2.1) (hn1) (hn) (hsl) (hsl3) (hn3) (hnn) (hN) (hB _ (hC.2.2 i (by omega)).2.1 (hCp i (by omega))) ((hC.2.2 i (by omega)).2.2.2.1)) _) (cwV 3 hts gX7_isToldSoWithout_X6_scoreWith rfl rfl rfl (by decide +kernel) ⟨Nat.le_of_ble_eq_true rfl, Nat.le_of_ble_eq_true rfl⟩) (cPre_V hK hP hD [1, 2, 3, 4, 5, 6, 8, 9, 10, 11, 12, 13, 14] (by decide) rfl 0 6 rfl rfl) rfl rfl hl.1 rfl (lv_room (Nat.le_of_ble_eq_true rfl)) dX7_isToldSoWithout_50 ⟨Nat.zero_le _, Nat.zero_le _⟩) hP hD hS hA [1, 2, 3, 4, 5, 6, 8, 9, 10, 11, 12, 13, 14] [0, 7, 15, 16, 17, 18] rfl rfl (by decide) (by decide) [0, 6, 7, 8, 9, 10, 11, 1, 12, 13, 14, 15, 16, 17, 18, 2, 3, 4, 5] (fun u_50 => [oB h 7 (oF7 v q), oB (q 5) 6 (oF6 vV (qVw (q 1) (q 3) mA sA kA lA)), aJ G kA 80 u_50.1, oB (q 1) 1 (oF1 vL qL), aI G (qL 0) 10 xs, aI G (qL 1) 10 ys, aI G (qL 2) 10 hs, aZ G (qL 8) 64 pk, aI G (qL 9) 64 vis, oB (q 3) 3 (oF3 vN qN), aI G (qN 0) 8 bs, aI G (qN 1) 8 zs, oB mA 2 (oF2 u_50.2.1 qM), aI G (qM 0) 8 u_50.2.2.1, aI G (qM 1) 10 u_50.2.2.2, oB (q 6) 0 (oF0 vC qC), aI G (qC 0) 6 cp, aI G (qC 1) 6 cl, aZ G (qC 2) 6 cw]) (by decide) (fun _ => rfl) (fun r_50 u_50 H locs q_50 hP hD hS => ?_)
        obtain rfl : r_50 = nI (sc (fun k p => decide (p < n) && fE (shB vis (((1 : Int32) <<< (nI n &&& 31) - 1) &&& (((1 : Int32) <<< (nI p0 &&& 31)) ^^^ (-1))) (cpt i)) (gstand xs ys hs (cpt i)) (be (cpt i)) zs nb sl k p (clk i)) nn) := q_50
        have hP : va_P G.1 vwCl [oB h 7 (oF7 v q), oB (q 5) 6 (oF6 vV (qVw (q 1) (q 3) mA sA kA lA)), aJ G kA 80 u_50.1, oB (q 1) 1 (oF1 vL qL), aI G (qL 0) 10 xs, aI G (qL 1) 10 ys, aI G (qL 2) 10 hs, aZ G (qL 8) 64 pk, aI G (qL 9) 64 vis, oB (q 3) 3 (oF3 vN qN), aI G (qN 0) 8 bs, aI G (qN 1) 8 zs, oB mA 2 (oF2 u_50.2.1 qM), aI G (qM 0) 8 u_50.2.2.1, aI G (qM 1) 10 u_50.2.2.2, oB (q 6) 0 (oF0 vC qC), aI G (qC 0) 6 cp, aI G (qC 1) 6 cl, aZ G (qC 2) 6 cw] H := hP
        have hD : va_D A [oB h 7 (oF7 v q), oB (q 5) 6 (oF6 vV (qVw (q 1) (q 3) mA sA kA lA)), aJ G kA 80 u_50.1, oB (q 1) 1 (oF1 vL qL), aI G (qL 0) 10 xs, aI G (qL 1) 10 ys, aI G (qL 2) 10 hs, aZ G (qL 8) 64 pk, aI G (qL 9) 64 vis, oB (q 3) 3 (oF3 vN qN), aI G (qN 0) 8 bs, aI G (qN 1) 8 zs, oB mA 2 (oF2 u_50.2.1 qM), aI G (qM 0) 8 u_50.2.2.1, aI G (qM 1) 10 u_50.2.2.2, oB (q 6) 0 (oF0 vC qC), aI G (qC 0) 6 cp, aI G (qC 1) 6 cl, aZ G (qC 2) 6 cw] := hD
        have hsk := sc_le (fun k p => decide (p < n) && fE (shB vis (((1 : Int32) <<< (nI n &&& 31) - 1) &&& (((1 : Int32) <<< (nI p0 &&& 31)) ^^^ (-1))) (cpt i)) (gstand xs ys hs (cpt i)) (be (cpt i)) zs nb sl k p (clk i)) nn
        refine lv_istore (lv' := [(4, .int (nI (sc (fun k p => decide (p < n) && fE (shB vis (((1 : Int32) <<< (nI n &&& 31) - 1) &&& (((1 : Int32) <<< (nI p0 &&& 31)) ^^^ (-1))) (cpt i)) (gstand xs ys hs (cpt i)) (be (cpt i)) zs nb sl k p (clk i)) nn))), (3, .int (nI i)), (2, .int (((1 : Int32) <<< (nI n &&& 31) - 1) &&& (((1 : Int32) <<< (nI p0 &&& 31)) ^^^ (-1)))), (0, .ref h), (1, .int (nI p0))]) hx hb dX7_isToldSoWithout_53 hl (by decide) rfl (fun ls hl => ?_)
        refine lv_iload hx hb dX7_isToldSoWithout_55 (lv_at hl 0 rfl) ?_
        refine lv_aload_n hx hb dX7_isToldSoWithout_57 rfl (lv_at hl 3 rfl) ?_
        refine va_get (D := G.1) (ci := 7) (v := .ref (q 3)) (C := RX7) (T := TX7) (N := 9) hx hb hts hin7 hown hK.1 hP 0 rfl rfl 3 (by decide) f29 (fun _ h9 => h9) rfl dX7_isToldSoWithout_58 ?_
        refine va_get (D := G.1) (ci := 3) (v := .int (vN 2)) (C := RX3) (T := TX3) (N := 3) hx hb hts hin3 hown hK.1 hP 9 rfl rfl 2 (by decide) f83 (fun _ h9 => h9) rfl dX7_isToldSoWithout_61 ?_
        refine top_i (y := nI nn) (hn3) ?_
        refine lv_icmp_ne (tgt := 71) hx hb dX7_isToldSoWithout_64 (by decide) (fun c_64 => ?_) (fun c_64 => ?_)
        · have c_64 : ¬ (sc (fun k p => decide (p < n) && fE (shB vis (((1 : Int32) <<< (nI n &&& 31) - 1) &&& (((1 : Int32) <<< (nI p0 &&& 31)) ^^^ (-1))) (cpt i)) (gstand xs ys hs (cpt i)) (be (cpt i)) zs nb sl k p (clk i)) nn) = nn := fun hne => c_64 ((c_eq (a := sc (fun k p => decide (p < n) && fE (shB vis (((1 : Int32) <<< (nI n &&& 31) - 1) &&& (((1 : Int32) <<< (nI p0 &&& 31)) ^^^ (-1))) (cpt i)) (gstand xs ys hs (cpt i)) (be (cpt i)) zs nb sl k p (clk i)) nn) (b := nn) rfl rfl (by omega) (by omega)).mpr hne)
          refine lv_iconst (v := 0) hx hb dX7_isToldSoWithout_71 (by decide) ?_
          refine lv_aload_n hx hb dX7_isToldSoWithout_72 rfl (lv_at hl 3 rfl) ?_
          refine va_get (D := G.1) (ci := 7) (v := .ref (q 6)) (C := RX7) (T := TX7) (N := 9) hx hb hts hin7 hown hK.1 hP 0 rfl rfl 6 (by decide) f52 (fun _ h9 => h9) rfl dX7_isToldSoWithout_73 ?_
          refine va_get (D := G.1) (ci := 0) (v := .ref (qC 2)) (C := RX0) (T := TX0) (N := 4) hx hb hts hin0 hown hK.1 hP 15 rfl rfl 2 (by decide) f234 (fun _ h9 => h9) rfl dX7_isToldSoWithout_76 ?_
          refine lv_iload_n hx hb dX7_isToldSoWithout_79 rfl (lv_at hl 1 rfl) ?_
          refine al_z hx hb hK.1 hP 18 2 rfl rfl (j := i) (by omega) (Nat.le_of_ble_eq_true rfl) dX7_isToldSoWithout_80 ?_
          refine top_i (y := b2i (cwh i)) ((hC.2.2 i (by omega)).2.2.2.2) ?_
          refine lv_icmp_eq (tgt := 86) hx hb dX7_isToldSoWithout_81 (by decide) (fun c_81 => ?_) (fun c_81 => ?_)
          · refine lv_iinc (v := nI (i + 1)) (lv' := [(3, .int (nI (i + 1))), (4, .int (nI (sc (fun k p => decide (p < n) && fE (shB vis (((1 : Int32) <<< (nI n &&& 31) - 1) &&& (((1 : Int32) <<< (nI p0 &&& 31)) ^^^ (-1))) (cpt i)) (gstand xs ys hs (cpt i)) (be (cpt i)) zs nb sl k p (clk i)) nn))), (2, .int (((1 : Int32) <<< (nI n &&& 31) - 1) &&& (((1 : Int32) <<< (nI p0 &&& 31)) ^^^ (-1)))), (0, .ref h), (1, .int (nI p0))]) hx hb dX7_isToldSoWithout_86 hl (k := 1) rfl (inc_nI _ 1) (by decide) rfl (fun ls hl => ?_)
            refine lv_goto (tgt := 16) hx hb dX7_isToldSoWithout_89 (by decide) ?_
            have hiff : (sc (fun k p => decide (p < n) && fE (shB vis (((1 : Int32) <<< (nI n &&& 31) - 1) &&& (((1 : Int32) <<< (nI p0 &&& 31)) ^^^ (-1))) (cpt i)) (gstand xs ys hs (cpt i)) (be (cpt i)) zs nb sl k p (clk i)) nn = nn) ↔ (cwh i = true) := by
              cases hcw : cwh i
              · rw [hcw] at c_81; first | exact ⟨fun h => absurd h c_64, fun h => by cases h⟩ | exact absurd c_81 (by decide)
              · rw [hcw] at c_81; first | exact ⟨fun _ => rfl, fun _ => c_64⟩ | exact absurd c_81 (by decide)
            exact ih16 u_50.1 u_50.2.1 u_50.2.2.1 u_50.2.2.2 (i + 1) (by omega) (by omega) (fun a ha => (Nat.lt_succ_iff_lt_or_eq.mp ha).elim (hall a) (fun e => by rw [e]; simp only [decide_eq_false_iff_not, ne_eq, Classical.not_not]; exact propext hiff)) _ _ hP hD hS _ (lv_sub hl [0, 2, 3, 4] rfl)
          · refine lv_iconst (v := 0) hx hb dX7_isToldSoWithout_84 (by decide) ?_
            have hpost : (0 : Int32) = b2i (!anyB (fun i => decide ((sc (fun k p => decide (p < n) && fE (shB vis (((1 : Int32) <<< (nI n &&& 31) - 1) &&& (((1 : Int32) <<< (nI p0 &&& 31)) ^^^ (-1))) (cpt i)) (gstand xs ys hs (cpt i)) (be (cpt i)) zs nb sl k p (clk i)) nn = nn) ≠ (cwh i = true))) cc) := by
              have hne : ¬ ((sc (fun k p => decide (p < n) && fE (shB vis (((1 : Int32) <<< (nI n &&& 31) - 1) &&& (((1 : Int32) <<< (nI p0 &&& 31)) ^^^ (-1))) (cpt i)) (gstand xs ys hs (cpt i)) (be (cpt i)) zs nb sl k p (clk i)) nn = nn) ↔ (cwh i = true)) := by
                intro hh
                cases hcw : cwh i
                · rw [hcw] at c_81 hh; first | exact absurd (hh.mp c_64) (by decide) | exact c_81 rfl
                · rw [hcw] at c_81 hh; first | exact absurd (hh.mpr rfl) c_64 | exact c_81 rfl
              rw [anyB_yes (k := i) (by omega) (by simp only [decide_eq_true_eq]; exact fun e => hne (iff_of_eq e))]
              rfl
            exact hret _ (u_50.1, u_50.2.1, u_50.2.2.1, u_50.2.2.2) _ _ _ _ (hpost) (rfl) hP hD hS dX7_isToldSoWithout_85
        · have c_64 : (sc (fun k p => decide (p < n) && fE (shB vis (((1 : Int32) <<< (nI n &&& 31) - 1) &&& (((1 : Int32) <<< (nI p0 &&& 31)) ^^^ (-1))) (cpt i)) (gstand xs ys hs (cpt i)) (be (cpt i)) zs nb sl k p (clk i)) nn) = nn := (c_eq (a := sc (fun k p => decide (p < n) && fE (shB vis (((1 : Int32) <<< (nI n &&& 31) - 1) &&& (((1 : Int32) <<< (nI p0 &&& 31)) ^^^ (-1))) (cpt i)) (gstand xs ys hs (cpt i)) (be (cpt i)) zs nb sl k p (clk i)) nn) (b := nn) rfl rfl (by omega) (by omega)).mp c_64
          refine lv_iconst (v := 1) hx hb dX7_isToldSoWithout_67 (by decide) ?_
          refine lv_goto (tgt := 72) hx hb dX7_isToldSoWithout_68 (by decide) ?_
          refine lv_aload_n hx hb dX7_isToldSoWithout_72 rfl (lv_at hl 3 rfl) ?_
          refine va_get (D := G.1) (ci := 7) (v := .ref (q 6)) (C := RX7) (T := TX7) (N := 9) hx hb hts hin7 hown hK.1 hP 0 rfl rfl 6 (by decide) f52 (fun _ h9 => h9) rfl dX7_isToldSoWithout_73 ?_
          refine va_get (D := G.1) (ci := 0) (v := .ref (qC 2)) (C := RX0) (T := TX0) (N := 4) hx hb hts hin0 hown hK.1 hP 15 rfl rfl 2 (by decide) f234 (fun _ h9 => h9) rfl dX7_isToldSoWithout_76 ?_
          refine lv_iload_n hx hb dX7_isToldSoWithout_79 rfl (lv_at hl 1 rfl) ?_
          refine al_z hx hb hK.1 hP 18 2 rfl rfl (j := i) (by omega) (Nat.le_of_ble_eq_true rfl) dX7_isToldSoWithout_80 ?_
          refine top_i (y := b2i (cwh i)) ((hC.2.2 i (by omega)).2.2.2.2) ?_
          refine lv_icmp_eq (tgt := 86) hx hb dX7_isToldSoWithout_81 (by decide) (fun c_81 => ?_) (fun c_81 => ?_)
          · refine lv_iinc (v := nI (i + 1)) (lv' := [(3, .int (nI (i + 1))), (4, .int (nI (sc (fun k p => decide (p < n) && fE (shB vis (((1 : Int32) <<< (nI n &&& 31) - 1) &&& (((1 : Int32) <<< (nI p0 &&& 31)) ^^^ (-1))) (cpt i)) (gstand xs ys hs (cpt i)) (be (cpt i)) zs nb sl k p (clk i)) nn))), (2, .int (((1 : Int32) <<< (nI n &&& 31) - 1) &&& (((1 : Int32) <<< (nI p0 &&& 31)) ^^^ (-1)))), (0, .ref h), (1, .int (nI p0))]) hx hb dX7_isToldSoWithout_86 hl (k := 1) rfl (inc_nI _ 1) (by decide) rfl (fun ls hl => ?_)
            refine lv_goto (tgt := 16) hx hb dX7_isToldSoWithout_89 (by decide) ?_
            have hiff : (sc (fun k p => decide (p < n) && fE (shB vis (((1 : Int32) <<< (nI n &&& 31) - 1) &&& (((1 : Int32) <<< (nI p0 &&& 31)) ^^^ (-1))) (cpt i)) (gstand xs ys hs (cpt i)) (be (cpt i)) zs nb sl k p (clk i)) nn = nn) ↔ (cwh i = true) := by
              cases hcw : cwh i
              · rw [hcw] at c_81; first | exact ⟨fun h => absurd h c_64, fun h => by cases h⟩ | exact absurd c_81 (by decide)
              · rw [hcw] at c_81; first | exact ⟨fun _ => rfl, fun _ => c_64⟩ | exact absurd c_81 (by decide)
            exact ih16 u_50.1 u_50.2.1 u_50.2.2.1 u_50.2.2.2 (i + 1) (by omega) (by omega) (fun a ha => (Nat.lt_succ_iff_lt_or_eq.mp ha).elim (hall a) (fun e => by rw [e]; simp only [decide_eq_false_iff_not, ne_eq, Classical.not_not]; exact propext hiff)) _ _ hP hD hS _ (lv_sub hl [0, 2, 3, 4] rfl)
          · refine lv_iconst (v := 0) hx hb dX7_isToldSoWithout_84 (by decide) ?_
            have hpost : (0 : Int32) = b2i (!anyB (fun i => decide ((sc (fun k p => decide (p < n) && fE (shB vis (((1 : Int32) <<< (nI n &&& 31) - 1) &&& (((1 : Int32) <<< (nI p0 &&& 31)) ^^^ (-1))) (cpt i)) (gstand xs ys hs (cpt i)) (be (cpt i)) zs nb sl k p (clk i)) nn = nn) ≠ (cwh i = true))) cc) := by
              have hne : ¬ ((sc (fun k p => decide (p < n) && fE (shB vis (((1 : Int32) <<< (nI n &&& 31) - 1) &&& (((1 : Int32) <<< (nI p0 &&& 31)) ^^^ (-1))) (cpt i)) (gstand xs ys hs (cpt i)) (be (cpt i)) zs nb sl k p (clk i)) nn = nn) ↔ (cwh i = true)) := by
                intro hh
                cases hcw : cwh i
                · rw [hcw] at c_81 hh; first | exact absurd (hh.mp c_64) (by decide) | exact c_81 rfl
                · rw [hcw] at c_81 hh; first | exact absurd (hh.mpr rfl) c_64 | exact c_81 rfl
              rw [anyB_yes (k := i) (by omega) (by simp only [decide_eq_true_eq]; exact fun e => hne (iff_of_eq e))]
              rfl
            exact hret _ (u_50.1, u_50.2.1, u_50.2.2.1, u_50.2.2.2) _ _ _ _ (hpost) (rfl) hP hD hS dX7_isToldSoWithout_85
  exact loop_16 _ lk vM rw ow 0 (Nat.lt_succ_self _) (Nat.zero_le _) (fun a ha => absurd ha (Nat.not_lt_zero a)) _ _ hP hD hS _ (lv_sub hl [0, 1, 2, 3] rfl)

abbrev rX7_unseen : Room := { frames := 16, cells := 0, slots := 0, locals := 380 }
set_option maxHeartbeats 4000000 in
set_option maxRecDepth 100000 in
theorem c_X7_unseen (l : Launch) (G : kG) (h : Nat) (v : Nat → Int32) (q : Nat → Nat) (vV : Nat → Int32) (mA : Nat) (sA : Nat) (kA : Nat) (lA : Nat) (lk : Nat → Int64) (vL : Nat → Int32) (qL : Nat → Nat) (xs : Nat → Int32) (ys : Nat → Int32) (hs : Nat → Int32) (pk : Nat → Int32) (vis : Nat → Int32) (vN : Nat → Int32) (qN : Nat → Nat) (bs : Nat → Int32) (zs : Nat → Int32) (vM : Nat → Int32) (qM : Nat → Nat) (rw : Nat → Int32) (ow : Nat → Int32) (vC : Nat → Int32) (qC : Nat → Nat) (cp : Nat → Int32) (cl : Nat → Int32) (cw : Nat → Int32) (be : Nat → Nat → Nat) (nb : Nat → Nat) (n : Nat) (nn : Nat) (sl : Nat) (cc : Nat) (cpt : Nat → Nat) (clk : Nat → Nat) (cwh : Nat → Bool) (hn1 : vL 3 = nI n) (hn : n ≤ 10) (hsl : vL 7 = nI sl) (hsl3 : sl ≤ 3) (hn3 : vN 2 = nI nn) (hnn : nn ≤ 8) (hN : ∀ k, k < nn → bs k = nI (nb k) ∧ nb k < 64) (hB : ∀ pt, pt < 64 → pk pt = 0 → ∀ p, p < n → gbear (gx xs pt p) (gy ys pt p) = nI (be pt p) ∧ be pt p < 64) (hC : CRep cc cpt clk cwh vC cp cl cw) (hCp : ∀ k, k < cc → pk (cpt k) = 0) : Ci l G yX7_unseen wsX7_unseen rX7_unseen [.ref h] [oB h 7 (oF7 v q), oB (q 5) 6 (oF6 vV (qVw (q 1) (q 3) mA sA kA lA)), aJ G kA 80 lk, oB (q 1) 1 (oF1 vL qL), aI G (qL 0) 10 xs, aI G (qL 1) 10 ys, aI G (qL 2) 10 hs, aZ G (qL 8) 64 pk, aI G (qL 9) 64 vis, oB (q 3) 3 (oF3 vN qN), aI G (qN 0) 8 bs, aI G (qN 1) 8 zs, oB mA 2 (oF2 vM qM), aI G (qM 0) 8 rw, aI G (qM 1) 10 ow, oB (q 6) 0 (oF0 vC qC), aI G (qC 0) 6 cp, aI G (qC 1) 6 cl, aZ G (qC 2) 6 cw] (fun r (u : (Nat → Int64) × (Nat → Int32) × (Nat → Int32) × (Nat → Int32)) => r = gbits (fun p0 => !anyB (fun i => decide ((sc (fun k p => decide (p < n) && fE (shB vis (((1 : Int32) <<< (nI n &&& 31) - 1) &&& (((1 : Int32) <<< (nI p0 &&& 31)) ^^^ (-1))) (cpt i)) (gstand xs ys hs (cpt i)) (be (cpt i)) zs nb sl k p (clk i)) nn = nn) ≠ (cwh i = true))) cc) n) (fun u => [oB h 7 (oF7 v q), oB (q 5) 6 (oF6 vV (qVw (q 1) (q 3) mA sA kA lA)), aJ G kA 80 u.1, oB (q 1) 1 (oF1 vL qL), aI G (qL 0) 10 xs, aI G (qL 1) 10 ys, aI G (qL 2) 10 hs, aZ G (qL 8) 64 pk, aI G (qL 9) 64 vis, oB (q 3) 3 (oF3 vN qN), aI G (qN 0) 8 bs, aI G (qN 1) 8 zs, oB mA 2 (oF2 u.2.1 qM), aI G (qM 0) 8 u.2.2.1, aI G (qM 1) 10 u.2.2.2, oB (q 6) 0 (oF0 vC qC), aI G (qC 0) 6 cp, aI G (qC 1) 6 cl, aZ G (qC 2) 6 cw]) := by
  refine Ci.of (cc := cX7_unseen) (maxL := 3) (by decide) rfl (Nat.le_of_ble_eq_true rfl) ?_
  intro pM eM sM mM bM tM cM Q A hx hb hts hown hml hA hK hP hD hS hret ls hl
  have hown : sM.vm.findClass RX7 = some mM.cls := hown
  have hl : lv_has ls 3 [(0, .ref h)] := hl
  have hin1 : ∀ w ∈ u_ws RX1 TX1 11, w ∈ wsX7_unseen := by decide +kernel
  have hin7 : ∀ w ∈ u_ws RX7 TX7 9, w ∈ wsX7_unseen := by decide +kernel
  have f19 := hts (.fieldLink RX7 19 "HorizonPeaks" "land" "LHorizonPeaks$Land;") (by decide +kernel)
  have f214 := hts (.fieldLink RX7 214 "HorizonPeaks$Land" "peaks" "I") (by decide +kernel)
  refine lv_iconst (v := 0) hx hb dX7_unseen_0 (by decide) ?_
  refine lv_istore_n (lv' := [(1, .int 0), (0, .ref h)]) hx hb dX7_unseen_1 rfl hl (by decide) rfl (fun ls hl => ?_)
  refine lv_iconst (v := 0) hx hb dX7_unseen_2 (by decide) ?_
  refine lv_istore_n (lv' := [(2, .int 0), (1, .int 0), (0, .ref h)]) hx hb dX7_unseen_3 rfl hl (by decide) rfl (fun ls hl => ?_)
  have loop_4 : ∀ (nF : Nat) (lk1 : Nat → Int64) (m1 : Nat → Int32) (rw1 : Nat → Int32) (ow1 : Nat → Int32) (z : Int32) (p0 : Nat), (n - p0) < nF → (p0 ≤ n) → (z = gbits (fun p0 => !anyB (fun i => decide ((sc (fun k p => decide (p < n) && fE (shB vis (((1 : Int32) <<< (nI n &&& 31) - 1) &&& (((1 : Int32) <<< (nI p0 &&& 31)) ^^^ (-1))) (cpt i)) (gstand xs ys hs (cpt i)) (be (cpt i)) zs nb sl k p (clk i)) nn = nn) ≠ (cwh i = true))) cc) p0) → ∀ (H : Heap) (locs : List Loc), va_P G.1 vwCl [oB h 7 (oF7 v q), oB (q 5) 6 (oF6 vV (qVw (q 1) (q 3) mA sA kA lA)), aJ G kA 80 lk1, oB (q 1) 1 (oF1 vL qL), aI G (qL 0) 10 xs, aI G (qL 1) 10 ys, aI G (qL 2) 10 hs, aZ G (qL 8) 64 pk, aI G (qL 9) 64 vis, oB (q 3) 3 (oF3 vN qN), aI G (qN 0) 8 bs, aI G (qN 1) 8 zs, oB mA 2 (oF2 m1 qM), aI G (qM 0) 8 rw1, aI G (qM 1) 10 ow1, oB (q 6) 0 (oF0 vC qC), aI G (qC 0) 6 cp, aI G (qC 1) 6 cl, aZ G (qC 2) 6 cw] H → va_D A [oB h 7 (oF7 v q), oB (q 5) 6 (oF6 vV (qVw (q 1) (q 3) mA sA kA lA)), aJ G kA 80 lk1, oB (q 1) 1 (oF1 vL qL), aI G (qL 0) 10 xs, aI G (qL 1) 10 ys, aI G (qL 2) 10 hs, aZ G (qL 8) 64 pk, aI G (qL 9) 64 vis, oB (q 3) 3 (oF3 vN qN), aI G (qN 0) 8 bs, aI G (qN 1) 8 zs, oB mA 2 (oF2 m1 qM), aI G (qM 0) 8 rw1, aI G (qM 1) 10 ow1, oB (q 6) 0 (oF0 vC qC), aI G (qC 0) 6 cp, aI G (qC 1) 6 cl, aZ G (qC 2) 6 cw] → va_S A sM.heap H locs → ∀ (ls : Array Slot), lv_has ls 3 [(2, .int (nI p0)), (1, .int z), (0, .ref h)] → W pM l eM rX7_unseen sM mM [.ref h].toArray bM tM cM H locs 0 0 Q (F0 mM 4 ls []) := by
    intro nF
    induction nF with
    | zero => intro lk1 m1 rw1 ow1 z p0 hmF; exact absurd hmF (Nat.not_lt_zero _)
    | succ nF ih4 =>
      intro lk1 m1 rw1 ow1 z p0 hmF hp hz H locs hP hD hS ls hl
      refine lv_iload_n hx hb dX7_unseen_4 rfl (lv_at hl 0 rfl) ?_
      refine lv_aload_n hx hb dX7_unseen_5 rfl (lv_at hl 2 rfl) ?_
      refine va_get (D := G.1) (ci := 7) (v := .ref (q 1)) (C := RX7) (T := TX7) (N := 9) hx hb hts hin7 hown hK.1 hP 0 rfl rfl 1 (by decide) f19 (fun _ h9 => h9) rfl dX7_unseen_6 ?_
      refine va_get (D := G.1) (ci := 1) (v := .int (vL 3)) (C := RX1) (T := TX1) (N := 11) hx hb hts hin1 hown hK.1 hP 3 rfl rfl 3 (by decide) f214 (fun _ h9 => h9) rfl dX7_unseen_9 ?_
      refine top_i (y := nI n) (hn1) ?_
      refine lv_icmp_ge (tgt := 35) hx hb dX7_unseen_12 (by decide) (fun c_12 => ?_) (fun c_12 => ?_)
      · have c_12 : n ≤ p0 := (c_le (a := n) (b := p0) rfl rfl (by omega) (by omega)).mp c_12
        refine lv_iload_n hx hb dX7_unseen_35 rfl (lv_at hl 1 rfl) ?_
        have hpost : (z : Int32) = gbits (fun p0 => !anyB (fun i => decide ((sc (fun k p => decide (p < n) && fE (shB vis (((1 : Int32) <<< (nI n &&& 31) - 1) &&& (((1 : Int32) <<< (nI p0 &&& 31)) ^^^ (-1))) (cpt i)) (gstand xs ys hs (cpt i)) (be (cpt i)) zs nb sl k p (clk i)) nn = nn) ≠ (cwh i = true))) cc) n := by
          rw [hz, show p0 = n by omega]
        exact hret _ (lk1, m1, rw1, ow1) _ _ _ _ (hpost) (rfl) hP hD hS dX7_unseen_36
      · have c_12 : ¬ n ≤ p0 := fun hne => c_12 ((c_le (a := n) (b := p0) rfl rfl (by omega) (by omega)).mpr hne)
        refine lv_aload_n hx hb dX7_unseen_15 rfl (lv_at hl 2 rfl) ?_
        refine lv_iload_n hx hb dX7_unseen_16 rfl (lv_at hl 0 rfl) ?_
        refine ca_i (wr := []) (va_runV (As := [.int (nI p0)]) (rest := []) ⟨hx, hb, hml, hown, hts⟩ ((c_X7_isToldSoWithout l G h v q vV mA _ _ _ lk1 vL qL xs ys hs pk vis vN qN bs zs m1 qM rw1 ow1 vC qC cp cl cw be nb n nn sl cc cpt clk cwh p0 (hn1) (hn) (hsl) (hsl3) (hn3) (hnn) (hN) (hB) (hC) (hCp) (by omega)) _) (cwV 1 hts gX7_unseen_X7_isToldSoWithout rfl rfl rfl (by decide +kernel) ⟨Nat.le_of_ble_eq_true rfl, Nat.le_of_ble_eq_true rfl⟩) (cPre_V hK hP hD [0, 1, 2, 3, 4, 5, 6, 7, 8, 9, 10, 11, 12, 13, 14, 15, 16, 17, 18] (by decide) rfl 0 7 rfl rfl) rfl rfl hl.1 rfl (lv_room (Nat.le_of_ble_eq_true rfl)) dX7_unseen_17 ⟨Nat.zero_le _, Nat.zero_le _⟩) hP hD hS hA [0, 1, 2, 3, 4, 5, 6, 7, 8, 9, 10, 11, 12, 13, 14, 15, 16, 17, 18] [] rfl rfl (by decide) (by decide) [0, 1, 2, 3, 4, 5, 6, 7, 8, 9, 10, 11, 12, 13, 14, 15, 16, 17, 18] (fun u_17 => [oB h 7 (oF7 v q), oB (q 5) 6 (oF6 vV (qVw (q 1) (q 3) mA sA kA lA)), aJ G kA 80 u_17.1, oB (q 1) 1 (oF1 vL qL), aI G (qL 0) 10 xs, aI G (qL 1) 10 ys, aI G (qL 2) 10 hs, aZ G (qL 8) 64 pk, aI G (qL 9) 64 vis, oB (q 3) 3 (oF3 vN qN), aI G (qN 0) 8 bs, aI G (qN 1) 8 zs, oB mA 2 (oF2 u_17.2.1 qM), aI G (qM 0) 8 u_17.2.2.1, aI G (qM 1) 10 u_17.2.2.2, oB (q 6) 0 (oF0 vC qC), aI G (qC 0) 6 cp, aI G (qC 1) 6 cl, aZ G (qC 2) 6 cw]) (by decide) (fun _ => rfl) (fun r_17 u_17 H locs q_17 hP hD hS => ?_)
        obtain rfl : r_17 = b2i (!anyB (fun i => decide ((sc (fun k p => decide (p < n) && fE (shB vis (((1 : Int32) <<< (nI n &&& 31) - 1) &&& (((1 : Int32) <<< (nI p0 &&& 31)) ^^^ (-1))) (cpt i)) (gstand xs ys hs (cpt i)) (be (cpt i)) zs nb sl k p (clk i)) nn = nn) ≠ (cwh i = true))) cc) := q_17
        have hP : va_P G.1 vwCl [oB h 7 (oF7 v q), oB (q 5) 6 (oF6 vV (qVw (q 1) (q 3) mA sA kA lA)), aJ G kA 80 u_17.1, oB (q 1) 1 (oF1 vL qL), aI G (qL 0) 10 xs, aI G (qL 1) 10 ys, aI G (qL 2) 10 hs, aZ G (qL 8) 64 pk, aI G (qL 9) 64 vis, oB (q 3) 3 (oF3 vN qN), aI G (qN 0) 8 bs, aI G (qN 1) 8 zs, oB mA 2 (oF2 u_17.2.1 qM), aI G (qM 0) 8 u_17.2.2.1, aI G (qM 1) 10 u_17.2.2.2, oB (q 6) 0 (oF0 vC qC), aI G (qC 0) 6 cp, aI G (qC 1) 6 cl, aZ G (qC 2) 6 cw] H := hP
        have hD : va_D A [oB h 7 (oF7 v q), oB (q 5) 6 (oF6 vV (qVw (q 1) (q 3) mA sA kA lA)), aJ G kA 80 u_17.1, oB (q 1) 1 (oF1 vL qL), aI G (qL 0) 10 xs, aI G (qL 1) 10 ys, aI G (qL 2) 10 hs, aZ G (qL 8) 64 pk, aI G (qL 9) 64 vis, oB (q 3) 3 (oF3 vN qN), aI G (qN 0) 8 bs, aI G (qN 1) 8 zs, oB mA 2 (oF2 u_17.2.1 qM), aI G (qM 0) 8 u_17.2.2.1, aI G (qM 1) 10 u_17.2.2.2, oB (q 6) 0 (oF0 vC qC), aI G (qC 0) 6 cp, aI G (qC 1) 6 cl, aZ G (qC 2) 6 cw] := hD
        refine lv_if_eq (tgt := 29) hx hb dX7_unseen_20 (by decide) (fun c_20 => ?_) (fun c_20 => ?_)
        · have c_20 : (!anyB (fun i => decide ((sc (fun k p => decide (p < n) && fE (shB vis (((1 : Int32) <<< (nI n &&& 31) - 1) &&& (((1 : Int32) <<< (nI p0 &&& 31)) ^^^ (-1))) (cpt i)) (gstand xs ys hs (cpt i)) (be (cpt i)) zs nb sl k p (clk i)) nn = nn) ≠ (cwh i = true))) cc) = false := b2i_0.mp c_20
          refine lv_iinc (v := nI (p0 + 1)) (lv' := [(2, .int (nI (p0 + 1))), (1, .int z), (0, .ref h)]) hx hb dX7_unseen_29 hl (k := 0) rfl (inc_nI _ 1) (by decide) rfl (fun ls hl => ?_)
          refine lv_goto (tgt := 4) hx hb dX7_unseen_32 (by decide) ?_
          exact ih4 u_17.1 u_17.2.1 u_17.2.2.1 u_17.2.2.2 z (p0 + 1) (by omega) (by omega) (by rw [gbits, c_20, hz]; rfl) _ _ hP hD hS _ (lv_sub hl [0, 1, 2] rfl)
        · have c_20 : (!anyB (fun i => decide ((sc (fun k p => decide (p < n) && fE (shB vis (((1 : Int32) <<< (nI n &&& 31) - 1) &&& (((1 : Int32) <<< (nI p0 &&& 31)) ^^^ (-1))) (cpt i)) (gstand xs ys hs (cpt i)) (be (cpt i)) zs nb sl k p (clk i)) nn = nn) ≠ (cwh i = true))) cc) = true := b2i_n0.mp c_20
          refine lv_iload_n hx hb dX7_unseen_23 rfl (lv_at hl 1 rfl) ?_
          refine lv_iconst (v := 1) hx hb dX7_unseen_24 (by decide) ?_
          refine lv_iload_n hx hb dX7_unseen_25 rfl (lv_at hl 0 rfl) ?_
          refine lv_ishl hx hb dX7_unseen_26 ?_
          refine lv_ior hx hb dX7_unseen_27 ?_
          refine lv_istore_n (lv' := [(1, .int (z ||| (1 <<< ((nI p0) &&& 31)))), (2, .int (nI p0)), (0, .ref h)]) hx hb dX7_unseen_28 rfl hl (by decide) rfl (fun ls hl => ?_)
          refine lv_iinc (v := nI (p0 + 1)) (lv' := [(2, .int (nI (p0 + 1))), (1, .int (z ||| (1 <<< ((nI p0) &&& 31)))), (0, .ref h)]) hx hb dX7_unseen_29 hl (k := 1) rfl (inc_nI _ 1) (by decide) rfl (fun ls hl => ?_)
          refine lv_goto (tgt := 4) hx hb dX7_unseen_32 (by decide) ?_
          exact ih4 u_17.1 u_17.2.1 u_17.2.2.1 u_17.2.2.2 (z ||| (1 <<< ((nI p0) &&& 31))) (p0 + 1) (by omega) (by omega) (by rw [gbits, c_20, hz]; rfl) _ _ hP hD hS _ (lv_sub hl [0, 1, 2] rfl)
  exact loop_4 _ lk vM rw ow 0 0 (Nat.lt_succ_self _) (Nat.zero_le _) (rfl) _ _ hP hD hS _ (lv_sub hl [0, 1, 2] rfl)
