theorem pPlace_t {pk : Nat → Int32} {x y : Int32} (h : pPlace pk x y = true) : ∃ X Y : Nat, X < 8 ∧ Y < 8 ∧ x = nI X ∧ y = nI Y ∧ pk (X * 8 + Y) = 0 := pPlace_of h
def ptN (x y : Int32) : Nat := (x * 8 + y).toNatClampNeg
theorem ptN_nI {X Y : Nat} (hX : X < 8) (hY : Y < 8) : ptN (nI X) (nI Y) = X * 8 + Y := by rw [ptN, mul8, nI_clamp (by omega)]
def seR (pk vis : Nat → Int32) (n : Nat) (x y z : Int32) : Int32 := if (pPlace pk x y && pHas (nI n) z) = true then b2i (!decide (vis (ptN x y) >>> (z &&& 31) &&& 1 = 0)) else -1
def beR (pk xs ys : Nat → Int32) (n : Nat) (x y z : Int32) : Int32 := if (pPlace pk x y && pHas (nI n) z) = true then gbear (gx xs (ptN x y) z.toNatClampNeg) (gy ys (ptN x y) z.toNatClampNeg) else -1
def stR (pk xs ys hs : Nat → Int32) (n : Nat) (x y z : Int32) : Int32 := if (pPlace pk x y && pHas (nI n) z) = true then gstand xs ys hs (ptN x y) z.toNatClampNeg else -1
def paQ (f : Nat → Bool) (g : Nat → Nat → Bool) (n : Nat) (z r : Int32) : Prop := ∃ many o, Pan f g n many o ∧ many ≤ n ∧ r = (if z = -1 then nI many else if z < nI many then nI (o z.toNatClampNeg) else -9)
theorem z_nonneg {z : Int32} (h1 : ¬ z < -1) (h2 : ¬ z = -1) : ¬ z < 0 := by
  intro h
  rw [Int32.lt_iff_toInt_lt] at h h1
  have e : (-1 : Int32).toInt = -1 := by decide
  have e0 : (0 : Int32).toInt = 0 := by decide
  exact h2 (Int32.toInt_inj.mp (by rw [e]; omega))
def isOk (w : Int32) : Bool := !decide (w < 0) && decide (w ≤ 1)
def clO (pk : Nat → Int32) (x y z w : Int32) : Bool := pPlace pk x y && (pLook z && isOk w)
def clR (pk : Nat → Int32) (cc : Nat) (x y z w : Int32) : Int32 := if clO pk x y z w = true then (if cc < 6 then nI (cc + 1) else -3) else -1
def CRep (cc : Nat) (cpt clk : Nat → Nat) (cwh : Nat → Bool) (vC cp cl cw : Nat → Int32) : Prop := vC 3 = nI cc ∧ cc ≤ 6 ∧ ∀ k, k < cc → cp k = nI (cpt k) ∧ cpt k < 64 ∧ cl k = nI (clk k) ∧ clk k < 64 ∧ cw k = b2i (cwh k)
def updB (f : Nat → Bool) (k : Nat) (x : Bool) : Nat → Bool := fun j => if j = k then x else f j
theorem CRep_add {cc : Nat} {cpt clk : Nat → Nat} {cwh : Nat → Bool} {vC cp cl cw v2 : Nat → Int32} {a b : Nat} {w : Bool} (h : CRep cc cpt clk cwh vC cp cl cw) (hc : cc < 6) (ha : a < 64) (hb : b < 64) (hv : v2 3 = nI (cc + 1)) : CRep (cc + 1) (updN cpt cc a) (updN clk cc b) (updB cwh cc w) v2 (upd cp cc (nI a)) (upd cl cc (nI b)) (upd cw cc (b2i w)) := by
  refine ⟨hv, by omega, fun k hk => ?_⟩
  by_cases e : k = cc
  · rw [e, pk_us, pk_us, pk_us, updN_s, updN_s]; exact ⟨rfl, ha, rfl, hb, by simp [updB]⟩
  · rw [pk_un e, pk_un e, pk_un e, updN_n e, updN_n e]; simp only [updB, if_neg e]; exact h.2.2 k (by omega)
theorem pLook_of {x : Int32} (h : pLook x = true) : ∃ a : Nat, a < 64 ∧ x = nI a := by
  simp only [pLook, Bool.and_eq_true, Bool.not_eq_true', decide_eq_false_iff_not] at h
  obtain ⟨a, ha, rfl⟩ := nI_of h.1
  exact ⟨a, by have : ¬ 64 ≤ a := fun q => h.2 ((c_le (a := 64) rfl rfl (by omega) (by omega)).mpr q)
               omega, rfl⟩
abbrev rX7_seen : Room := { frames := 2, cells := 0, slots := 0, locals := 43 }
set_option maxHeartbeats 4000000 in
set_option maxRecDepth 100000 in
theorem c_X7_seen (l : Launch) (G : kG) (h : Nat) (v : Nat → Int32) (q : Nat → Nat) (vL : Nat → Int32) (qL : Nat → Nat) (pk : Nat → Int32) (vis : Nat → Int32) (x : Int32) (y : Int32) (z : Int32) (n : Nat) (hn1 : vL 3 = nI n) (hn : n ≤ 10) : Ri l G yX7_seen wsX7_seen rX7_seen [.ref h, .int x, .int y, .int z] [oB h 7 (oF7 v q), oB (q 1) 1 (oF1 vL qL), aZ G (qL 8) 64 pk, aI G (qL 9) 64 vis] (fun r => r = seR pk vis n x y z) := by
  refine Ri.of (cc := cX7_seen) (maxL := 4) (by decide) rfl (Nat.le_of_ble_eq_true rfl) ?_
  intro pM eM sM mM bM tM cM Q hx hb hts hown hml hP hK hret ls hl
  have hown : sM.vm.findClass RX7 = some mM.cls := hown
  have hl : lv_has ls 4 [(0, .ref h), (1, .int x), (2, .int y), (3, .int z)] := hl
  have hin7 : ∀ w ∈ u_ws RX7 TX7 9, w ∈ wsX7_seen := by decide +kernel
  have f19 := hts (.fieldLink RX7 19 "HorizonPeaks" "land" "LHorizonPeaks$Land;") (by decide +kernel)
  refine lv_aload_n hx hb dX7_seen_0 rfl (lv_at hl 0 rfl) ?_
  refine va_get (D := G.1) (ci := 7) (v := .ref (q 1)) (C := RX7) (T := TX7) (N := 9) hx hb hts hin7 hown hK.1 hP 0 rfl rfl 1 (by decide) f19 (fun _ h9 => h9) rfl dX7_seen_1 ?_
  refine lv_iload_n hx hb dX7_seen_4 rfl (lv_at hl 1 rfl) ?_
  refine lv_iload_n hx hb dX7_seen_5 rfl (lv_at hl 2 rfl) ?_
  refine rd_i (va_runV (As := [.int x, .int y]) (rest := []) ⟨hx, hb, hml, hown, hts⟩ (c_X1_isPlace l G (q 1) vL qL pk x y) (cwV 2 hts gX7_seen_X1_isPlace rfl rfl rfl (by decide +kernel) ⟨Nat.le_of_ble_eq_true rfl, Nat.le_of_ble_eq_true rfl⟩) (rPre_V hK hP [1, 2] rfl 0 1 rfl rfl) rfl rfl hl.1 rfl (lv_room (Nat.le_of_ble_eq_true rfl)) dX7_seen_6 ⟨Nat.zero_le _, Nat.zero_le _⟩) (fun r_6 q_6 => ?_)
  obtain rfl : r_6 = b2i (pPlace pk x y) := q_6
  refine lv_if_eq (tgt := 23) hx hb dX7_seen_9 (by decide) (fun c_9 => ?_) (fun c_9 => ?_)
  · have c_9 : (pPlace pk x y) = false := b2i_0.mp c_9
    refine lv_iconst (v := -1) hx hb dX7_seen_23 (by decide) ?_
    have hpost : (-1 : Int32) = seR pk vis n x y z := by
      simp [seR, c_9]
    exact hret _ _ _ (hpost) (rfl) dX7_seen_24
  · have c_9 : (pPlace pk x y) = true := b2i_n0.mp c_9
    obtain ⟨X, Y, hX, hY, rfl, rfl, hpk0⟩ := pPlace_t c_9
    refine lv_aload_n hx hb dX7_seen_12 rfl (lv_at hl 0 rfl) ?_
    refine va_get (D := G.1) (ci := 7) (v := .ref (q 1)) (C := RX7) (T := TX7) (N := 9) hx hb hts hin7 hown hK.1 hP 0 rfl rfl 1 (by decide) f19 (fun _ h9 => h9) rfl dX7_seen_13 ?_
    refine lv_iload_n hx hb dX7_seen_16 rfl (lv_at hl 3 rfl) ?_
    refine rd_i (va_runV (As := [.int z]) (rest := []) ⟨hx, hb, hml, hown, hts⟩ (c_X1_hasPeak l G (q 1) vL qL z) (cwV 1 hts gX7_seen_X1_hasPeak rfl rfl rfl (by decide +kernel) ⟨Nat.le_of_ble_eq_true rfl, Nat.le_of_ble_eq_true rfl⟩) (rPre_V hK hP [1] rfl 0 1 rfl rfl) rfl rfl hl.1 rfl (lv_room (Nat.le_of_ble_eq_true rfl)) dX7_seen_17 ⟨Nat.zero_le _, Nat.zero_le _⟩) (fun r_17 q_17 => ?_)
    obtain rfl : r_17 = b2i (pHas (vL 3) z) := q_17
    refine lv_if_ne (tgt := 25) hx hb dX7_seen_20 (by decide) (fun c_20 => ?_) (fun c_20 => ?_)
    · have c_20 : (pHas (vL 3) z) = true := b2i_n0.mp c_20
      rw [hn1] at c_20
      obtain ⟨p, hp0, rfl⟩ := pHas_of (by omega) c_20
      refine lv_aload_n hx hb dX7_seen_25 rfl (lv_at hl 0 rfl) ?_
      refine va_get (D := G.1) (ci := 7) (v := .ref (q 1)) (C := RX7) (T := TX7) (N := 9) hx hb hts hin7 hown hK.1 hP 0 rfl rfl 1 (by decide) f19 (fun _ h9 => h9) rfl dX7_seen_26 ?_
      refine lv_iload_n hx hb dX7_seen_29 rfl (lv_at hl 1 rfl) ?_
      refine lv_iload_n hx hb dX7_seen_30 rfl (lv_at hl 2 rfl) ?_
      refine rd_i (va_runS (As := [.int (nI X), .int (nI Y)]) (rest := [.ref (q 1)]) ⟨hx, hb, hml, hown, hts⟩ (c_X7_pointOf l G (nI X) (nI Y)) (va_cwS 2 hts gX7_seen_X7_pointOf rfl rfl rfl (by decide +kernel) ⟨Nat.le_of_ble_eq_true rfl, Nat.le_of_ble_eq_true rfl⟩) (rPre_S hK hP [] rfl) rfl rfl hl.1 rfl (lv_room (Nat.le_of_ble_eq_true rfl)) dX7_seen_31 ⟨Nat.zero_le _, Nat.zero_le _⟩) (fun r_31 q_31 => ?_)
      obtain rfl : r_31 = (nI X) * 8 + (nI Y) := q_31
      refine top_i (y := nI (X * 8 + Y)) (mul8 X Y) ?_
      refine lv_iload_n hx hb dX7_seen_34 rfl (lv_at hl 3 rfl) ?_
      refine rd_i (va_runV (As := [.int (nI (X * 8 + Y)), .int (nI p)]) (rest := []) ⟨hx, hb, hml, hown, hts⟩ (c_X1_isInSight l G (q 1) vL qL vis (X * 8 + Y) (nI p) (by omega)) (cwV 2 hts gX7_seen_X1_isInSight rfl rfl rfl (by decide +kernel) ⟨Nat.le_of_ble_eq_true rfl, Nat.le_of_ble_eq_true rfl⟩) (rPre_V hK hP [1, 3] rfl 0 1 rfl rfl) rfl rfl hl.1 rfl (lv_room (Nat.le_of_ble_eq_true rfl)) dX7_seen_35 ⟨Nat.zero_le _, Nat.zero_le _⟩) (fun r_35 q_35 => ?_)
      obtain rfl : r_35 = b2i (!decide (vis (X * 8 + Y) >>> ((nI p) &&& 31) &&& 1 = 0)) := q_35
      refine lv_if_eq (tgt := 45) hx hb dX7_seen_38 (by decide) (fun c_38 => ?_) (fun c_38 => ?_)
      · have c_38 : (!decide (vis (X * 8 + Y) >>> ((nI p) &&& 31) &&& 1 = 0)) = false := b2i_0.mp c_38
        refine lv_iconst (v := 0) hx hb dX7_seen_45 (by decide) ?_
        have hpost : (0 : Int32) = seR pk vis n (nI X) (nI Y) (nI p) := by
          rw [seR, c_9, c_20, ptN_nI hX hY]
          simp [b2i, c_38]
        exact hret _ _ _ (hpost) (rfl) dX7_seen_46
      · have c_38 : (!decide (vis (X * 8 + Y) >>> ((nI p) &&& 31) &&& 1 = 0)) = true := b2i_n0.mp c_38
        refine lv_iconst (v := 1) hx hb dX7_seen_41 (by decide) ?_
        refine lv_goto (tgt := 46) hx hb dX7_seen_42 (by decide) ?_
        have hpost : (1 : Int32) = seR pk vis n (nI X) (nI Y) (nI p) := by
          rw [seR, c_9, c_20, ptN_nI hX hY]
          simp [b2i, c_38]
        exact hret _ _ _ (hpost) (rfl) dX7_seen_46
    · have c_20 : (pHas (vL 3) z) = false := b2i_0.mp c_20
      rw [hn1] at c_20
      refine lv_iconst (v := -1) hx hb dX7_seen_23 (by decide) ?_
      have hpost : (-1 : Int32) = seR pk vis n (nI X) (nI Y) z := by
        simp [seR, c_9, c_20]
      exact hret _ _ _ (hpost) (rfl) dX7_seen_24

abbrev rX7_bearing : Room := { frames := 2, cells := 0, slots := 0, locals := 47 }
set_option maxHeartbeats 4000000 in
set_option maxRecDepth 100000 in
theorem c_X7_bearing (l : Launch) (G : kG) (h : Nat) (v : Nat → Int32) (q : Nat → Nat) (vL : Nat → Int32) (qL : Nat → Nat) (xs : Nat → Int32) (ys : Nat → Int32) (pk : Nat → Int32) (x : Int32) (y : Int32) (z : Int32) (n : Nat) (hn1 : vL 3 = nI n) (hn : n ≤ 10) : Ri l G yX7_bearing wsX7_bearing rX7_bearing [.ref h, .int x, .int y, .int z] [oB h 7 (oF7 v q), oB (q 1) 1 (oF1 vL qL), aI G (qL 0) 10 xs, aI G (qL 1) 10 ys, aZ G (qL 8) 64 pk] (fun r => r = beR pk xs ys n x y z) := by
  refine Ri.of (cc := cX7_bearing) (maxL := 4) (by decide) rfl (Nat.le_of_ble_eq_true rfl) ?_
  intro pM eM sM mM bM tM cM Q hx hb hts hown hml hP hK hret ls hl
  have hown : sM.vm.findClass RX7 = some mM.cls := hown
  have hl : lv_has ls 4 [(0, .ref h), (1, .int x), (2, .int y), (3, .int z)] := hl
  have hin7 : ∀ w ∈ u_ws RX7 TX7 9, w ∈ wsX7_bearing := by decide +kernel
  have f19 := hts (.fieldLink RX7 19 "HorizonPeaks" "land" "LHorizonPeaks$Land;") (by decide +kernel)
  refine lv_aload_n hx hb dX7_bearing_0 rfl (lv_at hl 0 rfl) ?_
  refine va_get (D := G.1) (ci := 7) (v := .ref (q 1)) (C := RX7) (T := TX7) (N := 9) hx hb hts hin7 hown hK.1 hP 0 rfl rfl 1 (by decide) f19 (fun _ h9 => h9) rfl dX7_bearing_1 ?_
  refine lv_iload_n hx hb dX7_bearing_4 rfl (lv_at hl 1 rfl) ?_
  refine lv_iload_n hx hb dX7_bearing_5 rfl (lv_at hl 2 rfl) ?_
  refine rd_i (va_runV (As := [.int x, .int y]) (rest := []) ⟨hx, hb, hml, hown, hts⟩ (c_X1_isPlace l G (q 1) vL qL pk x y) (cwV 2 hts gX7_bearing_X1_isPlace rfl rfl rfl (by decide +kernel) ⟨Nat.le_of_ble_eq_true rfl, Nat.le_of_ble_eq_true rfl⟩) (rPre_V hK hP [1, 4] rfl 0 1 rfl rfl) rfl rfl hl.1 rfl (lv_room (Nat.le_of_ble_eq_true rfl)) dX7_bearing_6 ⟨Nat.zero_le _, Nat.zero_le _⟩) (fun r_6 q_6 => ?_)
  obtain rfl : r_6 = b2i (pPlace pk x y) := q_6
  refine lv_if_eq (tgt := 23) hx hb dX7_bearing_9 (by decide) (fun c_9 => ?_) (fun c_9 => ?_)
  · have c_9 : (pPlace pk x y) = false := b2i_0.mp c_9
    refine lv_iconst (v := -1) hx hb dX7_bearing_23 (by decide) ?_
    have hpost : (-1 : Int32) = beR pk xs ys n x y z := by
      simp [beR, c_9]
    exact hret _ _ _ (hpost) (rfl) dX7_bearing_24
  · have c_9 : (pPlace pk x y) = true := b2i_n0.mp c_9
    obtain ⟨X, Y, hX, hY, rfl, rfl, hpk0⟩ := pPlace_t c_9
    refine lv_aload_n hx hb dX7_bearing_12 rfl (lv_at hl 0 rfl) ?_
    refine va_get (D := G.1) (ci := 7) (v := .ref (q 1)) (C := RX7) (T := TX7) (N := 9) hx hb hts hin7 hown hK.1 hP 0 rfl rfl 1 (by decide) f19 (fun _ h9 => h9) rfl dX7_bearing_13 ?_
    refine lv_iload_n hx hb dX7_bearing_16 rfl (lv_at hl 3 rfl) ?_
    refine rd_i (va_runV (As := [.int z]) (rest := []) ⟨hx, hb, hml, hown, hts⟩ (c_X1_hasPeak l G (q 1) vL qL z) (cwV 1 hts gX7_bearing_X1_hasPeak rfl rfl rfl (by decide +kernel) ⟨Nat.le_of_ble_eq_true rfl, Nat.le_of_ble_eq_true rfl⟩) (rPre_V hK hP [1] rfl 0 1 rfl rfl) rfl rfl hl.1 rfl (lv_room (Nat.le_of_ble_eq_true rfl)) dX7_bearing_17 ⟨Nat.zero_le _, Nat.zero_le _⟩) (fun r_17 q_17 => ?_)
    obtain rfl : r_17 = b2i (pHas (vL 3) z) := q_17
    refine lv_if_ne (tgt := 25) hx hb dX7_bearing_20 (by decide) (fun c_20 => ?_) (fun c_20 => ?_)
    · have c_20 : (pHas (vL 3) z) = true := b2i_n0.mp c_20
      rw [hn1] at c_20
      obtain ⟨p, hp0, rfl⟩ := pHas_of (by omega) c_20
      refine lv_aload_n hx hb dX7_bearing_25 rfl (lv_at hl 0 rfl) ?_
      refine va_get (D := G.1) (ci := 7) (v := .ref (q 1)) (C := RX7) (T := TX7) (N := 9) hx hb hts hin7 hown hK.1 hP 0 rfl rfl 1 (by decide) f19 (fun _ h9 => h9) rfl dX7_bearing_26 ?_
      refine lv_iload_n hx hb dX7_bearing_29 rfl (lv_at hl 1 rfl) ?_
      refine lv_iload_n hx hb dX7_bearing_30 rfl (lv_at hl 2 rfl) ?_
      refine rd_i (va_runS (As := [.int (nI X), .int (nI Y)]) (rest := [.ref (q 1)]) ⟨hx, hb, hml, hown, hts⟩ (c_X7_pointOf l G (nI X) (nI Y)) (va_cwS 2 hts gX7_bearing_X7_pointOf rfl rfl rfl (by decide +kernel) ⟨Nat.le_of_ble_eq_true rfl, Nat.le_of_ble_eq_true rfl⟩) (rPre_S hK hP [] rfl) rfl rfl hl.1 rfl (lv_room (Nat.le_of_ble_eq_true rfl)) dX7_bearing_31 ⟨Nat.zero_le _, Nat.zero_le _⟩) (fun r_31 q_31 => ?_)
      obtain rfl : r_31 = (nI X) * 8 + (nI Y) := q_31
      refine top_i (y := nI (X * 8 + Y)) (mul8 X Y) ?_
      refine lv_iload_n hx hb dX7_bearing_34 rfl (lv_at hl 3 rfl) ?_
      refine rd_i (va_runV (As := [.int (nI (X * 8 + Y)), .int (nI p)]) (rest := []) ⟨hx, hb, hml, hown, hts⟩ (c_X1_bearingFrom l G (q 1) vL qL xs ys (X * 8 + Y) p (by omega) (by omega)) (cwV 2 hts gX7_bearing_X1_bearingFrom rfl rfl rfl (by decide +kernel) ⟨Nat.le_of_ble_eq_true rfl, Nat.le_of_ble_eq_true rfl⟩) (rPre_V hK hP [1, 2, 3] rfl 0 1 rfl rfl) rfl rfl hl.1 rfl (lv_room (Nat.le_of_ble_eq_true rfl)) dX7_bearing_35 ⟨Nat.zero_le _, Nat.zero_le _⟩) (fun r_35 q_35 => ?_)
      obtain rfl : r_35 = gbear (gx xs (X * 8 + Y) p) (gy ys (X * 8 + Y) p) := q_35
      have hpost : (gbear (gx xs (X * 8 + Y) p) (gy ys (X * 8 + Y) p) : Int32) = beR pk xs ys n (nI X) (nI Y) (nI p) := by
        rw [beR, c_9, c_20, ptN_nI hX hY, nI_clamp (by omega)]
        rfl
      exact hret _ _ _ (hpost) (rfl) dX7_bearing_38
    · have c_20 : (pHas (vL 3) z) = false := b2i_0.mp c_20
      rw [hn1] at c_20
      refine lv_iconst (v := -1) hx hb dX7_bearing_23 (by decide) ?_
      have hpost : (-1 : Int32) = beR pk xs ys n (nI X) (nI Y) z := by
        simp [beR, c_9, c_20]
      exact hret _ _ _ (hpost) (rfl) dX7_bearing_24

abbrev rX7_stands : Room := { frames := 3, cells := 0, slots := 0, locals := 67 }
set_option maxHeartbeats 4000000 in
set_option maxRecDepth 100000 in
theorem c_X7_stands (l : Launch) (G : kG) (h : Nat) (v : Nat → Int32) (q : Nat → Nat) (vL : Nat → Int32) (qL : Nat → Nat) (xs : Nat → Int32) (ys : Nat → Int32) (hs : Nat → Int32) (pk : Nat → Int32) (x : Int32) (y : Int32) (z : Int32) (n : Nat) (hn1 : vL 3 = nI n) (hn : n ≤ 10) : Ri l G yX7_stands wsX7_stands rX7_stands [.ref h, .int x, .int y, .int z] [oB h 7 (oF7 v q), oB (q 1) 1 (oF1 vL qL), aI G (qL 0) 10 xs, aI G (qL 1) 10 ys, aI G (qL 2) 10 hs, aZ G (qL 8) 64 pk] (fun r => r = stR pk xs ys hs n x y z) := by
  refine Ri.of (cc := cX7_stands) (maxL := 4) (by decide) rfl (Nat.le_of_ble_eq_true rfl) ?_
  intro pM eM sM mM bM tM cM Q hx hb hts hown hml hP hK hret ls hl
  have hown : sM.vm.findClass RX7 = some mM.cls := hown
  have hl : lv_has ls 4 [(0, .ref h), (1, .int x), (2, .int y), (3, .int z)] := hl
  have hin7 : ∀ w ∈ u_ws RX7 TX7 9, w ∈ wsX7_stands := by decide +kernel
  have f19 := hts (.fieldLink RX7 19 "HorizonPeaks" "land" "LHorizonPeaks$Land;") (by decide +kernel)
  refine lv_aload_n hx hb dX7_stands_0 rfl (lv_at hl 0 rfl) ?_
  refine va_get (D := G.1) (ci := 7) (v := .ref (q 1)) (C := RX7) (T := TX7) (N := 9) hx hb hts hin7 hown hK.1 hP 0 rfl rfl 1 (by decide) f19 (fun _ h9 => h9) rfl dX7_stands_1 ?_
  refine lv_iload_n hx hb dX7_stands_4 rfl (lv_at hl 1 rfl) ?_
  refine lv_iload_n hx hb dX7_stands_5 rfl (lv_at hl 2 rfl) ?_
  refine rd_i (va_runV (As := [.int x, .int y]) (rest := []) ⟨hx, hb, hml, hown, hts⟩ (c_X1_isPlace l G (q 1) vL qL pk x y) (cwV 2 hts gX7_stands_X1_isPlace rfl rfl rfl (by decide +kernel) ⟨Nat.le_of_ble_eq_true rfl, Nat.le_of_ble_eq_true rfl⟩) (rPre_V hK hP [1, 5] rfl 0 1 rfl rfl) rfl rfl hl.1 rfl (lv_room (Nat.le_of_ble_eq_true rfl)) dX7_stands_6 ⟨Nat.zero_le _, Nat.zero_le _⟩) (fun r_6 q_6 => ?_)
  obtain rfl : r_6 = b2i (pPlace pk x y) := q_6
  refine lv_if_eq (tgt := 23) hx hb dX7_stands_9 (by decide) (fun c_9 => ?_) (fun c_9 => ?_)
  · have c_9 : (pPlace pk x y) = false := b2i_0.mp c_9
    refine lv_iconst (v := -1) hx hb dX7_stands_23 (by decide) ?_
    have hpost : (-1 : Int32) = stR pk xs ys hs n x y z := by
      simp [stR, c_9]
    exact hret _ _ _ (hpost) (rfl) dX7_stands_24
  · have c_9 : (pPlace pk x y) = true := b2i_n0.mp c_9
    obtain ⟨X, Y, hX, hY, rfl, rfl, hpk0⟩ := pPlace_t c_9
    refine lv_aload_n hx hb dX7_stands_12 rfl (lv_at hl 0 rfl) ?_
    refine va_get (D := G.1) (ci := 7) (v := .ref (q 1)) (C := RX7) (T := TX7) (N := 9) hx hb hts hin7 hown hK.1 hP 0 rfl rfl 1 (by decide) f19 (fun _ h9 => h9) rfl dX7_stands_13 ?_
    refine lv_iload_n hx hb dX7_stands_16 rfl (lv_at hl 3 rfl) ?_
    refine rd_i (va_runV (As := [.int z]) (rest := []) ⟨hx, hb, hml, hown, hts⟩ (c_X1_hasPeak l G (q 1) vL qL z) (cwV 1 hts gX7_stands_X1_hasPeak rfl rfl rfl (by decide +kernel) ⟨Nat.le_of_ble_eq_true rfl, Nat.le_of_ble_eq_true rfl⟩) (rPre_V hK hP [1] rfl 0 1 rfl rfl) rfl rfl hl.1 rfl (lv_room (Nat.le_of_ble_eq_true rfl)) dX7_stands_17 ⟨Nat.zero_le _, Nat.zero_le _⟩) (fun r_17 q_17 => ?_)
    obtain rfl : r_17 = b2i (pHas (vL 3) z) := q_17
    refine lv_if_ne (tgt := 25) hx hb dX7_stands_20 (by decide) (fun c_20 => ?_) (fun c_20 => ?_)
    · have c_20 : (pHas (vL 3) z) = true := b2i_n0.mp c_20
      rw [hn1] at c_20
      obtain ⟨p, hp0, rfl⟩ := pHas_of (by omega) c_20
      refine lv_aload_n hx hb dX7_stands_25 rfl (lv_at hl 0 rfl) ?_
      refine va_get (D := G.1) (ci := 7) (v := .ref (q 1)) (C := RX7) (T := TX7) (N := 9) hx hb hts hin7 hown hK.1 hP 0 rfl rfl 1 (by decide) f19 (fun _ h9 => h9) rfl dX7_stands_26 ?_
      refine lv_iload_n hx hb dX7_stands_29 rfl (lv_at hl 1 rfl) ?_
      refine lv_iload_n hx hb dX7_stands_30 rfl (lv_at hl 2 rfl) ?_
      refine rd_i (va_runS (As := [.int (nI X), .int (nI Y)]) (rest := [.ref (q 1)]) ⟨hx, hb, hml, hown, hts⟩ (c_X7_pointOf l G (nI X) (nI Y)) (va_cwS 2 hts gX7_stands_X7_pointOf rfl rfl rfl (by decide +kernel) ⟨Nat.le_of_ble_eq_true rfl, Nat.le_of_ble_eq_true rfl⟩) (rPre_S hK hP [] rfl) rfl rfl hl.1 rfl (lv_room (Nat.le_of_ble_eq_true rfl)) dX7_stands_31 ⟨Nat.zero_le _, Nat.zero_le _⟩) (fun r_31 q_31 => ?_)
      obtain rfl : r_31 = (nI X) * 8 + (nI Y) := q_31
      refine top_i (y := nI (X * 8 + Y)) (mul8 X Y) ?_
      refine lv_iload_n hx hb dX7_stands_34 rfl (lv_at hl 3 rfl) ?_
      refine rd_i (va_runV (As := [.int (nI (X * 8 + Y)), .int (nI p)]) (rest := []) ⟨hx, hb, hml, hown, hts⟩ (c_X1_heightFrom l G (q 1) vL qL xs ys hs (X * 8 + Y) p (by omega) (by omega)) (cwV 2 hts gX7_stands_X1_heightFrom rfl rfl rfl (by decide +kernel) ⟨Nat.le_of_ble_eq_true rfl, Nat.le_of_ble_eq_true rfl⟩) (rPre_V hK hP [1, 2, 3, 4] rfl 0 1 rfl rfl) rfl rfl hl.1 rfl (lv_room (Nat.le_of_ble_eq_true rfl)) dX7_stands_35 ⟨Nat.zero_le _, Nat.zero_le _⟩) (fun r_35 q_35 => ?_)
      obtain rfl : r_35 = gstand xs ys hs (X * 8 + Y) p := q_35
      have hpost : (gstand xs ys hs (X * 8 + Y) p : Int32) = stR pk xs ys hs n (nI X) (nI Y) (nI p) := by
        rw [stR, c_9, c_20, ptN_nI hX hY, nI_clamp (by omega)]
        rfl
      exact hret _ _ _ (hpost) (rfl) dX7_stands_38
    · have c_20 : (pHas (vL 3) z) = false := b2i_0.mp c_20
      rw [hn1] at c_20
      refine lv_iconst (v := -1) hx hb dX7_stands_23 (by decide) ?_
      have hpost : (-1 : Int32) = stR pk xs ys hs n (nI X) (nI Y) z := by
        simp [stR, c_9, c_20]
      exact hret _ _ _ (hpost) (rfl) dX7_stands_24

abbrev rX7_panorama : Room := { frames := 4, cells := 0, slots := 0, locals := 94 }
set_option maxHeartbeats 4000000 in
set_option maxRecDepth 100000 in
theorem c_X7_panorama (l : Launch) (G : kG) (h : Nat) (v : Nat → Int32) (q : Nat → Nat) (vL : Nat → Int32) (qL : Nat → Nat) (xs : Nat → Int32) (ys : Nat → Int32) (pk : Nat → Int32) (vis : Nat → Int32) (od : Nat → Int32) (x : Int32) (y : Int32) (z : Int32) (n : Nat) (hn1 : vL 3 = nI n) (hn : n ≤ 10) (hso : ∀ pt, pt < 64 → pk pt = 0 → SO (gahead xs ys pt) n) : Ci l G yX7_panorama wsX7_panorama rX7_panorama [.ref h, .int x, .int y, .int z] [oB h 7 (oF7 v q), oB (q 1) 1 (oF1 vL qL), aI G (qL 0) 10 xs, aI G (qL 1) 10 ys, aZ G (qL 8) 64 pk, aI G (qL 9) 64 vis, aI G (qL 10) 10 od] (fun r (u : (Nat → Int32)) => ((pPlace pk x y && !decide (z < -1)) = true → paQ (fvis vis (ptN x y)) (gahead xs ys (ptN x y)) n z r) ∧ ((pPlace pk x y && !decide (z < -1)) = false → r = -1)) (fun u => [oB h 7 (oF7 v q), oB (q 1) 1 (oF1 vL qL), aI G (qL 0) 10 xs, aI G (qL 1) 10 ys, aZ G (qL 8) 64 pk, aI G (qL 9) 64 vis, aI G (qL 10) 10 u]) := by
  refine Ci.of (cc := cX7_panorama) (maxL := 5) (by decide) rfl (Nat.le_of_ble_eq_true rfl) ?_
  intro pM eM sM mM bM tM cM Q A hx hb hts hown hml hA hK hP hD hS hret ls hl
  have hown : sM.vm.findClass RX7 = some mM.cls := hown
  have hl : lv_has ls 5 [(0, .ref h), (1, .int x), (2, .int y), (3, .int z)] := hl
  have hin1 : ∀ w ∈ u_ws RX1 TX1 11, w ∈ wsX7_panorama := by decide +kernel
  have hin7 : ∀ w ∈ u_ws RX7 TX7 9, w ∈ wsX7_panorama := by decide +kernel
  have f19 := hts (.fieldLink RX7 19 "HorizonPeaks" "land" "LHorizonPeaks$Land;") (by decide +kernel)
  have f151 := hts (.fieldLink RX7 151 "HorizonPeaks$Land" "order" "[I") (by decide +kernel)
  refine lv_aload_n hx hb dX7_panorama_0 rfl (lv_at hl 0 rfl) ?_
  refine va_get (D := G.1) (ci := 7) (v := .ref (q 1)) (C := RX7) (T := TX7) (N := 9) hx hb hts hin7 hown hK.1 hP 0 rfl rfl 1 (by decide) f19 (fun _ h9 => h9) rfl dX7_panorama_1 ?_
  refine lv_iload_n hx hb dX7_panorama_4 rfl (lv_at hl 1 rfl) ?_
  refine lv_iload_n hx hb dX7_panorama_5 rfl (lv_at hl 2 rfl) ?_
  refine rd_i (va_runV (As := [.int x, .int y]) (rest := []) ⟨hx, hb, hml, hown, hts⟩ (c_X1_isPlace l G (q 1) vL qL pk x y) (cwV 2 hts gX7_panorama_X1_isPlace rfl rfl rfl (by decide +kernel) ⟨Nat.le_of_ble_eq_true rfl, Nat.le_of_ble_eq_true rfl⟩) (rPre_V hK hP [1, 4] rfl 0 1 rfl rfl) rfl rfl hl.1 rfl (lv_room (Nat.le_of_ble_eq_true rfl)) dX7_panorama_6 ⟨Nat.zero_le _, Nat.zero_le _⟩) (fun r_6 q_6 => ?_)
  obtain rfl : r_6 = b2i (pPlace pk x y) := q_6
  refine lv_if_eq (tgt := 17) hx hb dX7_panorama_9 (by decide) (fun c_9 => ?_) (fun c_9 => ?_)
  · have c_9 : (pPlace pk x y) = false := b2i_0.mp c_9
    refine lv_iconst (v := -1) hx hb dX7_panorama_17 (by decide) ?_
    have hpost : ((pPlace pk x y && !decide (z < -1)) = true → paQ (fvis vis (ptN x y)) (gahead xs ys (ptN x y)) n z (-1 : Int32)) ∧ ((pPlace pk x y && !decide (z < -1)) = false → (-1 : Int32) = -1) := by
      refine ⟨fun h => ?_, fun _ => rfl⟩
      simp [c_9] at h
    exact hret _ od _ _ _ _ (hpost) (rfl) hP hD hS dX7_panorama_18
  · have c_9 : (pPlace pk x y) = true := b2i_n0.mp c_9
    obtain ⟨X, Y, hX, hY, rfl, rfl, hpk0⟩ := pPlace_t c_9
    refine lv_iload_n hx hb dX7_panorama_12 rfl (lv_at hl 3 rfl) ?_
    refine lv_iconst (v := -1) hx hb dX7_panorama_13 (by decide) ?_
    refine lv_icmp_ge (tgt := 19) hx hb dX7_panorama_14 (by decide) (fun c_14 => ?_) (fun c_14 => ?_)
    · have c_14 : ¬ z < -1 := fun hq => by rw [Int32.lt_iff_toInt_lt] at hq; rw [Int32.le_iff_toInt_le] at c_14; omega
      refine lv_aload_n hx hb dX7_panorama_19 rfl (lv_at hl 0 rfl) ?_
      refine va_get (D := G.1) (ci := 7) (v := .ref (q 1)) (C := RX7) (T := TX7) (N := 9) hx hb hts hin7 hown hK.1 hP 0 rfl rfl 1 (by decide) f19 (fun _ h9 => h9) rfl dX7_panorama_20 ?_
      refine lv_iload_n hx hb dX7_panorama_23 rfl (lv_at hl 1 rfl) ?_
      refine lv_iload_n hx hb dX7_panorama_24 rfl (lv_at hl 2 rfl) ?_
      refine rd_i (va_runS (As := [.int (nI X), .int (nI Y)]) (rest := [.ref (q 1)]) ⟨hx, hb, hml, hown, hts⟩ (c_X7_pointOf l G (nI X) (nI Y)) (va_cwS 2 hts gX7_panorama_X7_pointOf rfl rfl rfl (by decide +kernel) ⟨Nat.le_of_ble_eq_true rfl, Nat.le_of_ble_eq_true rfl⟩) (rPre_S hK hP [] rfl) rfl rfl hl.1 rfl (lv_room (Nat.le_of_ble_eq_true rfl)) dX7_panorama_25 ⟨Nat.zero_le _, Nat.zero_le _⟩) (fun r_25 q_25 => ?_)
      obtain rfl : r_25 = (nI X) * 8 + (nI Y) := q_25
      refine top_i (y := nI (X * 8 + Y)) (mul8 X Y) ?_
      refine ca_i (wr := [oB h 7 (oF7 v q), aZ G (qL 8) 64 pk]) (va_runV (As := [.int (nI (X * 8 + Y))]) (rest := []) ⟨hx, hb, hml, hown, hts⟩ ((c_X1_turnRound l G (q 1) vL qL xs ys vis od n (X * 8 + Y) (by omega) (hn1) (hn) (hso _ (by omega) hpk0)) _) (cwV 1 hts gX7_panorama_X1_turnRound rfl rfl rfl (by decide +kernel) ⟨Nat.le_of_ble_eq_true rfl, Nat.le_of_ble_eq_true rfl⟩) (cPre_V hK hP hD [1, 2, 3, 5, 6] (by decide) rfl 0 1 rfl rfl) rfl rfl hl.1 rfl (lv_room (Nat.le_of_ble_eq_true rfl)) dX7_panorama_28 ⟨Nat.zero_le _, Nat.zero_le _⟩) hP hD hS hA [1, 2, 3, 5, 6] [0, 4] rfl rfl (by decide) (by decide) [0, 2, 3, 4, 1, 5, 6] (fun u_28 => [oB h 7 (oF7 v q), oB (q 1) 1 (oF1 vL qL), aI G (qL 0) 10 xs, aI G (qL 1) 10 ys, aZ G (qL 8) 64 pk, aI G (qL 9) 64 vis, aI G (qL 10) 10 u_28]) (by decide) (fun _ => rfl) (fun r_28 u_28 H locs q_28 hP hD hS => ?_)
      have q_28 : ∃ mY oY, r_28 = nI mY ∧ mY ≤ n ∧ (∀ a, a < mY → u_28 a = nI (oY a)) ∧ Pan (fvis vis (X * 8 + Y)) (gahead xs ys (X * 8 + Y)) n mY oY := q_28
      have hP : va_P G.1 vwCl [oB h 7 (oF7 v q), oB (q 1) 1 (oF1 vL qL), aI G (qL 0) 10 xs, aI G (qL 1) 10 ys, aZ G (qL 8) 64 pk, aI G (qL 9) 64 vis, aI G (qL 10) 10 u_28] H := hP
      have hD : va_D A [oB h 7 (oF7 v q), oB (q 1) 1 (oF1 vL qL), aI G (qL 0) 10 xs, aI G (qL 1) 10 ys, aZ G (qL 8) 64 pk, aI G (qL 9) 64 vis, aI G (qL 10) 10 u_28] := hD
      obtain ⟨many, o, rfl, hmn, hod, hPan⟩ := q_28
      refine lv_istore (lv' := [(4, .int (nI many)), (0, .ref h), (1, .int (nI X)), (2, .int (nI Y)), (3, .int z)]) hx hb dX7_panorama_31 hl (by decide) rfl (fun ls hl => ?_)
      refine lv_iload_n hx hb dX7_panorama_33 rfl (lv_at hl 4 rfl) ?_
      refine lv_iconst (v := -1) hx hb dX7_panorama_34 (by decide) ?_
      refine lv_icmp_ne (tgt := 41) hx hb dX7_panorama_35 (by decide) (fun c_35 => ?_) (fun c_35 => ?_)
      · refine lv_iload_n hx hb dX7_panorama_41 rfl (lv_at hl 4 rfl) ?_
        refine lv_iload hx hb dX7_panorama_42 (lv_at hl 0 rfl) ?_
        refine lv_icmp_ge (tgt := 59) hx hb dX7_panorama_44 (by decide) (fun c_44 => ?_) (fun c_44 => ?_)
        · have c_44n : ¬ z < nI many := fun hq => by rw [Int32.lt_iff_toInt_lt] at hq; rw [Int32.le_iff_toInt_le] at c_44; omega
          refine lv_bipush (v := -9) hx hb dX7_panorama_59 (by decide) ?_
          have hpost : ((pPlace pk (nI X) (nI Y) && !decide (z < -1)) = true → paQ (fvis vis (ptN (nI X) (nI Y))) (gahead xs ys (ptN (nI X) (nI Y))) n z (-9 : Int32)) ∧ ((pPlace pk (nI X) (nI Y) && !decide (z < -1)) = false → (-9 : Int32) = -1) := by
            refine ⟨fun _ => ?_, fun h => absurd h (by rw [c_9]; simp [c_14])⟩
            rw [ptN_nI hX hY]
            exact ⟨many, o, hPan, hmn, by rw [if_neg c_35, if_neg c_44n]⟩
          exact hret _ u_28 _ _ _ _ (hpost) (rfl) hP hD hS dX7_panorama_61
        · have hzl : z < nI many := by rw [Int32.lt_iff_toInt_lt]; rw [Int32.le_iff_toInt_le] at c_44; omega
          have hz0 : ¬ z < 0 := z_nonneg c_14 c_35
          obtain ⟨k, hk31, rfl⟩ := nI_of hz0
          have hkm : k < many := (c_lt (a := k) (b := many) rfl rfl (by omega) (by omega)).mp hzl
          have hzm : ¬ nI k = -1 := c_35
          refine lv_aload_n hx hb dX7_panorama_47 rfl (lv_at hl 1 rfl) ?_
          refine va_get (D := G.1) (ci := 7) (v := .ref (q 1)) (C := RX7) (T := TX7) (N := 9) hx hb hts hin7 hown hK.1 hP 0 rfl rfl 1 (by decide) f19 (fun _ h9 => h9) rfl dX7_panorama_48 ?_
          refine va_get (D := G.1) (ci := 1) (v := .ref (qL 10)) (C := RX1) (T := TX1) (N := 11) hx hb hts hin1 hown hK.1 hP 1 rfl rfl 10 (by decide) f151 (fun _ h9 => h9) rfl dX7_panorama_51 ?_
          refine lv_iload_n hx hb dX7_panorama_54 rfl (lv_at hl 4 rfl) ?_
          refine al_i hx hb hK.1 hP 6 0 rfl rfl (j := k) (by omega) (Nat.le_of_ble_eq_true rfl) dX7_panorama_55 ?_
          refine top_i (y := nI (o k)) (hod k hkm) ?_
          refine lv_goto (tgt := 61) hx hb dX7_panorama_56 (by decide) ?_
          have hpost : ((pPlace pk (nI X) (nI Y) && !decide ((nI k) < -1)) = true → paQ (fvis vis (ptN (nI X) (nI Y))) (gahead xs ys (ptN (nI X) (nI Y))) n (nI k) (nI (o k) : Int32)) ∧ ((pPlace pk (nI X) (nI Y) && !decide ((nI k) < -1)) = false → (nI (o k) : Int32) = -1) := by
            refine ⟨fun _ => ?_, fun h => absurd h (by rw [c_9]; simp [c_14])⟩
            rw [ptN_nI hX hY]
            exact ⟨many, o, hPan, hmn, by rw [if_neg hzm, if_pos hzl, nI_clamp (by omega)]⟩
          exact hret _ u_28 _ _ _ _ (hpost) (rfl) hP hD hS dX7_panorama_61
      · refine lv_iload hx hb dX7_panorama_38 (lv_at hl 0 rfl) ?_
        have hpost : ((pPlace pk (nI X) (nI Y) && !decide (z < -1)) = true → paQ (fvis vis (ptN (nI X) (nI Y))) (gahead xs ys (ptN (nI X) (nI Y))) n z ((nI many) : Int32)) ∧ ((pPlace pk (nI X) (nI Y) && !decide (z < -1)) = false → ((nI many) : Int32) = -1) := by
          refine ⟨fun _ => ?_, fun h => absurd h (by rw [c_9]; simp [c_14])⟩
          rw [ptN_nI hX hY]
          exact ⟨many, o, hPan, hmn, by rw [c_35]; rfl⟩
        exact hret _ u_28 _ _ _ _ (hpost) (rfl) hP hD hS dX7_panorama_40
    · have c_14 : z < -1 := by rw [Int32.lt_iff_toInt_lt]; rw [Int32.le_iff_toInt_le] at c_14; omega
      refine lv_iconst (v := -1) hx hb dX7_panorama_17 (by decide) ?_
      have hpost : ((pPlace pk (nI X) (nI Y) && !decide (z < -1)) = true → paQ (fvis vis (ptN (nI X) (nI Y))) (gahead xs ys (ptN (nI X) (nI Y))) n z (-1 : Int32)) ∧ ((pPlace pk (nI X) (nI Y) && !decide (z < -1)) = false → (-1 : Int32) = -1) := by
        refine ⟨fun h => ?_, fun _ => rfl⟩
        simp [c_9, c_14] at h
      exact hret _ od _ _ _ _ (hpost) (rfl) hP hD hS dX7_panorama_18

abbrev rX7_keep : Room := { frames := 1, cells := 0, slots := 0, locals := 22 }
set_option maxHeartbeats 4000000 in
set_option maxRecDepth 100000 in
theorem c_X7_keep (l : Launch) (G : kG) (h : Nat) (v : Nat → Int32) (q : Nat → Nat) (vN : Nat → Int32) (qN : Nat → Nat) (bs : Nat → Int32) (zs : Nat → Int32) (im : Nat → Nat) (vI : Nat → Int32) (qI : Nat → Nat) (bI : Nat → Int32) (zI : Nat → Int32) (kp : Nat → Int32) (x : Int32) (NN : NL) (k0 : Nat) (hN : NRep NN vN bs zs) (hk0 : k0 < 2) (hx0 : imOk x = true → x = nI k0) : Ci l G yX7_keep wsX7_keep rX7_keep [.ref h, .int x] [oB h 7 (oF7 v q), oB (q 3) 3 (oF3 vN qN), aI G (qN 0) 8 bs, aI G (qN 1) 8 zs, aN G (q 7) 2 (fun k => some (im k)), oB (im k0) 3 (oF3 vI qI), aI G (qI 0) 8 bI, aI G (qI 1) 8 zI, aZ G (q 8) 2 kp] (fun r (u : (Nat → Int32) × (Nat → Int32) × (Nat → Int32) × (Nat → Int32)) => r = (if imOk x = true then nI NN.1 else -1) ∧ (imOk x = true → NRep NN u.1 u.2.1 u.2.2.1 ∧ u.2.2.2 = upd kp k0 1) ∧ (imOk x = false → u.1 = vI ∧ u.2.1 = bI ∧ u.2.2.1 = zI ∧ u.2.2.2 = kp)) (fun u => [oB h 7 (oF7 v q), oB (q 3) 3 (oF3 vN qN), aI G (qN 0) 8 bs, aI G (qN 1) 8 zs, aN G (q 7) 2 (fun k => some (im k)), oB (im k0) 3 (oF3 u.1 qI), aI G (qI 0) 8 u.2.1, aI G (qI 1) 8 u.2.2.1, aZ G (q 8) 2 u.2.2.2]) := by
  refine Ci.of (cc := cX7_keep) (maxL := 2) (by decide) rfl (Nat.le_of_ble_eq_true rfl) ?_
  intro pM eM sM mM bM tM cM Q A hx hb hts hown hml hA hK hP hD hS hret ls hl
  have hown : sM.vm.findClass RX7 = some mM.cls := hown
  have hl : lv_has ls 2 [(0, .ref h), (1, .int x)] := hl
  have hin3 : ∀ w ∈ u_ws RX3 TX3 3, w ∈ wsX7_keep := by decide +kernel
  have hin7 : ∀ w ∈ u_ws RX7 TX7 9, w ∈ wsX7_keep := by decide +kernel
  have f56 := hts (.fieldLink RX7 56 "HorizonPeaks" "images" "[LHorizonPeaks$Notches;") (by decide +kernel)
  have f29 := hts (.fieldLink RX7 29 "HorizonPeaks" "notches" "LHorizonPeaks$Notches;") (by decide +kernel)
  have f60 := hts (.fieldLink RX7 60 "HorizonPeaks" "imageKept" "[Z") (by decide +kernel)
  have f83 := hts (.fieldLink RX7 83 "HorizonPeaks$Notches" "size" "I") (by decide +kernel)
  have hn8 := hN.2.1
  refine lv_iload_n hx hb dX7_keep_0 rfl (lv_at hl 1 rfl) ?_
  refine lv_if_lt (tgt := 9) hx hb dX7_keep_1 (by decide) (fun c_1 => ?_) (fun c_1 => ?_)
  · refine lv_iconst (v := -1) hx hb dX7_keep_9 (by decide) ?_
    have hpost : (-1 : Int32) = (if imOk x = true then nI NN.1 else -1) ∧ (imOk x = true → NRep NN (vI, bI, zI, kp).1 (vI, bI, zI, kp).2.1 (vI, bI, zI, kp).2.2.1 ∧ (vI, bI, zI, kp).2.2.2 = upd kp k0 1) ∧ (imOk x = false → (vI, bI, zI, kp).1 = vI ∧ (vI, bI, zI, kp).2.1 = bI ∧ (vI, bI, zI, kp).2.2.1 = zI ∧ (vI, bI, zI, kp).2.2.2 = kp) := by
      have e : imOk x = false := by simp [imOk, c_1]
      exact ⟨by rw [e]; rfl, fun h => absurd h (ne_t e), fun _ => ⟨rfl, rfl, rfl, rfl⟩⟩
    exact hret _ (vI, bI, zI, kp) _ _ _ _ (hpost) (rfl) hP hD hS dX7_keep_10
  · refine lv_iload_n hx hb dX7_keep_4 rfl (lv_at hl 1 rfl) ?_
    refine lv_iconst (v := 2) hx hb dX7_keep_5 (by decide) ?_
    refine lv_icmp_lt (tgt := 11) hx hb dX7_keep_6 (by decide) (fun c_6 => ?_) (fun c_6 => ?_)
    · have hc6 := c_6
      have hx1 : x = nI k0 := hx0 (by simp [imOk, c_1, c_6])
      subst hx1
      refine lv_aload_n hx hb dX7_keep_11 rfl (lv_at hl 0 rfl) ?_
      refine va_get (D := G.1) (ci := 7) (v := .ref (q 7)) (C := RX7) (T := TX7) (N := 9) hx hb hts hin7 hown hK.1 hP 0 rfl rfl 7 (by decide) f56 (fun _ h9 => h9) rfl dX7_keep_12 ?_
      refine lv_iload_n hx hb dX7_keep_15 rfl (lv_at hl 1 rfl) ?_
      refine al_n hx hb hK.1 hP 4 3 rfl rfl (j := k0) (by omega) (Nat.le_of_ble_eq_true rfl) dX7_keep_16 ?_
      refine lv_aload_n hx hb dX7_keep_17 rfl (lv_at hl 0 rfl) ?_
      refine va_get (D := G.1) (ci := 7) (v := .ref (q 3)) (C := RX7) (T := TX7) (N := 9) hx hb hts hin7 hown hK.1 hP 0 rfl rfl 3 (by decide) f29 (fun _ h9 => h9) rfl dX7_keep_18 ?_
      refine ca_v (wr := [oB h 7 (oF7 v q), aN G (q 7) 2 (fun k => some (im k)), aZ G (q 8) 2 kp]) (va_runV (As := [.ref (q 3)]) (rest := []) ⟨hx, hb, hml, hown, hts⟩ ((c_X3_become l G (im k0) vI qI (q 3) vN qN bI zI bs zs NN.1 (hN.1) (hn8)) _) (cwV 1 hts gX7_keep_X3_become rfl rfl rfl (by decide +kernel) ⟨Nat.le_of_ble_eq_true rfl, Nat.le_of_ble_eq_true rfl⟩) (cPre_V hK hP hD [5, 6, 7, 1, 2, 3] (by decide) rfl 0 3 rfl rfl) rfl rfl hl.1 rfl (lv_room (Nat.le_of_ble_eq_true rfl)) dX7_keep_21 ⟨Nat.zero_le _, Nat.zero_le _⟩) hP hD hS hA [5, 6, 7, 1, 2, 3] [0, 4, 8] rfl rfl (by decide) (by decide) [0, 6, 7, 8, 1, 3, 4, 5, 2] (fun u_21 => [oB h 7 (oF7 v q), oB (q 3) 3 (oF3 vN qN), aI G (qN 0) 8 bs, aI G (qN 1) 8 zs, aN G (q 7) 2 (fun k => some (im k)), oB (im k0) 3 (oF3 (upd vI 2 (nI NN.1)) qI), aI G (qI 0) 8 u_21.1, aI G (qI 1) 8 u_21.2, aZ G (q 8) 2 kp]) (by decide) (fun _ => rfl) (fun u_21 H locs q_21 hP hD hS => ?_)
      have q_21 : ∀ i, i < NN.1 → u_21.1 i = bs i ∧ u_21.2 i = zs i := q_21
      have hP : va_P G.1 vwCl [oB h 7 (oF7 v q), oB (q 3) 3 (oF3 vN qN), aI G (qN 0) 8 bs, aI G (qN 1) 8 zs, aN G (q 7) 2 (fun k => some (im k)), oB (im k0) 3 (oF3 (upd vI 2 (nI NN.1)) qI), aI G (qI 0) 8 u_21.1, aI G (qI 1) 8 u_21.2, aZ G (q 8) 2 kp] H := hP
      have hD : va_D A [oB h 7 (oF7 v q), oB (q 3) 3 (oF3 vN qN), aI G (qN 0) 8 bs, aI G (qN 1) 8 zs, aN G (q 7) 2 (fun k => some (im k)), oB (im k0) 3 (oF3 (upd vI 2 (nI NN.1)) qI), aI G (qI 0) 8 u_21.1, aI G (qI 1) 8 u_21.2, aZ G (q 8) 2 kp] := hD
      refine lv_aload_n hx hb dX7_keep_24 rfl (lv_at hl 0 rfl) ?_
      refine va_get (D := G.1) (ci := 7) (v := .ref (q 8)) (C := RX7) (T := TX7) (N := 9) hx hb hts hin7 hown hK.1 hP 0 rfl rfl 8 (by decide) f60 (fun _ h9 => h9) rfl dX7_keep_25 ?_
      refine lv_iload_n hx hb dX7_keep_28 rfl (lv_at hl 1 rfl) ?_
      refine lv_iconst (v := 1) hx hb dX7_keep_29 (by decide) ?_
      refine as_z hx hb hK.1 hP hD hS 8 2 rfl rfl (j := k0) (rfl) (by omega) (Nat.le_of_ble_eq_true rfl) dX7_keep_30 (fun H locs hP hD hS => ?_)
      have hP : va_P G.1 vwCl [oB h 7 (oF7 v q), oB (q 3) 3 (oF3 vN qN), aI G (qN 0) 8 bs, aI G (qN 1) 8 zs, aN G (q 7) 2 (fun k => some (im k)), oB (im k0) 3 (oF3 (upd vI 2 (nI NN.1)) qI), aI G (qI 0) 8 u_21.1, aI G (qI 1) 8 u_21.2, aZ G (q 8) 2 (upd kp k0 1)] H := hP
      have hD : va_D A [oB h 7 (oF7 v q), oB (q 3) 3 (oF3 vN qN), aI G (qN 0) 8 bs, aI G (qN 1) 8 zs, aN G (q 7) 2 (fun k => some (im k)), oB (im k0) 3 (oF3 (upd vI 2 (nI NN.1)) qI), aI G (qI 0) 8 u_21.1, aI G (qI 1) 8 u_21.2, aZ G (q 8) 2 (upd kp k0 1)] := hD
      refine lv_aload_n hx hb dX7_keep_31 rfl (lv_at hl 0 rfl) ?_
      refine va_get (D := G.1) (ci := 7) (v := .ref (q 3)) (C := RX7) (T := TX7) (N := 9) hx hb hts hin7 hown hK.1 hP 0 rfl rfl 3 (by decide) f29 (fun _ h9 => h9) rfl dX7_keep_32 ?_
      refine va_get (D := G.1) (ci := 3) (v := .int (vN 2)) (C := RX3) (T := TX3) (N := 3) hx hb hts hin3 hown hK.1 hP 1 rfl rfl 2 (by decide) f83 (fun _ h9 => h9) rfl dX7_keep_35 ?_
      refine top_i (y := nI NN.1) (hN.1) ?_
      have hpost : (nI NN.1 : Int32) = (if imOk (nI k0) = true then nI NN.1 else -1) ∧ (imOk (nI k0) = true → NRep NN (upd vI 2 (nI NN.1), u_21.1, u_21.2, upd kp k0 1).1 (upd vI 2 (nI NN.1), u_21.1, u_21.2, upd kp k0 1).2.1 (upd vI 2 (nI NN.1), u_21.1, u_21.2, upd kp k0 1).2.2.1 ∧ (upd vI 2 (nI NN.1), u_21.1, u_21.2, upd kp k0 1).2.2.2 = upd kp k0 1) ∧ (imOk (nI k0) = false → (upd vI 2 (nI NN.1), u_21.1, u_21.2, upd kp k0 1).1 = vI ∧ (upd vI 2 (nI NN.1), u_21.1, u_21.2, upd kp k0 1).2.1 = bI ∧ (upd vI 2 (nI NN.1), u_21.1, u_21.2, upd kp k0 1).2.2.1 = zI ∧ (upd vI 2 (nI NN.1), u_21.1, u_21.2, upd kp k0 1).2.2.2 = kp) := by
        have e : imOk (nI k0) = true := by simp [imOk, c_1, hc6]
        exact ⟨by rw [e]; rfl, fun _ => ⟨hN.copy rfl (fun i hi => q_21 i hi), rfl⟩, fun h => absurd h (ne_f e)⟩
      exact hret _ (upd vI 2 (nI NN.1), u_21.1, u_21.2, upd kp k0 1) _ _ _ _ (hpost) (rfl) hP hD hS dX7_keep_38
    · refine lv_iconst (v := -1) hx hb dX7_keep_9 (by decide) ?_
      have hpost : (-1 : Int32) = (if imOk x = true then nI NN.1 else -1) ∧ (imOk x = true → NRep NN (vI, bI, zI, kp).1 (vI, bI, zI, kp).2.1 (vI, bI, zI, kp).2.2.1 ∧ (vI, bI, zI, kp).2.2.2 = upd kp k0 1) ∧ (imOk x = false → (vI, bI, zI, kp).1 = vI ∧ (vI, bI, zI, kp).2.1 = bI ∧ (vI, bI, zI, kp).2.2.1 = zI ∧ (vI, bI, zI, kp).2.2.2 = kp) := by
        have e : imOk x = false := by simp [imOk, c_1, c_6]
        exact ⟨by rw [e]; rfl, fun h => absurd h (ne_t e), fun _ => ⟨rfl, rfl, rfl, rfl⟩⟩
      exact hret _ (vI, bI, zI, kp) _ _ _ _ (hpost) (rfl) hP hD hS dX7_keep_10

abbrev rX7_back : Room := { frames := 1, cells := 0, slots := 0, locals := 22 }
set_option maxHeartbeats 4000000 in
set_option maxRecDepth 100000 in
theorem c_X7_back (l : Launch) (G : kG) (h : Nat) (v : Nat → Int32) (q : Nat → Nat) (vN : Nat → Int32) (qN : Nat → Nat) (bs : Nat → Int32) (zs : Nat → Int32) (vP : Nat → Int32) (qP : Nat → Nat) (vV : Nat → Int32) (qV : Nat → Nat) (im : Nat → Nat) (vI : Nat → Int32) (qI : Nat → Nat) (bI : Nat → Int32) (zI : Nat → Int32) (kp : Nat → Int32) (x : Int32) (NE : NL) (k0 : Nat) (hI : ¬ kp k0 = 0 → NRep NE vI bI zI) (hk0 : k0 < 2) (hx0 : imOk x = true → x = nI k0) : Ci l G yX7_back wsX7_back rX7_back [.ref h, .int x] [oB h 7 (oF7 v q), oB (q 3) 3 (oF3 vN qN), aI G (qN 0) 8 bs, aI G (qN 1) 8 zs, oB (q 4) 4 (oF4 vP qP), oB (q 5) 6 (oF6 vV qV), aN G (q 7) 2 (fun k => some (im k)), oB (im k0) 3 (oF3 vI qI), aI G (qI 0) 8 bI, aI G (qI 1) 8 zI, aZ G (q 8) 2 kp] (fun r (u : (Nat → Int32) × (Nat → Int32) × (Nat → Int32) × (Nat → Int32) × (Nat → Int32)) => r = (if imOk x = true then (if kp k0 = 0 then -2 else nI NE.1) else -1) ∧ (imOk x = true ∧ ¬ kp k0 = 0 → NRep NE u.1 u.2.1 u.2.2.1 ∧ u.2.2.2.1 2 = 0 ∧ u.2.2.2.1 1 = vP 1 ∧ u.2.2.2.2 4 = 0) ∧ (imOk x = false ∨ kp k0 = 0 → u.1 = vN ∧ u.2.1 = bs ∧ u.2.2.1 = zs ∧ u.2.2.2.1 = vP ∧ u.2.2.2.2 = vV)) (fun u => [oB h 7 (oF7 v q), oB (q 3) 3 (oF3 u.1 qN), aI G (qN 0) 8 u.2.1, aI G (qN 1) 8 u.2.2.1, oB (q 4) 4 (oF4 u.2.2.2.1 qP), oB (q 5) 6 (oF6 u.2.2.2.2 qV), aN G (q 7) 2 (fun k => some (im k)), oB (im k0) 3 (oF3 vI qI), aI G (qI 0) 8 bI, aI G (qI 1) 8 zI, aZ G (q 8) 2 kp]) := by
  refine Ci.of (cc := cX7_back) (maxL := 2) (by decide) rfl (Nat.le_of_ble_eq_true rfl) ?_
  intro pM eM sM mM bM tM cM Q A hx hb hts hown hml hA hK hP hD hS hret ls hl
  have hown : sM.vm.findClass RX7 = some mM.cls := hown
  have hl : lv_has ls 2 [(0, .ref h), (1, .int x)] := hl
  have hin3 : ∀ w ∈ u_ws RX3 TX3 3, w ∈ wsX7_back := by decide +kernel
  have hin4 : ∀ w ∈ u_ws RX4 TX4 3, w ∈ wsX7_back := by decide +kernel
  have hin6 : ∀ w ∈ u_ws RX6 TX6 10, w ∈ wsX7_back := by decide +kernel
  have hin7 : ∀ w ∈ u_ws RX7 TX7 9, w ∈ wsX7_back := by decide +kernel
  have f60 := hts (.fieldLink RX7 60 "HorizonPeaks" "imageKept" "[Z") (by decide +kernel)
  have f29 := hts (.fieldLink RX7 29 "HorizonPeaks" "notches" "LHorizonPeaks$Notches;") (by decide +kernel)
  have f56 := hts (.fieldLink RX7 56 "HorizonPeaks" "images" "[LHorizonPeaks$Notches;") (by decide +kernel)
  have f36 := hts (.fieldLink RX7 36 "HorizonPeaks" "past" "LHorizonPeaks$Past;") (by decide +kernel)
  have f86 := hts (.fieldLink RX7 86 "HorizonPeaks$Past" "size" "I") (by decide +kernel)
  have f45 := hts (.fieldLink RX7 45 "HorizonPeaks" "views" "LHorizonPeaks$Views;") (by decide +kernel)
  have f88 := hts (.fieldLink RX7 88 "HorizonPeaks$Views" "known" "Z") (by decide +kernel)
  have f83 := hts (.fieldLink RX7 83 "HorizonPeaks$Notches" "size" "I") (by decide +kernel)
  refine lv_iload_n hx hb dX7_back_0 rfl (lv_at hl 1 rfl) ?_
  refine lv_if_lt (tgt := 9) hx hb dX7_back_1 (by decide) (fun c_1 => ?_) (fun c_1 => ?_)
  · refine lv_iconst (v := -1) hx hb dX7_back_9 (by decide) ?_
    have hpost : (-1 : Int32) = (if imOk x = true then (if kp k0 = 0 then -2 else nI NE.1) else -1) ∧ (imOk x = true ∧ ¬ kp k0 = 0 → NRep NE (vN, bs, zs, vP, vV).1 (vN, bs, zs, vP, vV).2.1 (vN, bs, zs, vP, vV).2.2.1 ∧ (vN, bs, zs, vP, vV).2.2.2.1 2 = 0 ∧ (vN, bs, zs, vP, vV).2.2.2.1 1 = vP 1 ∧ (vN, bs, zs, vP, vV).2.2.2.2 4 = 0) ∧ (imOk x = false ∨ kp k0 = 0 → (vN, bs, zs, vP, vV).1 = vN ∧ (vN, bs, zs, vP, vV).2.1 = bs ∧ (vN, bs, zs, vP, vV).2.2.1 = zs ∧ (vN, bs, zs, vP, vV).2.2.2.1 = vP ∧ (vN, bs, zs, vP, vV).2.2.2.2 = vV) := by
      have e : imOk x = false := by simp [imOk, c_1]
      exact ⟨by rw [if_neg (ne_t e)], fun h => absurd h.1 (ne_t e), fun _ => ⟨rfl, rfl, rfl, rfl, rfl⟩⟩
    exact hret _ (vN, bs, zs, vP, vV) _ _ _ _ (hpost) (rfl) hP hD hS dX7_back_10
  · refine lv_iload_n hx hb dX7_back_4 rfl (lv_at hl 1 rfl) ?_
    refine lv_iconst (v := 2) hx hb dX7_back_5 (by decide) ?_
    refine lv_icmp_lt (tgt := 11) hx hb dX7_back_6 (by decide) (fun c_6 => ?_) (fun c_6 => ?_)
    · have hc6 := c_6
      have hx1 : x = nI k0 := hx0 (by simp [imOk, c_1, c_6])
      subst hx1
      refine lv_aload_n hx hb dX7_back_11 rfl (lv_at hl 0 rfl) ?_
      refine va_get (D := G.1) (ci := 7) (v := .ref (q 8)) (C := RX7) (T := TX7) (N := 9) hx hb hts hin7 hown hK.1 hP 0 rfl rfl 8 (by decide) f60 (fun _ h9 => h9) rfl dX7_back_12 ?_
      refine lv_iload_n hx hb dX7_back_15 rfl (lv_at hl 1 rfl) ?_
      refine al_z hx hb hK.1 hP 10 2 rfl rfl (j := k0) (by omega) (Nat.le_of_ble_eq_true rfl) dX7_back_16 ?_
      refine lv_if_ne (tgt := 23) hx hb dX7_back_17 (by decide) (fun c_17 => ?_) (fun c_17 => ?_)
      · refine lv_aload_n hx hb dX7_back_23 rfl (lv_at hl 0 rfl) ?_
        refine va_get (D := G.1) (ci := 7) (v := .ref (q 3)) (C := RX7) (T := TX7) (N := 9) hx hb hts hin7 hown hK.1 hP 0 rfl rfl 3 (by decide) f29 (fun _ h9 => h9) rfl dX7_back_24 ?_
        refine lv_aload_n hx hb dX7_back_27 rfl (lv_at hl 0 rfl) ?_
        refine va_get (D := G.1) (ci := 7) (v := .ref (q 7)) (C := RX7) (T := TX7) (N := 9) hx hb hts hin7 hown hK.1 hP 0 rfl rfl 7 (by decide) f56 (fun _ h9 => h9) rfl dX7_back_28 ?_
        refine lv_iload_n hx hb dX7_back_31 rfl (lv_at hl 1 rfl) ?_
        refine al_n hx hb hK.1 hP 6 3 rfl rfl (j := k0) (by omega) (Nat.le_of_ble_eq_true rfl) dX7_back_32 ?_
        refine ca_v (wr := [oB h 7 (oF7 v q), oB (q 4) 4 (oF4 vP qP), oB (q 5) 6 (oF6 vV qV), aN G (q 7) 2 (fun k => some (im k)), aZ G (q 8) 2 kp]) (va_runV (As := [.ref (im k0)]) (rest := []) ⟨hx, hb, hml, hown, hts⟩ ((c_X3_become l G (q 3) vN qN (im k0) vI qI bs zs bI zI NE.1 ((hI c_17).1) ((hI c_17).2.1)) _) (cwV 1 hts gX7_back_X3_become rfl rfl rfl (by decide +kernel) ⟨Nat.le_of_ble_eq_true rfl, Nat.le_of_ble_eq_true rfl⟩) (cPre_V hK hP hD [1, 2, 3, 7, 8, 9] (by decide) rfl 0 3 rfl rfl) rfl rfl hl.1 rfl (lv_room (Nat.le_of_ble_eq_true rfl)) dX7_back_33 ⟨Nat.zero_le _, Nat.zero_le _⟩) hP hD hS hA [1, 2, 3, 7, 8, 9] [0, 4, 5, 6, 10] rfl rfl (by decide) (by decide) [0, 5, 6, 7, 1, 2, 3, 8, 9, 10, 4] (fun u_33 => [oB h 7 (oF7 v q), oB (q 3) 3 (oF3 (upd vN 2 (nI NE.1)) qN), aI G (qN 0) 8 u_33.1, aI G (qN 1) 8 u_33.2, oB (q 4) 4 (oF4 vP qP), oB (q 5) 6 (oF6 vV qV), aN G (q 7) 2 (fun k => some (im k)), oB (im k0) 3 (oF3 vI qI), aI G (qI 0) 8 bI, aI G (qI 1) 8 zI, aZ G (q 8) 2 kp]) (by decide) (fun _ => rfl) (fun u_33 H locs q_33 hP hD hS => ?_)
        have q_33 : ∀ i, i < NE.1 → u_33.1 i = bI i ∧ u_33.2 i = zI i := q_33
        have hP : va_P G.1 vwCl [oB h 7 (oF7 v q), oB (q 3) 3 (oF3 (upd vN 2 (nI NE.1)) qN), aI G (qN 0) 8 u_33.1, aI G (qN 1) 8 u_33.2, oB (q 4) 4 (oF4 vP qP), oB (q 5) 6 (oF6 vV qV), aN G (q 7) 2 (fun k => some (im k)), oB (im k0) 3 (oF3 vI qI), aI G (qI 0) 8 bI, aI G (qI 1) 8 zI, aZ G (q 8) 2 kp] H := hP
        have hD : va_D A [oB h 7 (oF7 v q), oB (q 3) 3 (oF3 (upd vN 2 (nI NE.1)) qN), aI G (qN 0) 8 u_33.1, aI G (qN 1) 8 u_33.2, oB (q 4) 4 (oF4 vP qP), oB (q 5) 6 (oF6 vV qV), aN G (q 7) 2 (fun k => some (im k)), oB (im k0) 3 (oF3 vI qI), aI G (qI 0) 8 bI, aI G (qI 1) 8 zI, aZ G (q 8) 2 kp] := hD
        refine lv_aload_n hx hb dX7_back_36 rfl (lv_at hl 0 rfl) ?_
        refine va_get (D := G.1) (ci := 7) (v := .ref (q 4)) (C := RX7) (T := TX7) (N := 9) hx hb hts hin7 hown hK.1 hP 0 rfl rfl 4 (by decide) f36 (fun _ h9 => h9) rfl dX7_back_37 ?_
        refine lv_iconst (v := 0) hx hb dX7_back_40 (by decide) ?_
        refine va_put (D := G.1) (ci := 4) (v := .int 0) (ty := .int) (C := RX4) (T := TX4) (N := 3) hx hb hts hin4 tyX4 tyX4_ok nmX4 hown hK.1 hP hD hS 4 rfl rfl 2 (by decide) f86 (fun _ h9 => h9) rfl (by decide +kernel) rfl rfl (Nat.le_of_ble_eq_true rfl) dX7_back_41 (fun H locs hP hD hS => ?_)
        have hP : va_P G.1 vwCl [oB h 7 (oF7 v q), oB (q 3) 3 (oF3 (upd vN 2 (nI NE.1)) qN), aI G (qN 0) 8 u_33.1, aI G (qN 1) 8 u_33.2, oB (q 4) 4 (oF4 (upd vP 2 0) qP), oB (q 5) 6 (oF6 vV qV), aN G (q 7) 2 (fun k => some (im k)), oB (im k0) 3 (oF3 vI qI), aI G (qI 0) 8 bI, aI G (qI 1) 8 zI, aZ G (q 8) 2 kp] H := hP
        have hD : va_D A [oB h 7 (oF7 v q), oB (q 3) 3 (oF3 (upd vN 2 (nI NE.1)) qN), aI G (qN 0) 8 u_33.1, aI G (qN 1) 8 u_33.2, oB (q 4) 4 (oF4 (upd vP 2 0) qP), oB (q 5) 6 (oF6 vV qV), aN G (q 7) 2 (fun k => some (im k)), oB (im k0) 3 (oF3 vI qI), aI G (qI 0) 8 bI, aI G (qI 1) 8 zI, aZ G (q 8) 2 kp] := hD
        refine lv_aload_n hx hb dX7_back_44 rfl (lv_at hl 0 rfl) ?_
        refine va_get (D := G.1) (ci := 7) (v := .ref (q 5)) (C := RX7) (T := TX7) (N := 9) hx hb hts hin7 hown hK.1 hP 0 rfl rfl 5 (by decide) f45 (fun _ h9 => h9) rfl dX7_back_45 ?_
        refine lv_iconst (v := 0) hx hb dX7_back_48 (by decide) ?_
        refine va_put (D := G.1) (ci := 6) (v := .int 0) (ty := .boolean) (C := RX6) (T := TX6) (N := 10) hx hb hts hin6 tyX6 tyX6_ok nmX6 hown hK.1 hP hD hS 5 rfl rfl 4 (by decide) f88 (fun _ h9 => h9) rfl (by decide +kernel) rfl rfl (Nat.le_of_ble_eq_true rfl) dX7_back_49 (fun H locs hP hD hS => ?_)
        have hP : va_P G.1 vwCl [oB h 7 (oF7 v q), oB (q 3) 3 (oF3 (upd vN 2 (nI NE.1)) qN), aI G (qN 0) 8 u_33.1, aI G (qN 1) 8 u_33.2, oB (q 4) 4 (oF4 (upd vP 2 0) qP), oB (q 5) 6 (oF6 (upd vV 4 0) qV), aN G (q 7) 2 (fun k => some (im k)), oB (im k0) 3 (oF3 vI qI), aI G (qI 0) 8 bI, aI G (qI 1) 8 zI, aZ G (q 8) 2 kp] H := hP
        have hD : va_D A [oB h 7 (oF7 v q), oB (q 3) 3 (oF3 (upd vN 2 (nI NE.1)) qN), aI G (qN 0) 8 u_33.1, aI G (qN 1) 8 u_33.2, oB (q 4) 4 (oF4 (upd vP 2 0) qP), oB (q 5) 6 (oF6 (upd vV 4 0) qV), aN G (q 7) 2 (fun k => some (im k)), oB (im k0) 3 (oF3 vI qI), aI G (qI 0) 8 bI, aI G (qI 1) 8 zI, aZ G (q 8) 2 kp] := hD
        refine lv_aload_n hx hb dX7_back_52 rfl (lv_at hl 0 rfl) ?_
        refine va_get (D := G.1) (ci := 7) (v := .ref (q 3)) (C := RX7) (T := TX7) (N := 9) hx hb hts hin7 hown hK.1 hP 0 rfl rfl 3 (by decide) f29 (fun _ h9 => h9) rfl dX7_back_53 ?_
        refine va_get (D := G.1) (ci := 3) (v := .int (nI NE.1)) (C := RX3) (T := TX3) (N := 3) hx hb hts hin3 hown hK.1 hP 1 rfl rfl 2 (by decide) f83 (fun _ h9 => h9) rfl dX7_back_56 ?_
        have hpost : (nI NE.1 : Int32) = (if imOk (nI k0) = true then (if kp k0 = 0 then -2 else nI NE.1) else -1) ∧ (imOk (nI k0) = true ∧ ¬ kp k0 = 0 → NRep NE (upd vN 2 (nI NE.1), u_33.1, u_33.2, upd vP 2 0, upd vV 4 0).1 (upd vN 2 (nI NE.1), u_33.1, u_33.2, upd vP 2 0, upd vV 4 0).2.1 (upd vN 2 (nI NE.1), u_33.1, u_33.2, upd vP 2 0, upd vV 4 0).2.2.1 ∧ (upd vN 2 (nI NE.1), u_33.1, u_33.2, upd vP 2 0, upd vV 4 0).2.2.2.1 2 = 0 ∧ (upd vN 2 (nI NE.1), u_33.1, u_33.2, upd vP 2 0, upd vV 4 0).2.2.2.1 1 = vP 1 ∧ (upd vN 2 (nI NE.1), u_33.1, u_33.2, upd vP 2 0, upd vV 4 0).2.2.2.2 4 = 0) ∧ (imOk (nI k0) = false ∨ kp k0 = 0 → (upd vN 2 (nI NE.1), u_33.1, u_33.2, upd vP 2 0, upd vV 4 0).1 = vN ∧ (upd vN 2 (nI NE.1), u_33.1, u_33.2, upd vP 2 0, upd vV 4 0).2.1 = bs ∧ (upd vN 2 (nI NE.1), u_33.1, u_33.2, upd vP 2 0, upd vV 4 0).2.2.1 = zs ∧ (upd vN 2 (nI NE.1), u_33.1, u_33.2, upd vP 2 0, upd vV 4 0).2.2.2.1 = vP ∧ (upd vN 2 (nI NE.1), u_33.1, u_33.2, upd vP 2 0, upd vV 4 0).2.2.2.2 = vV) := by
          have e : imOk (nI k0) = true := by simp [imOk, c_1, hc6]
          have hE := hI c_17
          exact ⟨by rw [if_pos e, if_neg c_17], fun _ => ⟨hE.copy rfl (fun i hi => q_33 i hi), rfl, rfl, rfl⟩, fun h => absurd (h.resolve_left (ne_f e)) c_17⟩
        exact hret _ (upd vN 2 (nI NE.1), u_33.1, u_33.2, upd vP 2 0, upd vV 4 0) _ _ _ _ (hpost) (rfl) hP hD hS dX7_back_59
      · refine lv_bipush (v := -2) hx hb dX7_back_20 (by decide) ?_
        have hpost : (-2 : Int32) = (if imOk (nI k0) = true then (if kp k0 = 0 then -2 else nI NE.1) else -1) ∧ (imOk (nI k0) = true ∧ ¬ kp k0 = 0 → NRep NE (vN, bs, zs, vP, vV).1 (vN, bs, zs, vP, vV).2.1 (vN, bs, zs, vP, vV).2.2.1 ∧ (vN, bs, zs, vP, vV).2.2.2.1 2 = 0 ∧ (vN, bs, zs, vP, vV).2.2.2.1 1 = vP 1 ∧ (vN, bs, zs, vP, vV).2.2.2.2 4 = 0) ∧ (imOk (nI k0) = false ∨ kp k0 = 0 → (vN, bs, zs, vP, vV).1 = vN ∧ (vN, bs, zs, vP, vV).2.1 = bs ∧ (vN, bs, zs, vP, vV).2.2.1 = zs ∧ (vN, bs, zs, vP, vV).2.2.2.1 = vP ∧ (vN, bs, zs, vP, vV).2.2.2.2 = vV) := by
          have e : imOk (nI k0) = true := by simp [imOk, c_1, hc6]
          exact ⟨by rw [if_pos e, if_pos c_17], fun h => absurd c_17 h.2, fun _ => ⟨rfl, rfl, rfl, rfl, rfl⟩⟩
        exact hret _ (vN, bs, zs, vP, vV) _ _ _ _ (hpost) (rfl) hP hD hS dX7_back_22
    · refine lv_iconst (v := -1) hx hb dX7_back_9 (by decide) ?_
      have hpost : (-1 : Int32) = (if imOk x = true then (if kp k0 = 0 then -2 else nI NE.1) else -1) ∧ (imOk x = true ∧ ¬ kp k0 = 0 → NRep NE (vN, bs, zs, vP, vV).1 (vN, bs, zs, vP, vV).2.1 (vN, bs, zs, vP, vV).2.2.1 ∧ (vN, bs, zs, vP, vV).2.2.2.1 2 = 0 ∧ (vN, bs, zs, vP, vV).2.2.2.1 1 = vP 1 ∧ (vN, bs, zs, vP, vV).2.2.2.2 4 = 0) ∧ (imOk x = false ∨ kp k0 = 0 → (vN, bs, zs, vP, vV).1 = vN ∧ (vN, bs, zs, vP, vV).2.1 = bs ∧ (vN, bs, zs, vP, vV).2.2.1 = zs ∧ (vN, bs, zs, vP, vV).2.2.2.1 = vP ∧ (vN, bs, zs, vP, vV).2.2.2.2 = vV) := by
        have e : imOk x = false := by simp [imOk, c_1, c_6]
        exact ⟨by rw [if_neg (ne_t e)], fun h => absurd h.1 (ne_t e), fun _ => ⟨rfl, rfl, rfl, rfl, rfl⟩⟩
      exact hret _ (vN, bs, zs, vP, vV) _ _ _ _ (hpost) (rfl) hP hD hS dX7_back_10

abbrev rX7_clouds : Room := { frames := 2, cells := 0, slots := 0, locals := 43 }
set_option maxHeartbeats 4000000 in
set_option maxRecDepth 100000 in
theorem c_X7_clouds (l : Launch) (G : kG) (h : Nat) (v : Nat → Int32) (q : Nat → Nat) (vL : Nat → Int32) (qL : Nat → Nat) (pk : Nat → Int32) (vC : Nat → Int32) (qC : Nat → Nat) (cp : Nat → Int32) (cl : Nat → Int32) (cw : Nat → Int32) (x : Int32) (y : Int32) (z : Int32) (w : Int32) (cc : Nat) (cpt : Nat → Nat) (clk : Nat → Nat) (cwh : Nat → Bool) (hC : CRep cc cpt clk cwh vC cp cl cw) : Ci l G yX7_clouds wsX7_clouds rX7_clouds [.ref h, .int x, .int y, .int z, .int w] [oB h 7 (oF7 v q), oB (q 1) 1 (oF1 vL qL), aZ G (qL 8) 64 pk, oB (q 6) 0 (oF0 vC qC), aI G (qC 0) 6 cp, aI G (qC 1) 6 cl, aZ G (qC 2) 6 cw] (fun r (u : (Nat → Int32) × (Nat → Int32) × (Nat → Int32) × (Nat → Int32)) => r = clR pk cc x y z w ∧ (clO pk x y z w = true ∧ cc < 6 → CRep (cc + 1) (updN cpt cc (ptN x y)) (updN clk cc z.toNatClampNeg) (updB cwh cc (decide (w = 1))) u.1 u.2.1 u.2.2.1 u.2.2.2) ∧ (clO pk x y z w = false ∨ ¬ cc < 6 → u.1 = vC ∧ u.2.1 = cp ∧ u.2.2.1 = cl ∧ u.2.2.2 = cw)) (fun u => [oB h 7 (oF7 v q), oB (q 1) 1 (oF1 vL qL), aZ G (qL 8) 64 pk, oB (q 6) 0 (oF0 u.1 qC), aI G (qC 0) 6 u.2.1, aI G (qC 1) 6 u.2.2.1, aZ G (qC 2) 6 u.2.2.2]) := by
  refine Ci.of (cc := cX7_clouds) (maxL := 5) (by decide) rfl (Nat.le_of_ble_eq_true rfl) ?_
  intro pM eM sM mM bM tM cM Q A hx hb hts hown hml hA hK hP hD hS hret ls hl
  have hown : sM.vm.findClass RX7 = some mM.cls := hown
  have hl : lv_has ls 5 [(0, .ref h), (1, .int x), (2, .int y), (3, .int z), (4, .int w)] := hl
  have hin0 : ∀ w ∈ u_ws RX0 TX0 4, w ∈ wsX7_clouds := by decide +kernel
  have hin7 : ∀ w ∈ u_ws RX7 TX7 9, w ∈ wsX7_clouds := by decide +kernel
  have f19 := hts (.fieldLink RX7 19 "HorizonPeaks" "land" "LHorizonPeaks$Land;") (by decide +kernel)
  have f52 := hts (.fieldLink RX7 52 "HorizonPeaks" "told" "LHorizonPeaks$Clouds;") (by decide +kernel)
  have f87 := hts (.fieldLink RX7 87 "HorizonPeaks$Clouds" "size" "I") (by decide +kernel)
  have hc6 := hC.2.1
  refine lv_aload_n hx hb dX7_clouds_0 rfl (lv_at hl 0 rfl) ?_
  refine va_get (D := G.1) (ci := 7) (v := .ref (q 1)) (C := RX7) (T := TX7) (N := 9) hx hb hts hin7 hown hK.1 hP 0 rfl rfl 1 (by decide) f19 (fun _ h9 => h9) rfl dX7_clouds_1 ?_
  refine lv_iload_n hx hb dX7_clouds_4 rfl (lv_at hl 1 rfl) ?_
  refine lv_iload_n hx hb dX7_clouds_5 rfl (lv_at hl 2 rfl) ?_
  refine rd_i (va_runV (As := [.int x, .int y]) (rest := []) ⟨hx, hb, hml, hown, hts⟩ (c_X1_isPlace l G (q 1) vL qL pk x y) (cwV 2 hts gX7_clouds_X1_isPlace rfl rfl rfl (by decide +kernel) ⟨Nat.le_of_ble_eq_true rfl, Nat.le_of_ble_eq_true rfl⟩) (rPre_V hK hP [1, 2] rfl 0 1 rfl rfl) rfl rfl hl.1 rfl (lv_room (Nat.le_of_ble_eq_true rfl)) dX7_clouds_6 ⟨Nat.zero_le _, Nat.zero_le _⟩) (fun r_6 q_6 => ?_)
  obtain rfl : r_6 = b2i (pPlace pk x y) := q_6
  refine lv_if_eq (tgt := 30) hx hb dX7_clouds_9 (by decide) (fun c_9 => ?_) (fun c_9 => ?_)
  · have c_9 : (pPlace pk x y) = false := b2i_0.mp c_9
    refine lv_iconst (v := -1) hx hb dX7_clouds_30 (by decide) ?_
    have hpost : (-1 : Int32) = clR pk cc x y z w ∧ (clO pk x y z w = true ∧ cc < 6 → CRep (cc + 1) (updN cpt cc (ptN x y)) (updN clk cc z.toNatClampNeg) (updB cwh cc (decide (w = 1))) (vC, cp, cl, cw).1 (vC, cp, cl, cw).2.1 (vC, cp, cl, cw).2.2.1 (vC, cp, cl, cw).2.2.2) ∧ (clO pk x y z w = false ∨ ¬ cc < 6 → (vC, cp, cl, cw).1 = vC ∧ (vC, cp, cl, cw).2.1 = cp ∧ (vC, cp, cl, cw).2.2.1 = cl ∧ (vC, cp, cl, cw).2.2.2 = cw) := by
      have e : clO pk x y z w = false := by simp [clO, isOk, c_9]
      exact ⟨by rw [clR, if_neg (ne_t e)], fun h => absurd h.1 (ne_t e), fun _ => ⟨rfl, rfl, rfl, rfl⟩⟩
    exact hret _ (vC, cp, cl, cw) _ _ _ _ (hpost) (rfl) hP hD hS dX7_clouds_31
  · have c_9 : (pPlace pk x y) = true := b2i_n0.mp c_9
    obtain ⟨X, Y, hX, hY, rfl, rfl, hpk0⟩ := pPlace_t c_9
    refine lv_iload_n hx hb dX7_clouds_12 rfl (lv_at hl 3 rfl) ?_
    refine rd_i (va_runS (As := [.int z]) (rest := []) ⟨hx, hb, hml, hown, hts⟩ (c_X7_isLook l G z) (va_cwS 1 hts gX7_clouds_X7_isLook rfl rfl rfl (by decide +kernel) ⟨Nat.le_of_ble_eq_true rfl, Nat.le_of_ble_eq_true rfl⟩) (rPre_S hK hP [] rfl) rfl rfl hl.1 rfl (lv_room (Nat.le_of_ble_eq_true rfl)) dX7_clouds_13 ⟨Nat.zero_le _, Nat.zero_le _⟩) (fun r_13 q_13 => ?_)
    obtain rfl : r_13 = b2i (pLook z) := q_13
    refine lv_if_eq (tgt := 30) hx hb dX7_clouds_16 (by decide) (fun c_16 => ?_) (fun c_16 => ?_)
    · have c_16 : (pLook z) = false := b2i_0.mp c_16
      refine lv_iconst (v := -1) hx hb dX7_clouds_30 (by decide) ?_
      have hpost : (-1 : Int32) = clR pk cc (nI X) (nI Y) z w ∧ (clO pk (nI X) (nI Y) z w = true ∧ cc < 6 → CRep (cc + 1) (updN cpt cc (ptN (nI X) (nI Y))) (updN clk cc z.toNatClampNeg) (updB cwh cc (decide (w = 1))) (vC, cp, cl, cw).1 (vC, cp, cl, cw).2.1 (vC, cp, cl, cw).2.2.1 (vC, cp, cl, cw).2.2.2) ∧ (clO pk (nI X) (nI Y) z w = false ∨ ¬ cc < 6 → (vC, cp, cl, cw).1 = vC ∧ (vC, cp, cl, cw).2.1 = cp ∧ (vC, cp, cl, cw).2.2.1 = cl ∧ (vC, cp, cl, cw).2.2.2 = cw) := by
        have e : clO pk (nI X) (nI Y) z w = false := by simp [clO, isOk, c_9, c_16]
        exact ⟨by rw [clR, if_neg (ne_t e)], fun h => absurd h.1 (ne_t e), fun _ => ⟨rfl, rfl, rfl, rfl⟩⟩
      exact hret _ (vC, cp, cl, cw) _ _ _ _ (hpost) (rfl) hP hD hS dX7_clouds_31
    · have c_16 : (pLook z) = true := b2i_n0.mp c_16
      obtain ⟨j0, hj0, rfl⟩ := pLook_of c_16
      refine lv_iload hx hb dX7_clouds_19 (lv_at hl 4 rfl) ?_
      refine lv_if_lt (tgt := 30) hx hb dX7_clouds_21 (by decide) (fun c_21 => ?_) (fun c_21 => ?_)
      · refine lv_iconst (v := -1) hx hb dX7_clouds_30 (by decide) ?_
        have hpost : (-1 : Int32) = clR pk cc (nI X) (nI Y) (nI j0) w ∧ (clO pk (nI X) (nI Y) (nI j0) w = true ∧ cc < 6 → CRep (cc + 1) (updN cpt cc (ptN (nI X) (nI Y))) (updN clk cc (nI j0).toNatClampNeg) (updB cwh cc (decide (w = 1))) (vC, cp, cl, cw).1 (vC, cp, cl, cw).2.1 (vC, cp, cl, cw).2.2.1 (vC, cp, cl, cw).2.2.2) ∧ (clO pk (nI X) (nI Y) (nI j0) w = false ∨ ¬ cc < 6 → (vC, cp, cl, cw).1 = vC ∧ (vC, cp, cl, cw).2.1 = cp ∧ (vC, cp, cl, cw).2.2.1 = cl ∧ (vC, cp, cl, cw).2.2.2 = cw) := by
          have e : clO pk (nI X) (nI Y) (nI j0) w = false := by simp [clO, isOk, c_9, c_16, c_21]
          exact ⟨by rw [clR, if_neg (ne_t e)], fun h => absurd h.1 (ne_t e), fun _ => ⟨rfl, rfl, rfl, rfl⟩⟩
        exact hret _ (vC, cp, cl, cw) _ _ _ _ (hpost) (rfl) hP hD hS dX7_clouds_31
      · refine lv_iload hx hb dX7_clouds_24 (lv_at hl 4 rfl) ?_
        refine lv_iconst (v := 1) hx hb dX7_clouds_26 (by decide) ?_
        refine lv_icmp_le (tgt := 32) hx hb dX7_clouds_27 (by decide) (fun c_27 => ?_) (fun c_27 => ?_)
        · refine lv_aload_n hx hb dX7_clouds_32 rfl (lv_at hl 0 rfl) ?_
          refine va_get (D := G.1) (ci := 7) (v := .ref (q 6)) (C := RX7) (T := TX7) (N := 9) hx hb hts hin7 hown hK.1 hP 0 rfl rfl 6 (by decide) f52 (fun _ h9 => h9) rfl dX7_clouds_33 ?_
          refine va_get (D := G.1) (ci := 0) (v := .int (vC 3)) (C := RX0) (T := TX0) (N := 4) hx hb hts hin0 hown hK.1 hP 3 rfl rfl 3 (by decide) f87 (fun _ h9 => h9) rfl dX7_clouds_36 ?_
          refine top_i (y := nI cc) (hC.1) ?_
          refine lv_bipush (v := 6) hx hb dX7_clouds_39 (by decide) ?_
          refine lv_icmp_lt (tgt := 47) hx hb dX7_clouds_41 (by decide) (fun c_41 => ?_) (fun c_41 => ?_)
          · have c_41 : cc < 6 := (c_lt (a := cc) (b := 6) rfl rfl (by omega) (by omega)).mp c_41
            refine lv_aload_n hx hb dX7_clouds_47 rfl (lv_at hl 0 rfl) ?_
            refine va_get (D := G.1) (ci := 7) (v := .ref (q 6)) (C := RX7) (T := TX7) (N := 9) hx hb hts hin7 hown hK.1 hP 0 rfl rfl 6 (by decide) f52 (fun _ h9 => h9) rfl dX7_clouds_48 ?_
            refine lv_iload_n hx hb dX7_clouds_51 rfl (lv_at hl 1 rfl) ?_
            refine lv_iload_n hx hb dX7_clouds_52 rfl (lv_at hl 2 rfl) ?_
            refine rd_i (va_runS (As := [.int (nI X), .int (nI Y)]) (rest := [.ref (q 6)]) ⟨hx, hb, hml, hown, hts⟩ (c_X7_pointOf l G (nI X) (nI Y)) (va_cwS 2 hts gX7_clouds_X7_pointOf rfl rfl rfl (by decide +kernel) ⟨Nat.le_of_ble_eq_true rfl, Nat.le_of_ble_eq_true rfl⟩) (rPre_S hK hP [] rfl) rfl rfl hl.1 rfl (lv_room (Nat.le_of_ble_eq_true rfl)) dX7_clouds_53 ⟨Nat.zero_le _, Nat.zero_le _⟩) (fun r_53 q_53 => ?_)
            obtain rfl : r_53 = (nI X) * 8 + (nI Y) := q_53
            refine top_i (y := nI (X * 8 + Y)) (mul8 X Y) ?_
            refine lv_iload_n hx hb dX7_clouds_56 rfl (lv_at hl 3 rfl) ?_
            refine lv_iload hx hb dX7_clouds_57 (lv_at hl 4 rfl) ?_
            refine lv_iconst (v := 1) hx hb dX7_clouds_59 (by decide) ?_
            refine lv_icmp_ne (tgt := 67) hx hb dX7_clouds_60 (by decide) (fun c_60 => ?_) (fun c_60 => ?_)
            · refine lv_iconst (v := 0) hx hb dX7_clouds_67 (by decide) ?_
              refine top_i (y := b2i false) rfl ?_
              refine ca_v (wr := [oB h 7 (oF7 v q), oB (q 1) 1 (oF1 vL qL), aZ G (qL 8) 64 pk]) (va_runV (As := [.int (nI (X * 8 + Y)), .int (nI j0), .int (b2i false)]) (rest := []) ⟨hx, hb, hml, hown, hts⟩ ((c_X0_append l G (q 6) vC qC cp cl cw cc (nI (X * 8 + Y)) (nI j0) false (hC.1) (by omega)) _) (cwV 3 hts gX7_clouds_X0_append rfl rfl rfl (by decide +kernel) ⟨Nat.le_of_ble_eq_true rfl, Nat.le_of_ble_eq_true rfl⟩) (cPre_V hK hP hD [3, 4, 5, 6] (by decide) rfl 0 0 rfl rfl) rfl rfl hl.1 rfl (lv_room (Nat.le_of_ble_eq_true rfl)) dX7_clouds_68 ⟨Nat.zero_le _, Nat.zero_le _⟩) hP hD hS hA [3, 4, 5, 6] [0, 1, 2] rfl rfl (by decide) (by decide) [0, 1, 2, 3, 4, 5, 6] (fun u_68 => [oB h 7 (oF7 v q), oB (q 1) 1 (oF1 vL qL), aZ G (qL 8) 64 pk, oB (q 6) 0 (oF0 (upd vC 3 (nI (cc + 1))) qC), aI G (qC 0) 6 (upd cp cc (nI (X * 8 + Y))), aI G (qC 1) 6 (upd cl cc (nI j0)), aZ G (qC 2) 6 (upd cw cc (b2i false))]) (by decide) (fun _ => rfl) (fun u_68 H locs q_68 hP hD hS => ?_)
              have hP : va_P G.1 vwCl [oB h 7 (oF7 v q), oB (q 1) 1 (oF1 vL qL), aZ G (qL 8) 64 pk, oB (q 6) 0 (oF0 (upd vC 3 (nI (cc + 1))) qC), aI G (qC 0) 6 (upd cp cc (nI (X * 8 + Y))), aI G (qC 1) 6 (upd cl cc (nI j0)), aZ G (qC 2) 6 (upd cw cc (b2i false))] H := hP
              have hD : va_D A [oB h 7 (oF7 v q), oB (q 1) 1 (oF1 vL qL), aZ G (qL 8) 64 pk, oB (q 6) 0 (oF0 (upd vC 3 (nI (cc + 1))) qC), aI G (qC 0) 6 (upd cp cc (nI (X * 8 + Y))), aI G (qC 1) 6 (upd cl cc (nI j0)), aZ G (qC 2) 6 (upd cw cc (b2i false))] := hD
              refine lv_aload_n hx hb dX7_clouds_71 rfl (lv_at hl 0 rfl) ?_
              refine va_get (D := G.1) (ci := 7) (v := .ref (q 6)) (C := RX7) (T := TX7) (N := 9) hx hb hts hin7 hown hK.1 hP 0 rfl rfl 6 (by decide) f52 (fun _ h9 => h9) rfl dX7_clouds_72 ?_
              refine va_get (D := G.1) (ci := 0) (v := .int (nI (cc + 1))) (C := RX0) (T := TX0) (N := 4) hx hb hts hin0 hown hK.1 hP 3 rfl rfl 3 (by decide) f87 (fun _ h9 => h9) rfl dX7_clouds_75 ?_
              have hpost : (nI (cc + 1) : Int32) = clR pk cc (nI X) (nI Y) (nI j0) w ∧ (clO pk (nI X) (nI Y) (nI j0) w = true ∧ cc < 6 → CRep (cc + 1) (updN cpt cc (ptN (nI X) (nI Y))) (updN clk cc (nI j0).toNatClampNeg) (updB cwh cc (decide (w = 1))) (upd vC 3 (nI (cc + 1)), upd cp cc (nI (X * 8 + Y)), upd cl cc (nI j0), upd cw cc (b2i false)).1 (upd vC 3 (nI (cc + 1)), upd cp cc (nI (X * 8 + Y)), upd cl cc (nI j0), upd cw cc (b2i false)).2.1 (upd vC 3 (nI (cc + 1)), upd cp cc (nI (X * 8 + Y)), upd cl cc (nI j0), upd cw cc (b2i false)).2.2.1 (upd vC 3 (nI (cc + 1)), upd cp cc (nI (X * 8 + Y)), upd cl cc (nI j0), upd cw cc (b2i false)).2.2.2) ∧ (clO pk (nI X) (nI Y) (nI j0) w = false ∨ ¬ cc < 6 → (upd vC 3 (nI (cc + 1)), upd cp cc (nI (X * 8 + Y)), upd cl cc (nI j0), upd cw cc (b2i false)).1 = vC ∧ (upd vC 3 (nI (cc + 1)), upd cp cc (nI (X * 8 + Y)), upd cl cc (nI j0), upd cw cc (b2i false)).2.1 = cp ∧ (upd vC 3 (nI (cc + 1)), upd cp cc (nI (X * 8 + Y)), upd cl cc (nI j0), upd cw cc (b2i false)).2.2.1 = cl ∧ (upd vC 3 (nI (cc + 1)), upd cp cc (nI (X * 8 + Y)), upd cl cc (nI j0), upd cw cc (b2i false)).2.2.2 = cw) := by
                have e : clO pk (nI X) (nI Y) (nI j0) w = true := by simp [clO, isOk, c_9, c_16, c_21, c_27]
                refine ⟨by rw [clR, if_pos e, if_pos c_41], fun _ => ?_, fun h => absurd h (fun q => q.elim (ne_f e) (fun q => q c_41))⟩
                have hw1 : decide (w = 1) = false := by simp [c_60]
                rw [hw1, ptN_nI hX hY, nI_clamp (by omega)]
                exact CRep_add (w := false) hC c_41 (by omega) hj0 rfl
              exact hret _ (upd vC 3 (nI (cc + 1)), upd cp cc (nI (X * 8 + Y)), upd cl cc (nI j0), upd cw cc (b2i false)) _ _ _ _ (hpost) (rfl) hP hD hS dX7_clouds_78
            · refine lv_iconst (v := 1) hx hb dX7_clouds_63 (by decide) ?_
              refine lv_goto (tgt := 68) hx hb dX7_clouds_64 (by decide) ?_
              refine top_i (y := b2i true) rfl ?_
              refine ca_v (wr := [oB h 7 (oF7 v q), oB (q 1) 1 (oF1 vL qL), aZ G (qL 8) 64 pk]) (va_runV (As := [.int (nI (X * 8 + Y)), .int (nI j0), .int (b2i true)]) (rest := []) ⟨hx, hb, hml, hown, hts⟩ ((c_X0_append l G (q 6) vC qC cp cl cw cc (nI (X * 8 + Y)) (nI j0) true (hC.1) (by omega)) _) (cwV 3 hts gX7_clouds_X0_append rfl rfl rfl (by decide +kernel) ⟨Nat.le_of_ble_eq_true rfl, Nat.le_of_ble_eq_true rfl⟩) (cPre_V hK hP hD [3, 4, 5, 6] (by decide) rfl 0 0 rfl rfl) rfl rfl hl.1 rfl (lv_room (Nat.le_of_ble_eq_true rfl)) dX7_clouds_68 ⟨Nat.zero_le _, Nat.zero_le _⟩) hP hD hS hA [3, 4, 5, 6] [0, 1, 2] rfl rfl (by decide) (by decide) [0, 1, 2, 3, 4, 5, 6] (fun u_68 => [oB h 7 (oF7 v q), oB (q 1) 1 (oF1 vL qL), aZ G (qL 8) 64 pk, oB (q 6) 0 (oF0 (upd vC 3 (nI (cc + 1))) qC), aI G (qC 0) 6 (upd cp cc (nI (X * 8 + Y))), aI G (qC 1) 6 (upd cl cc (nI j0)), aZ G (qC 2) 6 (upd cw cc (b2i true))]) (by decide) (fun _ => rfl) (fun u_68 H locs q_68 hP hD hS => ?_)
              have hP : va_P G.1 vwCl [oB h 7 (oF7 v q), oB (q 1) 1 (oF1 vL qL), aZ G (qL 8) 64 pk, oB (q 6) 0 (oF0 (upd vC 3 (nI (cc + 1))) qC), aI G (qC 0) 6 (upd cp cc (nI (X * 8 + Y))), aI G (qC 1) 6 (upd cl cc (nI j0)), aZ G (qC 2) 6 (upd cw cc (b2i true))] H := hP
              have hD : va_D A [oB h 7 (oF7 v q), oB (q 1) 1 (oF1 vL qL), aZ G (qL 8) 64 pk, oB (q 6) 0 (oF0 (upd vC 3 (nI (cc + 1))) qC), aI G (qC 0) 6 (upd cp cc (nI (X * 8 + Y))), aI G (qC 1) 6 (upd cl cc (nI j0)), aZ G (qC 2) 6 (upd cw cc (b2i true))] := hD
              refine lv_aload_n hx hb dX7_clouds_71 rfl (lv_at hl 0 rfl) ?_
              refine va_get (D := G.1) (ci := 7) (v := .ref (q 6)) (C := RX7) (T := TX7) (N := 9) hx hb hts hin7 hown hK.1 hP 0 rfl rfl 6 (by decide) f52 (fun _ h9 => h9) rfl dX7_clouds_72 ?_
              refine va_get (D := G.1) (ci := 0) (v := .int (nI (cc + 1))) (C := RX0) (T := TX0) (N := 4) hx hb hts hin0 hown hK.1 hP 3 rfl rfl 3 (by decide) f87 (fun _ h9 => h9) rfl dX7_clouds_75 ?_
              have hpost : (nI (cc + 1) : Int32) = clR pk cc (nI X) (nI Y) (nI j0) w ∧ (clO pk (nI X) (nI Y) (nI j0) w = true ∧ cc < 6 → CRep (cc + 1) (updN cpt cc (ptN (nI X) (nI Y))) (updN clk cc (nI j0).toNatClampNeg) (updB cwh cc (decide (w = 1))) (upd vC 3 (nI (cc + 1)), upd cp cc (nI (X * 8 + Y)), upd cl cc (nI j0), upd cw cc (b2i true)).1 (upd vC 3 (nI (cc + 1)), upd cp cc (nI (X * 8 + Y)), upd cl cc (nI j0), upd cw cc (b2i true)).2.1 (upd vC 3 (nI (cc + 1)), upd cp cc (nI (X * 8 + Y)), upd cl cc (nI j0), upd cw cc (b2i true)).2.2.1 (upd vC 3 (nI (cc + 1)), upd cp cc (nI (X * 8 + Y)), upd cl cc (nI j0), upd cw cc (b2i true)).2.2.2) ∧ (clO pk (nI X) (nI Y) (nI j0) w = false ∨ ¬ cc < 6 → (upd vC 3 (nI (cc + 1)), upd cp cc (nI (X * 8 + Y)), upd cl cc (nI j0), upd cw cc (b2i true)).1 = vC ∧ (upd vC 3 (nI (cc + 1)), upd cp cc (nI (X * 8 + Y)), upd cl cc (nI j0), upd cw cc (b2i true)).2.1 = cp ∧ (upd vC 3 (nI (cc + 1)), upd cp cc (nI (X * 8 + Y)), upd cl cc (nI j0), upd cw cc (b2i true)).2.2.1 = cl ∧ (upd vC 3 (nI (cc + 1)), upd cp cc (nI (X * 8 + Y)), upd cl cc (nI j0), upd cw cc (b2i true)).2.2.2 = cw) := by
                have e : clO pk (nI X) (nI Y) (nI j0) w = true := by simp [clO, isOk, c_9, c_16, c_21, c_27]
                refine ⟨by rw [clR, if_pos e, if_pos c_41], fun _ => ?_, fun h => absurd h (fun q => q.elim (ne_f e) (fun q => q c_41))⟩
                have hw1 : decide (w = 1) = true := by simp [c_60]
                rw [hw1, ptN_nI hX hY, nI_clamp (by omega)]
                exact CRep_add (w := true) hC c_41 (by omega) hj0 rfl
              exact hret _ (upd vC 3 (nI (cc + 1)), upd cp cc (nI (X * 8 + Y)), upd cl cc (nI j0), upd cw cc (b2i true)) _ _ _ _ (hpost) (rfl) hP hD hS dX7_clouds_78
          · have c_41 : ¬ cc < 6 := fun hne => c_41 ((c_lt (a := cc) (b := 6) rfl rfl (by omega) (by omega)).mpr hne)
            refine lv_bipush (v := -3) hx hb dX7_clouds_44 (by decide) ?_
            have hpost : (-3 : Int32) = clR pk cc (nI X) (nI Y) (nI j0) w ∧ (clO pk (nI X) (nI Y) (nI j0) w = true ∧ cc < 6 → CRep (cc + 1) (updN cpt cc (ptN (nI X) (nI Y))) (updN clk cc (nI j0).toNatClampNeg) (updB cwh cc (decide (w = 1))) (vC, cp, cl, cw).1 (vC, cp, cl, cw).2.1 (vC, cp, cl, cw).2.2.1 (vC, cp, cl, cw).2.2.2) ∧ (clO pk (nI X) (nI Y) (nI j0) w = false ∨ ¬ cc < 6 → (vC, cp, cl, cw).1 = vC ∧ (vC, cp, cl, cw).2.1 = cp ∧ (vC, cp, cl, cw).2.2.1 = cl ∧ (vC, cp, cl, cw).2.2.2 = cw) := by
              have e : clO pk (nI X) (nI Y) (nI j0) w = true := by simp [clO, isOk, c_9, c_16, c_21, c_27]
              exact ⟨by rw [clR, if_pos e, if_neg c_41], fun h => absurd h.2 c_41, fun _ => ⟨rfl, rfl, rfl, rfl⟩⟩
            exact hret _ (vC, cp, cl, cw) _ _ _ _ (hpost) (rfl) hP hD hS dX7_clouds_46
        · refine lv_iconst (v := -1) hx hb dX7_clouds_30 (by decide) ?_
          have hpost : (-1 : Int32) = clR pk cc (nI X) (nI Y) (nI j0) w ∧ (clO pk (nI X) (nI Y) (nI j0) w = true ∧ cc < 6 → CRep (cc + 1) (updN cpt cc (ptN (nI X) (nI Y))) (updN clk cc (nI j0).toNatClampNeg) (updB cwh cc (decide (w = 1))) (vC, cp, cl, cw).1 (vC, cp, cl, cw).2.1 (vC, cp, cl, cw).2.2.1 (vC, cp, cl, cw).2.2.2) ∧ (clO pk (nI X) (nI Y) (nI j0) w = false ∨ ¬ cc < 6 → (vC, cp, cl, cw).1 = vC ∧ (vC, cp, cl, cw).2.1 = cp ∧ (vC, cp, cl, cw).2.2.1 = cl ∧ (vC, cp, cl, cw).2.2.2 = cw) := by
            have e : clO pk (nI X) (nI Y) (nI j0) w = false := by simp [clO, isOk, c_9, c_16, c_21, c_27]
            exact ⟨by rw [clR, if_neg (ne_t e)], fun h => absurd h.1 (ne_t e), fun _ => ⟨rfl, rfl, rfl, rfl⟩⟩
          exact hret _ (vC, cp, cl, cw) _ _ _ _ (hpost) (rfl) hP hD hS dX7_clouds_31
