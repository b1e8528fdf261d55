def pLook (x : Int32) : Bool := !decide (x < 0) && !decide (64 ≤ x)
def pMark (b h : Int32) : Bool := pLook b && (!decide (h < 0) && !decide (480 < h))
def pPart (view what : Int32) : Int32 := if what = 0 then view / 64 / 8 else if what = 1 then view / 64 - view / 64 / 8 * 8 else view - view / 64 * 64
def fdiv (x y : Int32) : Int32 := if 0 ≤ x ^^^ y then x / y else if x / y * y = x then x / y else x / y - 1
def fmod (x y : Int32) : Int32 := if 0 ≤ x ^^^ y then x - x / y * y else if x - x / y * y = 0 then x - x / y * y else x - x / y * y + y
def pHas (n x : Int32) : Bool := !decide (x < 0) && !decide (n ≤ x)
def pPlace (pk : Nat → Int32) (x y : Int32) : Bool := !decide (x < 0) && (!decide (8 ≤ x) && (!decide (y < 0) && (!decide (8 ≤ y) && decide (pk (x * 8 + y).toNatClampNeg = 0))))
theorem fb2_lt (a b : Int32) : a < b ↔ a.toInt < b.toInt := Int32.lt_iff_toInt_lt
theorem fb2_le (a b : Int32) : a ≤ b ↔ a.toInt ≤ b.toInt := Int32.le_iff_toInt_le
theorem ix8 {x : Int32} (h0 : ¬ x < 0) (h8 : ¬ 8 ≤ x) : ∃ j : Nat, j < 8 ∧ x = nI j := by
  obtain ⟨j, hj, rfl⟩ := nI_of h0
  refine ⟨j, ?_, rfl⟩
  rcases Nat.lt_or_ge j 8 with h | h
  · exact h
  · exact absurd (nI_le h hj) h8
theorem mul8 (j k : Nat) : nI j * 8 + nI k = nI (j * 8 + k) := by
  rw [show (8 : Int32) = nI 8 from rfl, pk_mul, nI_add]
theorem pt_in {x y : Int32} (h0 : ¬ x < 0) (h8 : ¬ 8 ≤ x) (g0 : ¬ y < 0) (g8 : ¬ 8 ≤ y) : vp_in (x * 8 + y) 64 := by
  obtain ⟨j, hj, rfl⟩ := ix8 h0 h8
  obtain ⟨k, hk, rfl⟩ := ix8 g0 g8
  rw [mul8]
  exact vp_in_nI (by omega) (by omega)
theorem div8 {a : Nat} (ha : a < 2 ^ 31) : nI a / 8 = nI (a / 8) := pk_div (d := 8) ha (by omega) (by omega)
theorem rem8 {a : Nat} (ha : a < 2 ^ 31) : nI a - nI a / 8 * 8 = nI (a % 8) := pk_rem (d := 8) ha (by omega) (by omega)
def gx (xs : Nat → Int32) (pt p : Nat) : Int32 := xs p - nI (pt / 8)
def gy (ys : Nat → Int32) (pt p : Nat) : Int32 := ys p - nI (pt % 8)
def gway (xs ys : Nat → Int32) (pt p : Nat) : Int32 := imax (iabs (gx xs pt p)) (iabs (gy ys pt p))
def gturn (xs ys : Nat → Int32) (pt p q : Nat) : Int32 := gx xs pt p * gy ys pt q - gy ys pt p * gx xs pt q
def gsame (xs ys : Nat → Int32) (pt p q : Nat) : Bool := !decide (gx xs pt p * gx xs pt q + gy ys pt p * gy ys pt q ≤ 0) && decide (gturn xs ys pt p q = 0)
def gpeak (xs ys hs : Nat → Int32) (pt p q : Nat) : Bool := !decide (gway xs ys pt p ≤ gway xs ys pt q) && (gsame xs ys pt p q && !decide (hs q * gway xs ys pt p < hs p * gway xs ys pt q))
abbrev rX7_isLook : Room := { frames := 0, cells := 0, slots := 0, locals := 0 }
set_option maxHeartbeats 4000000 in
set_option maxRecDepth 100000 in
theorem c_X7_isLook (l : Launch) (G : kG) (x : Int32) : Ri l G yX7_isLook wsX7_isLook rX7_isLook [.int x] [] (fun r => r = b2i (pLook x)) := by
  refine Ri.of (cc := cX7_isLook) (maxL := 1) (by decide) rfl (Nat.le_of_ble_eq_true rfl) ?_
  intro pM eM sM mM bM tM cM Q hx hb hts hown hml hP hK hret ls hl
  have hown : sM.vm.findClass RX7 = some mM.cls := hown
  have hl : lv_has ls 1 [(0, .int x)] := hl
  refine lv_iload_n hx hb dX7_isLook_0 rfl (lv_at hl 0 rfl) ?_
  refine lv_if_lt (tgt := 14) hx hb dX7_isLook_1 (by decide) (fun c_1 => ?_) (fun c_1 => ?_)
  · refine lv_iconst (v := 0) hx hb dX7_isLook_14 (by decide) ?_
    exact hret _ _ _ (by simp [b2i, pLook, c_1]) (rfl) dX7_isLook_15
  · refine lv_iload_n hx hb dX7_isLook_4 rfl (lv_at hl 0 rfl) ?_
    refine lv_bipush (v := 64) hx hb dX7_isLook_5 (by decide) ?_
    refine lv_icmp_ge (tgt := 14) hx hb dX7_isLook_7 (by decide) (fun c_7 => ?_) (fun c_7 => ?_)
    · refine lv_iconst (v := 0) hx hb dX7_isLook_14 (by decide) ?_
      exact hret _ _ _ (by simp [b2i, pLook, c_1, c_7]) (rfl) dX7_isLook_15
    · refine lv_iconst (v := 1) hx hb dX7_isLook_10 (by decide) ?_
      refine lv_goto (tgt := 15) hx hb dX7_isLook_11 (by decide) ?_
      exact hret _ _ _ (by simp [b2i, pLook, c_1, c_7]) (rfl) dX7_isLook_15

abbrev rX7_isMark : Room := { frames := 1, cells := 0, slots := 0, locals := 20 }
set_option maxHeartbeats 4000000 in
set_option maxRecDepth 100000 in
theorem c_X7_isMark (l : Launch) (G : kG) (x : Int32) (y : Int32) : Ri l G yX7_isMark wsX7_isMark rX7_isMark [.int x, .int y] [] (fun r => r = b2i (pMark x y)) := by
  refine Ri.of (cc := cX7_isMark) (maxL := 2) (by decide) rfl (Nat.le_of_ble_eq_true rfl) ?_
  intro pM eM sM mM bM tM cM Q hx hb hts hown hml hP hK hret ls hl
  have hown : sM.vm.findClass RX7 = some mM.cls := hown
  have hl : lv_has ls 2 [(0, .int x), (1, .int y)] := hl
  refine lv_iload_n hx hb dX7_isMark_0 rfl (lv_at hl 0 rfl) ?_
  refine rd_i (va_runS (As := [.int x]) (rest := []) ⟨hx, hb, hml, hown, hts⟩ (c_X7_isLook l G x) (va_cwS 1 hts gX7_isMark_X7_isLook rfl rfl rfl (by decide +kernel) ⟨Nat.le_of_ble_eq_true rfl, Nat.le_of_ble_eq_true rfl⟩) (rPre_S hK hP [] rfl) rfl rfl hl.1 rfl (lv_room (Nat.le_of_ble_eq_true rfl)) dX7_isMark_1 ⟨Nat.zero_le _, Nat.zero_le _⟩) (fun r_1 q_1 => ?_)
  obtain rfl : r_1 = b2i (pLook x) := q_1
  refine lv_if_eq (tgt := 22) hx hb dX7_isMark_4 (by decide) (fun c_4 => ?_) (fun c_4 => ?_)
  · have c_4 : (pLook x) = false := b2i_0.mp c_4
    refine lv_iconst (v := 0) hx hb dX7_isMark_22 (by decide) ?_
    exact hret _ _ _ (by simp [b2i, pMark, c_4]) (rfl) dX7_isMark_23
  · have c_4 : (pLook x) = true := b2i_n0.mp c_4
    refine lv_iload_n hx hb dX7_isMark_7 rfl (lv_at hl 1 rfl) ?_
    refine lv_if_lt (tgt := 22) hx hb dX7_isMark_8 (by decide) (fun c_8 => ?_) (fun c_8 => ?_)
    · refine lv_iconst (v := 0) hx hb dX7_isMark_22 (by decide) ?_
      exact hret _ _ _ (by simp [b2i, pMark, c_4, c_8]) (rfl) dX7_isMark_23
    · refine lv_iload_n hx hb dX7_isMark_11 rfl (lv_at hl 1 rfl) ?_
      refine lv_sipush (v := 480) hx hb dX7_isMark_12 (by decide) ?_
      refine lv_icmp_gt (tgt := 22) hx hb dX7_isMark_15 (by decide) (fun c_15 => ?_) (fun c_15 => ?_)
      · refine lv_iconst (v := 0) hx hb dX7_isMark_22 (by decide) ?_
        exact hret _ _ _ (by simp [b2i, pMark, c_4, c_8, c_15]) (rfl) dX7_isMark_23
      · refine lv_iconst (v := 1) hx hb dX7_isMark_18 (by decide) ?_
        refine lv_goto (tgt := 23) hx hb dX7_isMark_19 (by decide) ?_
        exact hret _ _ _ (by simp [b2i, pMark, c_4, c_8, c_15]) (rfl) dX7_isMark_23

abbrev rX7_pointOf : Room := { frames := 0, cells := 0, slots := 0, locals := 0 }
set_option maxHeartbeats 4000000 in
set_option maxRecDepth 100000 in
theorem c_X7_pointOf (l : Launch) (G : kG) (x : Int32) (y : Int32) : Ri l G yX7_pointOf wsX7_pointOf rX7_pointOf [.int x, .int y] [] (fun r => r = x * 8 + y) := by
  refine Ri.of (cc := cX7_pointOf) (maxL := 2) (by decide) rfl (Nat.le_of_ble_eq_true rfl) ?_
  intro pM eM sM mM bM tM cM Q hx hb hts hown hml hP hK hret ls hl
  have hown : sM.vm.findClass RX7 = some mM.cls := hown
  have hl : lv_has ls 2 [(0, .int x), (1, .int y)] := hl
  refine lv_iload_n hx hb dX7_pointOf_0 rfl (lv_at hl 0 rfl) ?_
  refine lv_bipush (v := 8) hx hb dX7_pointOf_1 (by decide) ?_
  refine lv_imul hx hb dX7_pointOf_3 ?_
  refine lv_iload_n hx hb dX7_pointOf_4 rfl (lv_at hl 1 rfl) ?_
  refine lv_iadd hx hb dX7_pointOf_5 ?_
  exact hret _ _ _ (rfl) (rfl) dX7_pointOf_6

abbrev rX7_partOf : Room := { frames := 0, cells := 0, slots := 0, locals := 0 }
set_option maxHeartbeats 4000000 in
set_option maxRecDepth 100000 in
theorem c_X7_partOf (l : Launch) (G : kG) (x : Int32) (y : Int32) : Ri l G yX7_partOf wsX7_partOf rX7_partOf [.int x, .int y] [] (fun r => r = pPart x y) := by
  refine Ri.of (cc := cX7_partOf) (maxL := 3) (by decide) rfl (Nat.le_of_ble_eq_true rfl) ?_
  intro pM eM sM mM bM tM cM Q hx hb hts hown hml hP hK hret ls hl
  have hown : sM.vm.findClass RX7 = some mM.cls := hown
  have hl : lv_has ls 3 [(0, .int x), (1, .int y)] := hl
  refine lv_iload_n hx hb dX7_partOf_0 rfl (lv_at hl 0 rfl) ?_
  refine lv_bipush (v := 64) hx hb dX7_partOf_1 (by decide) ?_
  refine lv_idiv hx hb dX7_partOf_3 (by decide) ?_
  refine lv_istore_n (lv' := [(2, .int (x / 64)), (0, .int x), (1, .int y)]) hx hb dX7_partOf_4 rfl hl (by decide) rfl (fun ls hl => ?_)
  refine lv_iload_n hx hb dX7_partOf_5 rfl (lv_at hl 2 rfl) ?_
  rcases sw2 y with rfl | rfl | c_6
  · refine lv_lookup (off := 26) (tgt := 32) hx hb dX7_partOf_6 (by decide) (by decide) (by decide) ?_
    refine lv_iload_n hx hb dX7_partOf_32 rfl (lv_at hl 0 rfl) ?_
    refine lv_bipush (v := 8) hx hb dX7_partOf_33 (by decide) ?_
    refine lv_idiv hx hb dX7_partOf_35 (by decide) ?_
    exact hret _ _ _ (by first | rfl | (simp only [not_or] at c_6; simp [pPart, c_6])) (rfl) dX7_partOf_36
  · refine lv_lookup (off := 31) (tgt := 37) hx hb dX7_partOf_6 (by decide) (by decide) (by decide) ?_
    refine lv_iload_n hx hb dX7_partOf_37 rfl (lv_at hl 0 rfl) ?_
    refine lv_bipush (v := 8) hx hb dX7_partOf_38 (by decide) ?_
    refine lv_irem hx hb dX7_partOf_40 (by decide) ?_
    exact hret _ _ _ (by first | rfl | (simp only [not_or] at c_6; simp [pPart, c_6])) (rfl) dX7_partOf_41
  · refine lv_lookup (off := 36) (tgt := 42) hx hb dX7_partOf_6 (by decide) (sw2_out c_6) (by decide) ?_
    refine lv_iload_n hx hb dX7_partOf_42 rfl (lv_at hl 1 rfl) ?_
    refine lv_bipush (v := 64) hx hb dX7_partOf_43 (by decide) ?_
    refine lv_irem hx hb dX7_partOf_45 (by decide) ?_
    exact hret _ _ _ (by first | rfl | (simp only [not_or] at c_6; simp [pPart, c_6])) (rfl) dX7_partOf_46

abbrev rJ9_floorDiv_7cf53 : Room := { frames := 0, cells := 0, slots := 0, locals := 0 }
set_option maxHeartbeats 4000000 in
set_option maxRecDepth 100000 in
theorem c_J9_floorDiv_7cf53 (l : Launch) (G : kG) (x : Int32) (y : Int32) (hy : ¬ y = 0) : Ri l G yJ9_floorDiv_7cf53 wsJ9_floorDiv_7cf53 rJ9_floorDiv_7cf53 [.int x, .int y] [] (fun r => r = fdiv x y) := by
  refine Ri.ofF (cc := cJ9_floorDiv_7cf53) (maxL := 3) (by decide +kernel) rfl (Nat.le_of_ble_eq_true rfl) ?_
  intro pM eM sM mM bM tM cM Q hx hb hts hown hml hP hK hret ls hl
  have hown : sM.vm.findClass RJ9 = some mM.cls := hown
  have hl : lv_has ls 3 [(0, .int x), (1, .int y)] := hl
  refine lv_iload_n hx hb dJ9_floorDiv_7cf53_0 rfl (lv_at hl 0 rfl) ?_
  refine lv_iload_n hx hb dJ9_floorDiv_7cf53_1 rfl (lv_at hl 1 rfl) ?_
  refine lv_idiv hx hb dJ9_floorDiv_7cf53_2 (hy) ?_
  refine lv_istore_n (lv' := [(2, .int (x / y)), (0, .int x), (1, .int y)]) hx hb dJ9_floorDiv_7cf53_3 rfl hl (by decide) rfl (fun ls hl => ?_)
  refine lv_iload_n hx hb dJ9_floorDiv_7cf53_4 rfl (lv_at hl 1 rfl) ?_
  refine lv_iload_n hx hb dJ9_floorDiv_7cf53_5 rfl (lv_at hl 2 rfl) ?_
  refine lv_ixor hx hb dJ9_floorDiv_7cf53_6 ?_
  refine lv_if_ge (tgt := 21) hx hb dJ9_floorDiv_7cf53_7 (by decide) (fun c_7 => ?_) (fun c_7 => ?_)
  · refine lv_iload_n hx hb dJ9_floorDiv_7cf53_21 rfl (lv_at hl 0 rfl) ?_
    exact hret _ _ _ (by simp [fdiv, c_7]) (rfl) dJ9_floorDiv_7cf53_22
  · refine lv_iload_n hx hb dJ9_floorDiv_7cf53_10 rfl (lv_at hl 0 rfl) ?_
    refine lv_iload_n hx hb dJ9_floorDiv_7cf53_11 rfl (lv_at hl 2 rfl) ?_
    refine lv_imul hx hb dJ9_floorDiv_7cf53_12 ?_
    refine lv_iload_n hx hb dJ9_floorDiv_7cf53_13 rfl (lv_at hl 1 rfl) ?_
    refine lv_icmp_eq (tgt := 21) hx hb dJ9_floorDiv_7cf53_14 (by decide) (fun c_14 => ?_) (fun c_14 => ?_)
    · refine lv_iload_n hx hb dJ9_floorDiv_7cf53_21 rfl (lv_at hl 0 rfl) ?_
      exact hret _ _ _ (by simp [fdiv, c_7, c_14]) (rfl) dJ9_floorDiv_7cf53_22
    · refine lv_iload_n hx hb dJ9_floorDiv_7cf53_17 rfl (lv_at hl 0 rfl) ?_
      refine lv_iconst (v := 1) hx hb dJ9_floorDiv_7cf53_18 (by decide) ?_
      refine lv_isub hx hb dJ9_floorDiv_7cf53_19 ?_
      exact hret _ _ _ (by simp [fdiv, c_7, c_14]) (rfl) dJ9_floorDiv_7cf53_20

abbrev rJ9_floorMod_7cf53 : Room := { frames := 0, cells := 0, slots := 0, locals := 0 }
set_option maxHeartbeats 4000000 in
set_option maxRecDepth 100000 in
theorem c_J9_floorMod_7cf53 (l : Launch) (G : kG) (x : Int32) (y : Int32) (hy : ¬ y = 0) : Ri l G yJ9_floorMod_7cf53 wsJ9_floorMod_7cf53 rJ9_floorMod_7cf53 [.int x, .int y] [] (fun r => r = fmod x y) := by
  refine Ri.ofF (cc := cJ9_floorMod_7cf53) (maxL := 3) (by decide +kernel) rfl (Nat.le_of_ble_eq_true rfl) ?_
  intro pM eM sM mM bM tM cM Q hx hb hts hown hml hP hK hret ls hl
  have hown : sM.vm.findClass RJ9 = some mM.cls := hown
  have hl : lv_has ls 3 [(0, .int x), (1, .int y)] := hl
  refine lv_iload_n hx hb dJ9_floorMod_7cf53_0 rfl (lv_at hl 0 rfl) ?_
  refine lv_iload_n hx hb dJ9_floorMod_7cf53_1 rfl (lv_at hl 1 rfl) ?_
  refine lv_irem hx hb dJ9_floorMod_7cf53_2 (hy) ?_
  refine lv_istore_n (lv' := [(2, .int (x - x / y * y)), (0, .int x), (1, .int y)]) hx hb dJ9_floorMod_7cf53_3 rfl hl (by decide) rfl (fun ls hl => ?_)
  refine lv_iload_n hx hb dJ9_floorMod_7cf53_4 rfl (lv_at hl 1 rfl) ?_
  refine lv_iload_n hx hb dJ9_floorMod_7cf53_5 rfl (lv_at hl 2 rfl) ?_
  refine lv_ixor hx hb dJ9_floorMod_7cf53_6 ?_
  refine lv_if_ge (tgt := 18) hx hb dJ9_floorMod_7cf53_7 (by decide) (fun c_7 => ?_) (fun c_7 => ?_)
  · refine lv_iload_n hx hb dJ9_floorMod_7cf53_18 rfl (lv_at hl 0 rfl) ?_
    exact hret _ _ _ (by simp [fmod, c_7]) (rfl) dJ9_floorMod_7cf53_19
  · refine lv_iload_n hx hb dJ9_floorMod_7cf53_10 rfl (lv_at hl 0 rfl) ?_
    refine lv_if_eq (tgt := 18) hx hb dJ9_floorMod_7cf53_11 (by decide) (fun c_11 => ?_) (fun c_11 => ?_)
    · refine lv_iload_n hx hb dJ9_floorMod_7cf53_18 rfl (lv_at hl 0 rfl) ?_
      exact hret _ _ _ (by simp [fmod, c_7, c_11]) (rfl) dJ9_floorMod_7cf53_19
    · refine lv_iload_n hx hb dJ9_floorMod_7cf53_14 rfl (lv_at hl 0 rfl) ?_
      refine lv_iload_n hx hb dJ9_floorMod_7cf53_15 rfl (lv_at hl 2 rfl) ?_
      refine lv_iadd hx hb dJ9_floorMod_7cf53_16 ?_
      exact hret _ _ _ (by simp [fmod, c_7, c_11]) (rfl) dJ9_floorMod_7cf53_17

abbrev rX1_hasPeak : Room := { frames := 0, cells := 0, slots := 0, locals := 0 }
set_option maxHeartbeats 4000000 in
set_option maxRecDepth 100000 in
theorem c_X1_hasPeak (l : Launch) (G : kG) (h : Nat) (v : Nat → Int32) (q : Nat → Nat) (x : Int32) : Ri l G yX1_hasPeak wsX1_hasPeak rX1_hasPeak [.ref h, .int x] [oB h 1 (oF1 v q)] (fun r => r = b2i (pHas (v 3) x)) := by
  refine Ri.of (cc := cX1_hasPeak) (maxL := 2) (by decide) rfl (Nat.le_of_ble_eq_true rfl) ?_
  intro pM eM sM mM bM tM cM Q hx hb hts hown hml hP hK hret ls hl
  have hown : sM.vm.findClass RX1 = some mM.cls := hown
  have hl : lv_has ls 2 [(0, .ref h), (1, .int x)] := hl
  have hin1 : ∀ w ∈ u_ws RX1 TX1 11, w ∈ wsX1_hasPeak := by decide +kernel
  have f41 := hts (.fieldLink RX1 41 "HorizonPeaks$Land" "peaks" "I") (by decide +kernel)
  refine lv_iload_n hx hb dX1_hasPeak_0 rfl (lv_at hl 1 rfl) ?_
  refine lv_if_lt (tgt := 16) hx hb dX1_hasPeak_1 (by decide) (fun c_1 => ?_) (fun c_1 => ?_)
  · refine lv_iconst (v := 0) hx hb dX1_hasPeak_16 (by decide) ?_
    exact hret _ _ _ (by simp [b2i, pHas, c_1]) (rfl) dX1_hasPeak_17
  · refine lv_iload_n hx hb dX1_hasPeak_4 rfl (lv_at hl 1 rfl) ?_
    refine lv_aload_n hx hb dX1_hasPeak_5 rfl (lv_at hl 0 rfl) ?_
    refine va_get (D := G.1) (ci := 1) (v := .int (v 3)) (C := RX1) (T := TX1) (N := 11) hx hb hts hin1 hown hK.1 hP 0 rfl rfl 3 (by decide) f41 (fun _ h9 => h9) rfl dX1_hasPeak_6 ?_
    refine lv_icmp_ge (tgt := 16) hx hb dX1_hasPeak_9 (by decide) (fun c_9 => ?_) (fun c_9 => ?_)
    · refine lv_iconst (v := 0) hx hb dX1_hasPeak_16 (by decide) ?_
      exact hret _ _ _ (by simp [b2i, pHas, c_1, c_9]) (rfl) dX1_hasPeak_17
    · refine lv_iconst (v := 1) hx hb dX1_hasPeak_12 (by decide) ?_
      refine lv_goto (tgt := 17) hx hb dX1_hasPeak_13 (by decide) ?_
      exact hret _ _ _ (by simp [b2i, pHas, c_1, c_9]) (rfl) dX1_hasPeak_17

abbrev rX1_isPlace : Room := { frames := 1, cells := 0, slots := 0, locals := 21 }
set_option maxHeartbeats 4000000 in
set_option maxRecDepth 100000 in
theorem c_X1_isPlace (l : Launch) (G : kG) (h : Nat) (v : Nat → Int32) (q : Nat → Nat) (pk : Nat → Int32) (x : Int32) (y : Int32) : Ri l G yX1_isPlace wsX1_isPlace rX1_isPlace [.ref h, .int x, .int y] [oB h 1 (oF1 v q), aZ G (q 8) 64 pk] (fun r => r = b2i (pPlace pk x y)) := by
  refine Ri.of (cc := cX1_isPlace) (maxL := 3) (by decide) rfl (Nat.le_of_ble_eq_true rfl) ?_
  intro pM eM sM mM bM tM cM Q hx hb hts hown hml hP hK hret ls hl
  have hown : sM.vm.findClass RX1 = some mM.cls := hown
  have hl : lv_has ls 3 [(0, .ref h), (1, .int x), (2, .int y)] := hl
  have hin1 : ∀ w ∈ u_ws RX1 TX1 11, w ∈ wsX1_isPlace := by decide +kernel
  have f31 := hts (.fieldLink RX1 31 "HorizonPeaks$Land" "peakAt" "[Z") (by decide +kernel)
  refine lv_iload_n hx hb dX1_isPlace_0 rfl (lv_at hl 1 rfl) ?_
  refine lv_if_lt (tgt := 37) hx hb dX1_isPlace_1 (by decide) (fun c_1 => ?_) (fun c_1 => ?_)
  · refine lv_iconst (v := 0) hx hb dX1_isPlace_37 (by decide) ?_
    exact hret _ _ _ (by simp [b2i, pPlace, c_1]) (rfl) dX1_isPlace_38
  · refine lv_iload_n hx hb dX1_isPlace_4 rfl (lv_at hl 1 rfl) ?_
    refine lv_bipush (v := 8) hx hb dX1_isPlace_5 (by decide) ?_
    refine lv_icmp_ge (tgt := 37) hx hb dX1_isPlace_7 (by decide) (fun c_7 => ?_) (fun c_7 => ?_)
    · refine lv_iconst (v := 0) hx hb dX1_isPlace_37 (by decide) ?_
      exact hret _ _ _ (by simp [b2i, pPlace, c_1, c_7]) (rfl) dX1_isPlace_38
    · refine lv_iload_n hx hb dX1_isPlace_10 rfl (lv_at hl 2 rfl) ?_
      refine lv_if_lt (tgt := 37) hx hb dX1_isPlace_11 (by decide) (fun c_11 => ?_) (fun c_11 => ?_)
      · refine lv_iconst (v := 0) hx hb dX1_isPlace_37 (by decide) ?_
        exact hret _ _ _ (by simp [b2i, pPlace, c_1, c_7, c_11]) (rfl) dX1_isPlace_38
      · refine lv_iload_n hx hb dX1_isPlace_14 rfl (lv_at hl 2 rfl) ?_
        refine lv_bipush (v := 8) hx hb dX1_isPlace_15 (by decide) ?_
        refine lv_icmp_ge (tgt := 37) hx hb dX1_isPlace_17 (by decide) (fun c_17 => ?_) (fun c_17 => ?_)
        · refine lv_iconst (v := 0) hx hb dX1_isPlace_37 (by decide) ?_
          exact hret _ _ _ (by simp [b2i, pPlace, c_1, c_7, c_11, c_17]) (rfl) dX1_isPlace_38
        · refine lv_aload_n hx hb dX1_isPlace_20 rfl (lv_at hl 0 rfl) ?_
          refine va_get (D := G.1) (ci := 1) (v := .ref (q 8)) (C := RX1) (T := TX1) (N := 11) hx hb hts hin1 hown hK.1 hP 0 rfl rfl 8 (by decide) f31 (fun _ h9 => h9) rfl dX1_isPlace_21 ?_
          refine lv_iload_n hx hb dX1_isPlace_24 rfl (lv_at hl 1 rfl) ?_
          refine lv_iload_n hx hb dX1_isPlace_25 rfl (lv_at hl 2 rfl) ?_
          refine rd_i (va_runSN (As := [.int x, .int y]) (rest := [.ref (q 8)]) ⟨hx, hb, hml, hown, hts⟩ (c_X7_pointOf l G x y) ⟨va_cnB 2 hts gX1_isPlace_X7_pointOf_n51 rfl rfl rfl hK.2.2.2.2.2.2.2.2 (hts (.initialized RX7) (by decide +kernel)) (by decide +kernel) ⟨Nat.le_of_ble_eq_true rfl, Nat.le_of_ble_eq_true rfl⟩, hts (.static yX7_pointOf) (by decide +kernel), trivial⟩ (rPre_S hK hP [] rfl) rfl rfl hl.1 rfl (lv_room (Nat.le_of_ble_eq_true rfl)) dX1_isPlace_26 ⟨Nat.zero_le _, Nat.zero_le _⟩) (fun r_26 q_26 => ?_)
          obtain rfl : r_26 = x * 8 + y := q_26
          refine va_zald hx hb hK.1 hP 1 2 rfl rfl (pt_in c_1 c_7 c_11 c_17) dX1_isPlace_29 ?_
          refine lv_if_ne (tgt := 37) hx hb dX1_isPlace_30 (by decide) (fun c_30 => ?_) (fun c_30 => ?_)
          · refine lv_iconst (v := 0) hx hb dX1_isPlace_37 (by decide) ?_
            exact hret _ _ _ (by simp [b2i, pPlace, c_1, c_7, c_11, c_17, c_30]) (rfl) dX1_isPlace_38
          · refine lv_iconst (v := 1) hx hb dX1_isPlace_33 (by decide) ?_
            refine lv_goto (tgt := 38) hx hb dX1_isPlace_34 (by decide) ?_
            exact hret _ _ _ (by simp [b2i, pPlace, c_1, c_7, c_11, c_17, c_30]) (rfl) dX1_isPlace_38

abbrev rX1_allPeaks : Room := { frames := 0, cells := 0, slots := 0, locals := 0 }
set_option maxHeartbeats 4000000 in
set_option maxRecDepth 100000 in
theorem c_X1_allPeaks (l : Launch) (G : kG) (h : Nat) (v : Nat → Int32) (q : Nat → Nat) : Ri l G yX1_allPeaks wsX1_allPeaks rX1_allPeaks [.ref h] [oB h 1 (oF1 v q)] (fun r => r = 1 <<< (v 3 &&& 31) - 1) := by
  refine Ri.of (cc := cX1_allPeaks) (maxL := 1) (by decide) rfl (Nat.le_of_ble_eq_true rfl) ?_
  intro pM eM sM mM bM tM cM Q hx hb hts hown hml hP hK hret ls hl
  have hown : sM.vm.findClass RX1 = some mM.cls := hown
  have hl : lv_has ls 1 [(0, .ref h)] := hl
  have hin1 : ∀ w ∈ u_ws RX1 TX1 11, w ∈ wsX1_allPeaks := by decide +kernel
  have f41 := hts (.fieldLink RX1 41 "HorizonPeaks$Land" "peaks" "I") (by decide +kernel)
  refine lv_iconst (v := 1) hx hb dX1_allPeaks_0 (by decide) ?_
  refine lv_aload_n hx hb dX1_allPeaks_1 rfl (lv_at hl 0 rfl) ?_
  refine va_get (D := G.1) (ci := 1) (v := .int (v 3)) (C := RX1) (T := TX1) (N := 11) hx hb hts hin1 hown hK.1 hP 0 rfl rfl 3 (by decide) f41 (fun _ h9 => h9) rfl dX1_allPeaks_2 ?_
  refine lv_ishl hx hb dX1_allPeaks_5 ?_
  refine lv_iconst (v := 1) hx hb dX1_allPeaks_6 (by decide) ?_
  refine lv_isub hx hb dX1_allPeaks_7 ?_
  exact hret _ _ _ (rfl) (rfl) dX1_allPeaks_8

abbrev rX1_isInSight : Room := { frames := 0, cells := 0, slots := 0, locals := 0 }
set_option maxHeartbeats 4000000 in
set_option maxRecDepth 100000 in
theorem c_X1_isInSight (l : Launch) (G : kG) (h : Nat) (v : Nat → Int32) (q : Nat → Nat) (vis : Nat → Int32) (pt : Nat) (x : Int32) (hpt : pt < 64) : Ri l G yX1_isInSight wsX1_isInSight rX1_isInSight [.ref h, .int (nI pt), .int x] [oB h 1 (oF1 v q), aI G (q 9) 64 vis] (fun r => r = b2i (!decide (vis pt >>> (x &&& 31) &&& 1 = 0))) := by
  refine Ri.of (cc := cX1_isInSight) (maxL := 3) (by decide) rfl (Nat.le_of_ble_eq_true rfl) ?_
  intro pM eM sM mM bM tM cM Q hx hb hts hown hml hP hK hret ls hl
  have hown : sM.vm.findClass RX1 = some mM.cls := hown
  have hl : lv_has ls 3 [(0, .ref h), (1, .int (nI pt)), (2, .int x)] := hl
  have hin1 : ∀ w ∈ u_ws RX1 TX1 11, w ∈ wsX1_isInSight := by decide +kernel
  have f35 := hts (.fieldLink RX1 35 "HorizonPeaks$Land" "inSight" "[I") (by decide +kernel)
  refine lv_aload_n hx hb dX1_isInSight_0 rfl (lv_at hl 0 rfl) ?_
  refine va_get (D := G.1) (ci := 1) (v := .ref (q 9)) (C := RX1) (T := TX1) (N := 11) hx hb hts hin1 hown hK.1 hP 0 rfl rfl 9 (by decide) f35 (fun _ h9 => h9) rfl dX1_isInSight_1 ?_
  refine lv_iload_n hx hb dX1_isInSight_4 rfl (lv_at hl 1 rfl) ?_
  refine al_i hx hb hK.1 hP 1 0 rfl rfl (j := pt) (by omega) (Nat.le_of_ble_eq_true rfl) dX1_isInSight_5 ?_
  refine lv_iload_n hx hb dX1_isInSight_6 rfl (lv_at hl 2 rfl) ?_
  refine lv_ishr hx hb dX1_isInSight_7 ?_
  refine lv_iconst (v := 1) hx hb dX1_isInSight_8 (by decide) ?_
  refine lv_iand hx hb dX1_isInSight_9 ?_
  refine lv_if_eq (tgt := 17) hx hb dX1_isInSight_10 (by decide) (fun c_10 => ?_) (fun c_10 => ?_)
  · refine lv_iconst (v := 0) hx hb dX1_isInSight_17 (by decide) ?_
    exact hret _ _ _ (by simp [b2i, c_10]) (rfl) dX1_isInSight_18
  · refine lv_iconst (v := 1) hx hb dX1_isInSight_13 (by decide) ?_
    refine lv_goto (tgt := 18) hx hb dX1_isInSight_14 (by decide) ?_
    exact hret _ _ _ (by simp [b2i, c_10]) (rfl) dX1_isInSight_18

abbrev rX1_rightOf : Room := { frames := 0, cells := 0, slots := 0, locals := 0 }
set_option maxHeartbeats 4000000 in
set_option maxRecDepth 100000 in
theorem c_X1_rightOf (l : Launch) (G : kG) (h : Nat) (v : Nat → Int32) (q : Nat → Nat) (xs : Nat → Int32) (pt : Nat) (p : Nat) (hpt : pt < 64) (hp : p < 10) : Ri l G yX1_rightOf wsX1_rightOf rX1_rightOf [.ref h, .int (nI pt), .int (nI p)] [oB h 1 (oF1 v q), aI G (q 0) 10 xs] (fun r => r = gx xs pt p) := by
  refine Ri.of (cc := cX1_rightOf) (maxL := 3) (by decide) rfl (Nat.le_of_ble_eq_true rfl) ?_
  intro pM eM sM mM bM tM cM Q hx hb hts hown hml hP hK hret ls hl
  have hown : sM.vm.findClass RX1 = some mM.cls := hown
  have hl : lv_has ls 3 [(0, .ref h), (1, .int (nI pt)), (2, .int (nI p))] := hl
  have hin1 : ∀ w ∈ u_ws RX1 TX1 11, w ∈ wsX1_rightOf := by decide +kernel
  have f9 := hts (.fieldLink RX1 9 "HorizonPeaks$Land" "xs" "[I") (by decide +kernel)
  refine lv_aload_n hx hb dX1_rightOf_0 rfl (lv_at hl 0 rfl) ?_
  refine va_get (D := G.1) (ci := 1) (v := .ref (q 0)) (C := RX1) (T := TX1) (N := 11) hx hb hts hin1 hown hK.1 hP 0 rfl rfl 0 (by decide) f9 (fun _ h9 => h9) rfl dX1_rightOf_1 ?_
  refine lv_iload_n hx hb dX1_rightOf_4 rfl (lv_at hl 2 rfl) ?_
  refine al_i hx hb hK.1 hP 1 0 rfl rfl (j := p) (by omega) (Nat.le_of_ble_eq_true rfl) dX1_rightOf_5 ?_
  refine lv_iload_n hx hb dX1_rightOf_6 rfl (lv_at hl 1 rfl) ?_
  refine lv_bipush (v := 8) hx hb dX1_rightOf_7 (by decide) ?_
  refine lv_idiv hx hb dX1_rightOf_9 (by decide) ?_
  refine top_i (y := nI (pt / 8)) (div8 (by omega)) ?_
  refine lv_isub hx hb dX1_rightOf_10 ?_
  exact hret _ _ _ (rfl) (rfl) dX1_rightOf_11

abbrev rX1_upOf : Room := { frames := 0, cells := 0, slots := 0, locals := 0 }
set_option maxHeartbeats 4000000 in
set_option maxRecDepth 100000 in
theorem c_X1_upOf (l : Launch) (G : kG) (h : Nat) (v : Nat → Int32) (q : Nat → Nat) (ys : Nat → Int32) (pt : Nat) (p : Nat) (hpt : pt < 64) (hp : p < 10) : Ri l G yX1_upOf wsX1_upOf rX1_upOf [.ref h, .int (nI pt), .int (nI p)] [oB h 1 (oF1 v q), aI G (q 1) 10 ys] (fun r => r = gy ys pt p) := by
  refine Ri.of (cc := cX1_upOf) (maxL := 3) (by decide) rfl (Nat.le_of_ble_eq_true rfl) ?_
  intro pM eM sM mM bM tM cM Q hx hb hts hown hml hP hK hret ls hl
  have hown : sM.vm.findClass RX1 = some mM.cls := hown
  have hl : lv_has ls 3 [(0, .ref h), (1, .int (nI pt)), (2, .int (nI p))] := hl
  have hin1 : ∀ w ∈ u_ws RX1 TX1 11, w ∈ wsX1_upOf := by decide +kernel
  have f15 := hts (.fieldLink RX1 15 "HorizonPeaks$Land" "ys" "[I") (by decide +kernel)
  refine lv_aload_n hx hb dX1_upOf_0 rfl (lv_at hl 0 rfl) ?_
  refine va_get (D := G.1) (ci := 1) (v := .ref (q 1)) (C := RX1) (T := TX1) (N := 11) hx hb hts hin1 hown hK.1 hP 0 rfl rfl 1 (by decide) f15 (fun _ h9 => h9) rfl dX1_upOf_1 ?_
  refine lv_iload_n hx hb dX1_upOf_4 rfl (lv_at hl 2 rfl) ?_
  refine al_i hx hb hK.1 hP 1 0 rfl rfl (j := p) (by omega) (Nat.le_of_ble_eq_true rfl) dX1_upOf_5 ?_
  refine lv_iload_n hx hb dX1_upOf_6 rfl (lv_at hl 1 rfl) ?_
  refine lv_bipush (v := 8) hx hb dX1_upOf_7 (by decide) ?_
  refine lv_irem hx hb dX1_upOf_9 (by decide) ?_
  refine top_i (y := nI (pt % 8)) (rem8 (by omega)) ?_
  refine lv_isub hx hb dX1_upOf_10 ?_
  exact hret _ _ _ (rfl) (rfl) dX1_upOf_11

abbrev rX1_reach : Room := { frames := 1, cells := 0, slots := 0, locals := 22 }
set_option maxHeartbeats 4000000 in
set_option maxRecDepth 100000 in
theorem c_X1_reach (l : Launch) (G : kG) (h : Nat) (v : Nat → Int32) (q : Nat → Nat) (xs : Nat → Int32) (ys : Nat → Int32) (pt : Nat) (p : Nat) (hpt : pt < 64) (hp : p < 10) : Ri l G yX1_reach wsX1_reach rX1_reach [.ref h, .int (nI pt), .int (nI p)] [oB h 1 (oF1 v q), aI G (q 0) 10 xs, aI G (q 1) 10 ys] (fun r => r = gway xs ys pt p) := by
  refine Ri.of (cc := cX1_reach) (maxL := 3) (by decide) rfl (Nat.le_of_ble_eq_true rfl) ?_
  intro pM eM sM mM bM tM cM Q hx hb hts hown hml hP hK hret ls hl
  have hown : sM.vm.findClass RX1 = some mM.cls := hown
  have hl : lv_has ls 3 [(0, .ref h), (1, .int (nI pt)), (2, .int (nI p))] := hl
  refine lv_aload_n hx hb dX1_reach_0 rfl (lv_at hl 0 rfl) ?_
  refine lv_iload_n hx hb dX1_reach_1 rfl (lv_at hl 1 rfl) ?_
  refine lv_iload_n hx hb dX1_reach_2 rfl (lv_at hl 2 rfl) ?_
  refine rd_i (va_runV (As := [.int (nI pt), .int (nI p)]) (rest := []) ⟨hx, hb, hml, hown, hts⟩ (c_X1_rightOf l G h v q xs pt p (by assumption) (by assumption)) (cwV 2 hts gX1_reach_X1_rightOf rfl rfl rfl (by decide +kernel) ⟨Nat.le_of_ble_eq_true rfl, Nat.le_of_ble_eq_true rfl⟩) (rPre_V hK hP [0, 1] rfl 0 1 rfl rfl) rfl rfl hl.1 rfl (lv_room (Nat.le_of_ble_eq_true rfl)) dX1_reach_3 ⟨Nat.zero_le _, Nat.zero_le _⟩) (fun r_3 q_3 => ?_)
  obtain rfl : r_3 = gx xs pt p := q_3
  refine va_mabs hx hb (hml.trans hl.1.symm) hown (hts (.methodLink RX1 76 Lib.Math.abs.name) (by decide +kernel)) (hts (.static Lib.Math.abs.name) (by decide +kernel)) (hts (.initialized "java/lang/Math") (by decide +kernel)) (hts (.code Lib.Math.abs.name Lib.Math.abs.code 1 (some .int)) (by decide +kernel)) (Nat.le_of_ble_eq_true rfl) (Nat.le_of_ble_eq_true rfl) (Nat.zero_le _) (Nat.zero_le _) dX1_reach_6 ?_
  refine top_i (y := iabs (gx xs pt p)) rfl ?_
  refine lv_aload_n hx hb dX1_reach_9 rfl (lv_at hl 0 rfl) ?_
  refine lv_iload_n hx hb dX1_reach_10 rfl (lv_at hl 1 rfl) ?_
  refine lv_iload_n hx hb dX1_reach_11 rfl (lv_at hl 2 rfl) ?_
  refine rd_i (va_runV (As := [.int (nI pt), .int (nI p)]) (rest := [.int (iabs (gx xs pt p))]) ⟨hx, hb, hml, hown, hts⟩ (c_X1_upOf l G h v q ys pt p (by assumption) (by assumption)) (cwV 2 hts gX1_reach_X1_upOf rfl rfl rfl (by decide +kernel) ⟨Nat.le_of_ble_eq_true rfl, Nat.le_of_ble_eq_true rfl⟩) (rPre_V hK hP [0, 2] rfl 0 1 rfl rfl) rfl rfl hl.1 rfl (lv_room (Nat.le_of_ble_eq_true rfl)) dX1_reach_12 ⟨Nat.zero_le _, Nat.zero_le _⟩) (fun r_12 q_12 => ?_)
  obtain rfl : r_12 = gy ys pt p := q_12
  refine va_mabs hx hb (hml.trans hl.1.symm) hown (hts (.methodLink RX1 76 Lib.Math.abs.name) (by decide +kernel)) (hts (.static Lib.Math.abs.name) (by decide +kernel)) (hts (.initialized "java/lang/Math") (by decide +kernel)) (hts (.code Lib.Math.abs.name Lib.Math.abs.code 1 (some .int)) (by decide +kernel)) (Nat.le_of_ble_eq_true rfl) (Nat.le_of_ble_eq_true rfl) (Nat.zero_le _) (Nat.zero_le _) dX1_reach_15 ?_
  refine top_i (y := iabs (gy ys pt p)) rfl ?_
  refine va_mmax hx hb (hml.trans hl.1.symm) hown (hts (.methodLink RX1 85 Lib.Math.max.name) (by decide +kernel)) (hts (.static Lib.Math.max.name) (by decide +kernel)) (hts (.initialized "java/lang/Math") (by decide +kernel)) (hts (.code Lib.Math.max.name Lib.Math.max.code 2 (some .int)) (by decide +kernel)) (Nat.le_of_ble_eq_true rfl) (Nat.le_of_ble_eq_true rfl) (Nat.zero_le _) (Nat.zero_le _) dX1_reach_18 ?_
  refine top_i (y := imax (iabs (gx xs pt p)) (iabs (gy ys pt p))) rfl ?_
  exact hret _ _ _ (rfl) (rfl) dX1_reach_21

abbrev rX1_turnLeft : Room := { frames := 1, cells := 0, slots := 0, locals := 22 }
set_option maxHeartbeats 4000000 in
set_option maxRecDepth 100000 in
theorem c_X1_turnLeft (l : Launch) (G : kG) (h : Nat) (v : Nat → Int32) (q : Nat → Nat) (xs : Nat → Int32) (ys : Nat → Int32) (pt : Nat) (p : Nat) (p2 : Nat) (hpt : pt < 64) (hp : p < 10) (hp2 : p2 < 10) : Ri l G yX1_turnLeft wsX1_turnLeft rX1_turnLeft [.ref h, .int (nI pt), .int (nI p), .int (nI p2)] [oB h 1 (oF1 v q), aI G (q 0) 10 xs, aI G (q 1) 10 ys] (fun r => r = gturn xs ys pt p p2) := by
  refine Ri.of (cc := cX1_turnLeft) (maxL := 4) (by decide) rfl (Nat.le_of_ble_eq_true rfl) ?_
  intro pM eM sM mM bM tM cM Q hx hb hts hown hml hP hK hret ls hl
  have hown : sM.vm.findClass RX1 = some mM.cls := hown
  have hl : lv_has ls 4 [(0, .ref h), (1, .int (nI pt)), (2, .int (nI p)), (3, .int (nI p2))] := hl
  refine lv_aload_n hx hb dX1_turnLeft_0 rfl (lv_at hl 0 rfl) ?_
  refine lv_iload_n hx hb dX1_turnLeft_1 rfl (lv_at hl 1 rfl) ?_
  refine lv_iload_n hx hb dX1_turnLeft_2 rfl (lv_at hl 2 rfl) ?_
  refine rd_i (va_runV (As := [.int (nI pt), .int (nI p)]) (rest := []) ⟨hx, hb, hml, hown, hts⟩ (c_X1_rightOf l G h v q xs pt p (by assumption) (by assumption)) (cwV 2 hts gX1_turnLeft_X1_rightOf rfl rfl rfl (by decide +kernel) ⟨Nat.le_of_ble_eq_true rfl, Nat.le_of_ble_eq_true rfl⟩) (rPre_V hK hP [0, 1] rfl 0 1 rfl rfl) rfl rfl hl.1 rfl (lv_room (Nat.le_of_ble_eq_true rfl)) dX1_turnLeft_3 ⟨Nat.zero_le _, Nat.zero_le _⟩) (fun r_3 q_3 => ?_)
  obtain rfl : r_3 = gx xs pt p := q_3
  refine lv_aload_n hx hb dX1_turnLeft_6 rfl (lv_at hl 0 rfl) ?_
  refine lv_iload_n hx hb dX1_turnLeft_7 rfl (lv_at hl 1 rfl) ?_
  refine lv_iload_n hx hb dX1_turnLeft_8 rfl (lv_at hl 3 rfl) ?_
  refine rd_i (va_runV (As := [.int (nI pt), .int (nI p2)]) (rest := [.int (gx xs pt p)]) ⟨hx, hb, hml, hown, hts⟩ (c_X1_upOf l G h v q ys pt p2 (by assumption) (by assumption)) (cwV 2 hts gX1_turnLeft_X1_upOf rfl rfl rfl (by decide +kernel) ⟨Nat.le_of_ble_eq_true rfl, Nat.le_of_ble_eq_true rfl⟩) (rPre_V hK hP [0, 2] rfl 0 1 rfl rfl) rfl rfl hl.1 rfl (lv_room (Nat.le_of_ble_eq_true rfl)) dX1_turnLeft_9 ⟨Nat.zero_le _, Nat.zero_le _⟩) (fun r_9 q_9 => ?_)
  obtain rfl : r_9 = gy ys pt p2 := q_9
  refine lv_imul hx hb dX1_turnLeft_12 ?_
  refine lv_aload_n hx hb dX1_turnLeft_13 rfl (lv_at hl 0 rfl) ?_
  refine lv_iload_n hx hb dX1_turnLeft_14 rfl (lv_at hl 1 rfl) ?_
  refine lv_iload_n hx hb dX1_turnLeft_15 rfl (lv_at hl 2 rfl) ?_
  refine rd_i (va_runV (As := [.int (nI pt), .int (nI p)]) (rest := [.int ((gx xs pt p) * (gy ys pt p2))]) ⟨hx, hb, hml, hown, hts⟩ (c_X1_upOf l G h v q ys pt p (by assumption) (by assumption)) (cwV 2 hts gX1_turnLeft_X1_upOf rfl rfl rfl (by decide +kernel) ⟨Nat.le_of_ble_eq_true rfl, Nat.le_of_ble_eq_true rfl⟩) (rPre_V hK hP [0, 2] rfl 0 1 rfl rfl) rfl rfl hl.1 rfl (lv_room (Nat.le_of_ble_eq_true rfl)) dX1_turnLeft_16 ⟨Nat.zero_le _, Nat.zero_le _⟩) (fun r_16 q_16 => ?_)
  obtain rfl : r_16 = gy ys pt p := q_16
  refine lv_aload_n hx hb dX1_turnLeft_19 rfl (lv_at hl 0 rfl) ?_
  refine lv_iload_n hx hb dX1_turnLeft_20 rfl (lv_at hl 1 rfl) ?_
  refine lv_iload_n hx hb dX1_turnLeft_21 rfl (lv_at hl 3 rfl) ?_
  refine rd_i (va_runV (As := [.int (nI pt), .int (nI p2)]) (rest := [.int (gy ys pt p), .int ((gx xs pt p) * (gy ys pt p2))]) ⟨hx, hb, hml, hown, hts⟩ (c_X1_rightOf l G h v q xs pt p2 (by assumption) (by assumption)) (cwV 2 hts gX1_turnLeft_X1_rightOf rfl rfl rfl (by decide +kernel) ⟨Nat.le_of_ble_eq_true rfl, Nat.le_of_ble_eq_true rfl⟩) (rPre_V hK hP [0, 1] rfl 0 1 rfl rfl) rfl rfl hl.1 rfl (lv_room (Nat.le_of_ble_eq_true rfl)) dX1_turnLeft_22 ⟨Nat.zero_le _, Nat.zero_le _⟩) (fun r_22 q_22 => ?_)
  obtain rfl : r_22 = gx xs pt p2 := q_22
  refine lv_imul hx hb dX1_turnLeft_25 ?_
  refine lv_isub hx hb dX1_turnLeft_26 ?_
  exact hret _ _ _ (rfl) (rfl) dX1_turnLeft_27

abbrev rX1_isSameDirection : Room := { frames := 2, cells := 0, slots := 0, locals := 45 }
set_option maxHeartbeats 4000000 in
set_option maxRecDepth 100000 in
theorem c_X1_isSameDirection (l : Launch) (G : kG) (h : Nat) (v : Nat → Int32) (q : Nat → Nat) (xs : Nat → Int32) (ys : Nat → Int32) (pt : Nat) (p : Nat) (p2 : Nat) (hpt : pt < 64) (hp : p < 10) (hp2 : p2 < 10) : Ri l G yX1_isSameDirection wsX1_isSameDirection rX1_isSameDirection [.ref h, .int (nI pt), .int (nI p), .int (nI p2)] [oB h 1 (oF1 v q), aI G (q 0) 10 xs, aI G (q 1) 10 ys] (fun r => r = b2i (gsame xs ys pt p p2)) := by
  refine Ri.of (cc := cX1_isSameDirection) (maxL := 5) (by decide) rfl (Nat.le_of_ble_eq_true rfl) ?_
  intro pM eM sM mM bM tM cM Q hx hb hts hown hml hP hK hret ls hl
  have hown : sM.vm.findClass RX1 = some mM.cls := hown
  have hl : lv_has ls 5 [(0, .ref h), (1, .int (nI pt)), (2, .int (nI p)), (3, .int (nI p2))] := hl
  refine lv_aload_n hx hb dX1_isSameDirection_0 rfl (lv_at hl 0 rfl) ?_
  refine lv_iload_n hx hb dX1_isSameDirection_1 rfl (lv_at hl 1 rfl) ?_
  refine lv_iload_n hx hb dX1_isSameDirection_2 rfl (lv_at hl 2 rfl) ?_
  refine rd_i (va_runV (As := [.int (nI pt), .int (nI p)]) (rest := []) ⟨hx, hb, hml, hown, hts⟩ (c_X1_rightOf l G h v q xs pt p (by assumption) (by assumption)) (cwV 2 hts gX1_isSameDirection_X1_rightOf rfl rfl rfl (by decide +kernel) ⟨Nat.le_of_ble_eq_true rfl, Nat.le_of_ble_eq_true rfl⟩) (rPre_V hK hP [0, 1] rfl 0 1 rfl rfl) rfl rfl hl.1 rfl (lv_room (Nat.le_of_ble_eq_true rfl)) dX1_isSameDirection_3 ⟨Nat.zero_le _, Nat.zero_le _⟩) (fun r_3 q_3 => ?_)
  obtain rfl : r_3 = gx xs pt p := q_3
  refine lv_aload_n hx hb dX1_isSameDirection_6 rfl (lv_at hl 0 rfl) ?_
  refine lv_iload_n hx hb dX1_isSameDirection_7 rfl (lv_at hl 1 rfl) ?_
  refine lv_iload_n hx hb dX1_isSameDirection_8 rfl (lv_at hl 3 rfl) ?_
  refine rd_i (va_runV (As := [.int (nI pt), .int (nI p2)]) (rest := [.int (gx xs pt p)]) ⟨hx, hb, hml, hown, hts⟩ (c_X1_rightOf l G h v q xs pt p2 (by assumption) (by assumption)) (cwV 2 hts gX1_isSameDirection_X1_rightOf rfl rfl rfl (by decide +kernel) ⟨Nat.le_of_ble_eq_true rfl, Nat.le_of_ble_eq_true rfl⟩) (rPre_V hK hP [0, 1] rfl 0 1 rfl rfl) rfl rfl hl.1 rfl (lv_room (Nat.le_of_ble_eq_true rfl)) dX1_isSameDirection_9 ⟨Nat.zero_le _, Nat.zero_le _⟩) (fun r_9 q_9 => ?_)
  obtain rfl : r_9 = gx xs pt p2 := q_9
  refine lv_imul hx hb dX1_isSameDirection_12 ?_
  refine lv_aload_n hx hb dX1_isSameDirection_13 rfl (lv_at hl 0 rfl) ?_
  refine lv_iload_n hx hb dX1_isSameDirection_14 rfl (lv_at hl 1 rfl) ?_
  refine lv_iload_n hx hb dX1_isSameDirection_15 rfl (lv_at hl 2 rfl) ?_
  refine rd_i (va_runV (As := [.int (nI pt), .int (nI p)]) (rest := [.int ((gx xs pt p) * (gx xs pt p2))]) ⟨hx, hb, hml, hown, hts⟩ (c_X1_upOf l G h v q ys pt p (by assumption) (by assumption)) (cwV 2 hts gX1_isSameDirection_X1_upOf rfl rfl rfl (by decide +kernel) ⟨Nat.le_of_ble_eq_true rfl, Nat.le_of_ble_eq_true rfl⟩) (rPre_V hK hP [0, 2] rfl 0 1 rfl rfl) rfl rfl hl.1 rfl (lv_room (Nat.le_of_ble_eq_true rfl)) dX1_isSameDirection_16 ⟨Nat.zero_le _, Nat.zero_le _⟩) (fun r_16 q_16 => ?_)
  obtain rfl : r_16 = gy ys pt p := q_16
  refine lv_aload_n hx hb dX1_isSameDirection_19 rfl (lv_at hl 0 rfl) ?_
  refine lv_iload_n hx hb dX1_isSameDirection_20 rfl (lv_at hl 1 rfl) ?_
  refine lv_iload_n hx hb dX1_isSameDirection_21 rfl (lv_at hl 3 rfl) ?_
  refine rd_i (va_runV (As := [.int (nI pt), .int (nI p2)]) (rest := [.int (gy ys pt p), .int ((gx xs pt p) * (gx xs pt p2))]) ⟨hx, hb, hml, hown, hts⟩ (c_X1_upOf l G h v q ys pt p2 (by assumption) (by assumption)) (cwV 2 hts gX1_isSameDirection_X1_upOf rfl rfl rfl (by decide +kernel) ⟨Nat.le_of_ble_eq_true rfl, Nat.le_of_ble_eq_true rfl⟩) (rPre_V hK hP [0, 2] rfl 0 1 rfl rfl) rfl rfl hl.1 rfl (lv_room (Nat.le_of_ble_eq_true rfl)) dX1_isSameDirection_22 ⟨Nat.zero_le _, Nat.zero_le _⟩) (fun r_22 q_22 => ?_)
  obtain rfl : r_22 = gy ys pt p2 := q_22
  refine lv_imul hx hb dX1_isSameDirection_25 ?_
  refine lv_iadd hx hb dX1_isSameDirection_26 ?_
  refine lv_istore (lv' := [(4, .int (((gx xs pt p) * (gx xs pt p2)) + ((gy ys pt p) * (gy ys pt p2)))), (0, .ref h), (1, .int (nI pt)), (2, .int (nI p)), (3, .int (nI p2))]) hx hb dX1_isSameDirection_27 hl (by decide) rfl (fun ls hl => ?_)
  refine lv_iload hx hb dX1_isSameDirection_29 (lv_at hl 0 rfl) ?_
  refine lv_if_le (tgt := 48) hx hb dX1_isSameDirection_31 (by decide) (fun c_31 => ?_) (fun c_31 => ?_)
  · refine lv_iconst (v := 0) hx hb dX1_isSameDirection_48 (by decide) ?_
    exact hret _ _ _ (by simp [b2i, gsame, c_31]) (rfl) dX1_isSameDirection_49
  · refine lv_aload_n hx hb dX1_isSameDirection_34 rfl (lv_at hl 1 rfl) ?_
    refine lv_iload_n hx hb dX1_isSameDirection_35 rfl (lv_at hl 2 rfl) ?_
    refine lv_iload_n hx hb dX1_isSameDirection_36 rfl (lv_at hl 3 rfl) ?_
    refine lv_iload_n hx hb dX1_isSameDirection_37 rfl (lv_at hl 4 rfl) ?_
    refine rd_i (va_runV (As := [.int (nI pt), .int (nI p), .int (nI p2)]) (rest := []) ⟨hx, hb, hml, hown, hts⟩ (c_X1_turnLeft l G h v q xs ys pt p p2 (by assumption) (by assumption) (by assumption)) (cwV 3 hts gX1_isSameDirection_X1_turnLeft rfl rfl rfl (by decide +kernel) ⟨Nat.le_of_ble_eq_true rfl, Nat.le_of_ble_eq_true rfl⟩) (rPre_V hK hP [0, 1, 2] rfl 0 1 rfl rfl) rfl rfl hl.1 rfl (lv_room (Nat.le_of_ble_eq_true rfl)) dX1_isSameDirection_38 ⟨Nat.zero_le _, Nat.zero_le _⟩) (fun r_38 q_38 => ?_)
    obtain rfl : r_38 = gturn xs ys pt p p2 := q_38
    refine lv_if_ne (tgt := 48) hx hb dX1_isSameDirection_41 (by decide) (fun c_41 => ?_) (fun c_41 => ?_)
    · refine lv_iconst (v := 0) hx hb dX1_isSameDirection_48 (by decide) ?_
      exact hret _ _ _ (by simp [b2i, gsame, c_31, c_41]) (rfl) dX1_isSameDirection_49
    · refine lv_iconst (v := 1) hx hb dX1_isSameDirection_44 (by decide) ?_
      refine lv_goto (tgt := 49) hx hb dX1_isSameDirection_45 (by decide) ?_
      exact hret _ _ _ (by simp [b2i, gsame, c_31, c_41]) (rfl) dX1_isSameDirection_49

abbrev rX1_peakHides : Room := { frames := 3, cells := 0, slots := 0, locals := 69 }
set_option maxHeartbeats 4000000 in
set_option maxRecDepth 100000 in
theorem c_X1_peakHides (l : Launch) (G : kG) (h : Nat) (v : Nat → Int32) (q : Nat → Nat) (xs : Nat → Int32) (ys : Nat → Int32) (hs : Nat → Int32) (pt : Nat) (p : Nat) (p2 : Nat) (hpt : pt < 64) (hp : p < 10) (hp2 : p2 < 10) : Ri l G yX1_peakHides wsX1_peakHides rX1_peakHides [.ref h, .int (nI pt), .int (nI p), .int (nI p2)] [oB h 1 (oF1 v q), aI G (q 0) 10 xs, aI G (q 1) 10 ys, aI G (q 2) 10 hs] (fun r => r = b2i (gpeak xs ys hs pt p p2)) := by
  refine Ri.of (cc := cX1_peakHides) (maxL := 6) (by decide) rfl (Nat.le_of_ble_eq_true rfl) ?_
  intro pM eM sM mM bM tM cM Q hx hb hts hown hml hP hK hret ls hl
  have hown : sM.vm.findClass RX1 = some mM.cls := hown
  have hl : lv_has ls 6 [(0, .ref h), (1, .int (nI pt)), (2, .int (nI p)), (3, .int (nI p2))] := hl
  have hin1 : ∀ w ∈ u_ws RX1 TX1 11, w ∈ wsX1_peakHides := by decide +kernel
  have f18 := hts (.fieldLink RX1 18 "HorizonPeaks$Land" "highs" "[I") (by decide +kernel)
  refine lv_aload_n hx hb dX1_peakHides_0 rfl (lv_at hl 0 rfl) ?_
  refine lv_iload_n hx hb dX1_peakHides_1 rfl (lv_at hl 1 rfl) ?_
  refine lv_iload_n hx hb dX1_peakHides_2 rfl (lv_at hl 2 rfl) ?_
  refine rd_i (va_runV (As := [.int (nI pt), .int (nI p)]) (rest := []) ⟨hx, hb, hml, hown, hts⟩ (c_X1_reach l G h v q xs ys pt p (by assumption) (by assumption)) (cwV 2 hts gX1_peakHides_X1_reach rfl rfl rfl (by decide +kernel) ⟨Nat.le_of_ble_eq_true rfl, Nat.le_of_ble_eq_true rfl⟩) (rPre_V hK hP [0, 1, 2] rfl 0 1 rfl rfl) rfl rfl hl.1 rfl (lv_room (Nat.le_of_ble_eq_true rfl)) dX1_peakHides_3 ⟨Nat.zero_le _, Nat.zero_le _⟩) (fun r_3 q_3 => ?_)
  obtain rfl : r_3 = gway xs ys pt p := q_3
  refine lv_istore (lv' := [(4, .int (gway xs ys pt p)), (0, .ref h), (1, .int (nI pt)), (2, .int (nI p)), (3, .int (nI p2))]) hx hb dX1_peakHides_6 hl (by decide) rfl (fun ls hl => ?_)
  refine lv_aload_n hx hb dX1_peakHides_8 rfl (lv_at hl 1 rfl) ?_
  refine lv_iload_n hx hb dX1_peakHides_9 rfl (lv_at hl 2 rfl) ?_
  refine lv_iload_n hx hb dX1_peakHides_10 rfl (lv_at hl 4 rfl) ?_
  refine rd_i (va_runV (As := [.int (nI pt), .int (nI p2)]) (rest := []) ⟨hx, hb, hml, hown, hts⟩ (c_X1_reach l G h v q xs ys pt p2 (by assumption) (by assumption)) (cwV 2 hts gX1_peakHides_X1_reach rfl rfl rfl (by decide +kernel) ⟨Nat.le_of_ble_eq_true rfl, Nat.le_of_ble_eq_true rfl⟩) (rPre_V hK hP [0, 1, 2] rfl 0 1 rfl rfl) rfl rfl hl.1 rfl (lv_room (Nat.le_of_ble_eq_true rfl)) dX1_peakHides_11 ⟨Nat.zero_le _, Nat.zero_le _⟩) (fun r_11 q_11 => ?_)
  obtain rfl : r_11 = gway xs ys pt p2 := q_11
  refine lv_istore (lv' := [(5, .int (gway xs ys pt p2)), (4, .int (gway xs ys pt p)), (0, .ref h), (1, .int (nI pt)), (2, .int (nI p)), (3, .int (nI p2))]) hx hb dX1_peakHides_14 hl (by decide) rfl (fun ls hl => ?_)
  refine lv_iload hx hb dX1_peakHides_16 (lv_at hl 0 rfl) ?_
  refine lv_iload hx hb dX1_peakHides_18 (lv_at hl 1 rfl) ?_
  refine lv_icmp_ge (tgt := 58) hx hb dX1_peakHides_20 (by decide) (fun c_20 => ?_) (fun c_20 => ?_)
  · refine lv_iconst (v := 0) hx hb dX1_peakHides_58 (by decide) ?_
    exact hret _ _ _ (by simp [b2i, gpeak, c_20]) (rfl) dX1_peakHides_59
  · refine lv_aload_n hx hb dX1_peakHides_23 rfl (lv_at hl 2 rfl) ?_
    refine lv_iload_n hx hb dX1_peakHides_24 rfl (lv_at hl 3 rfl) ?_
    refine lv_iload_n hx hb dX1_peakHides_25 rfl (lv_at hl 4 rfl) ?_
    refine lv_iload_n hx hb dX1_peakHides_26 rfl (lv_at hl 5 rfl) ?_
    refine rd_i (va_runV (As := [.int (nI pt), .int (nI p), .int (nI p2)]) (rest := []) ⟨hx, hb, hml, hown, hts⟩ (c_X1_isSameDirection l G h v q xs ys pt p p2 (by assumption) (by assumption) (by assumption)) (cwV 3 hts gX1_peakHides_X1_isSameDirection rfl rfl rfl (by decide +kernel) ⟨Nat.le_of_ble_eq_true rfl, Nat.le_of_ble_eq_true rfl⟩) (rPre_V hK hP [0, 1, 2] rfl 0 1 rfl rfl) rfl rfl hl.1 rfl (lv_room (Nat.le_of_ble_eq_true rfl)) dX1_peakHides_27 ⟨Nat.zero_le _, Nat.zero_le _⟩) (fun r_27 q_27 => ?_)
    obtain rfl : r_27 = b2i (gsame xs ys pt p p2) := q_27
    refine lv_if_eq (tgt := 58) hx hb dX1_peakHides_30 (by decide) (fun c_30 => ?_) (fun c_30 => ?_)
    · have c_30 : (gsame xs ys pt p p2) = false := b2i_0.mp c_30
      refine lv_iconst (v := 0) hx hb dX1_peakHides_58 (by decide) ?_
      exact hret _ _ _ (by simp [b2i, gpeak, c_20, c_30]) (rfl) dX1_peakHides_59
    · have c_30 : (gsame xs ys pt p p2) = true := b2i_n0.mp c_30
      refine lv_aload_n hx hb dX1_peakHides_33 rfl (lv_at hl 2 rfl) ?_
      refine va_get (D := G.1) (ci := 1) (v := .ref (q 2)) (C := RX1) (T := TX1) (N := 11) hx hb hts hin1 hown hK.1 hP 0 rfl rfl 2 (by decide) f18 (fun _ h9 => h9) rfl dX1_peakHides_34 ?_
      refine lv_iload_n hx hb dX1_peakHides_37 rfl (lv_at hl 5 rfl) ?_
      refine al_i hx hb hK.1 hP 3 0 rfl rfl (j := p2) (by omega) (Nat.le_of_ble_eq_true rfl) dX1_peakHides_38 ?_
      refine lv_iload hx hb dX1_peakHides_39 (lv_at hl 1 rfl) ?_
      refine lv_imul hx hb dX1_peakHides_41 ?_
      refine lv_aload_n hx hb dX1_peakHides_42 rfl (lv_at hl 2 rfl) ?_
      refine va_get (D := G.1) (ci := 1) (v := .ref (q 2)) (C := RX1) (T := TX1) (N := 11) hx hb hts hin1 hown hK.1 hP 0 rfl rfl 2 (by decide) f18 (fun _ h9 => h9) rfl dX1_peakHides_43 ?_
      refine lv_iload_n hx hb dX1_peakHides_46 rfl (lv_at hl 4 rfl) ?_
      refine al_i hx hb hK.1 hP 3 0 rfl rfl (j := p) (by omega) (Nat.le_of_ble_eq_true rfl) dX1_peakHides_47 ?_
      refine lv_iload hx hb dX1_peakHides_48 (lv_at hl 0 rfl) ?_
      refine lv_imul hx hb dX1_peakHides_50 ?_
      refine lv_icmp_lt (tgt := 58) hx hb dX1_peakHides_51 (by decide) (fun c_51 => ?_) (fun c_51 => ?_)
      · refine lv_iconst (v := 0) hx hb dX1_peakHides_58 (by decide) ?_
        exact hret _ _ _ (by simp [b2i, gpeak, c_20, c_30, c_51]) (rfl) dX1_peakHides_59
      · refine lv_iconst (v := 1) hx hb dX1_peakHides_54 (by decide) ?_
        refine lv_goto (tgt := 59) hx hb dX1_peakHides_55 (by decide) ?_
        exact hret _ _ _ (by simp [b2i, gpeak, c_20, c_30, c_51]) (rfl) dX1_peakHides_59
