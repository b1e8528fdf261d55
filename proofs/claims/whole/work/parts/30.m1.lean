/-! THE MODEL -/
theorem snd_i {p : Program} {l : Launch} {e : Env} {R : Room} {s : State} {m : MethodId} {args : Array Value} {below : List Frame} {meth : Method} {c : Code} {H : Heap} {locs : List Loc} {cells slots : Nat} {Q : State → Prop} {pc : Nat} {ls : Array Slot} {rest : List Value} {v : Value} {x y : Int32} (h : x = y) (k : W p l e R s m args below meth c H locs cells slots Q (F0 m pc ls (v :: .int y :: rest))) : W p l e R s m args below meth c H locs cells slots Q (F0 m pc ls (v :: .int x :: rest)) := h ▸ k
def pIn (x lo hi : Int32) : Bool := !decide (x < lo) && !decide (hi < x)
def isz (x : Int32) : Int32 := if 0 ≤ x then x else -x
def mway (dx dy : Int32) : Int32 := if isz dx ≤ isz dy then isz dy else isz dx
def mlow (n d : Int32) : Int32 := if 0 ≤ d then (if n < 0 then -((isz d - 1 - n) / isz d) else n / isz d) else (if -n < 0 then -((isz d - 1 - (-n)) / isz d) else (-n) / isz d)
def mbear0 (dx dy : Int32) : Int32 := if isz dx < isz dy then 16 + mlow (-8 * dx) dy + (if 0 ≤ dy then 0 else 32) else mlow (8 * dy) dx + (if 0 ≤ dx then 0 else 32)
def mbear (dx dy : Int32) : Int32 := if 0 ≤ mbear0 dx dy then mbear0 dx dy else mbear0 dx dy + 64
def mup (dx dy : Int32) : Bool := decide (0 < dy) || (decide (dy = 0) && !decide (dx ≤ 0))
theorem pIn_has {n : Nat} {x : Int32} (hn : n < 2147483648) : pIn x 0 (nI n - 1) = pHas (nI n) x := by
  unfold pIn pHas
  by_cases h0 : x < 0
  · simp [h0]
  · obtain ⟨j, hj, rfl⟩ := nI_of h0
    have e : (nI n - 1 < nI j) = (nI n ≤ nI j) := by
      apply propext
      rw [Int32.lt_iff_toInt_lt, Int32.le_iff_toInt_le, nI_toInt hj, nI_toInt hn]
      cases n with
      | zero =>
        show (-1 : Int) < _ ↔ _
        omega
      | succ n => rw [nI_pred, nI_toInt (by omega)]; omega
    simp only [e]
theorem pIn_look (x : Int32) : pIn x 0 63 = pLook x := by
  unfold pIn pLook
  by_cases h0 : x < 0
  · simp [h0]
  · obtain ⟨j, hj, rfl⟩ := nI_of h0
    have e : ((63 : Int32) < nI j) = ((64 : Int32) ≤ nI j) := by
      apply propext
      exact (c_lt (a := 63) (b := j) rfl rfl (by omega) hj).trans (Iff.trans (by omega) (c_le (a := 64) (b := j) rfl rfl (by omega) hj).symm)
    simp only [e]
theorem isz_0 {x : Int32} : isz x = 0 ↔ x = 0 := by
  unfold isz
  by_cases h : 0 ≤ x
  · rw [if_pos h]
  · rw [if_neg h]
    constructor
    · intro e
      have := congrArg (fun z => -z) e
      simpa using this
    · intro e; rw [e]; rfl
theorem le_of_nlt {x y : Int32} (h : ¬ x < y) : y ≤ x := by rw [Int32.le_iff_toInt_le]; rw [Int32.lt_iff_toInt_lt] at h; omega
theorem pIn7 {x : Int32} (h : pIn x 0 7 = true) : ∃ X : Nat, X < 8 ∧ x = nI X := by
  simp only [pIn, Bool.and_eq_true, Bool.not_eq_true', decide_eq_false_iff_not] at h
  obtain ⟨j, hj, rfl⟩ := nI_of h.1
  exact ⟨j, by have : ¬ 7 < j := fun q => h.2 ((c_lt (a := 7) rfl rfl (by omega) hj).mpr q)
               omega, rfl⟩
theorem pPlace_x {pk : Nat → Int32} {x y : Int32} (h : pIn x 0 7 = false) : pPlace pk x y = false := by
  cases e : pPlace pk x y with
  | false => rfl
  | true =>
    obtain ⟨X, Y, hX, hY, rfl, rfl, -⟩ := pPlace_of e
    exfalso
    have a1 : ¬ nI X < 0 := nI_pos (by omega)
    have a2 : ¬ (7 : Int32) < nI X := fun q => absurd ((c_lt (a := 7) rfl rfl (by omega) (by omega)).mp q) (by omega)
    simp [pIn, a1, a2] at h
theorem pPlace_y {pk : Nat → Int32} {x y : Int32} (h : pIn y 0 7 = false) : pPlace pk x y = false := by
  cases e : pPlace pk x y with
  | false => rfl
  | true =>
    obtain ⟨X, Y, hX, hY, rfl, rfl, -⟩ := pPlace_of e
    exfalso
    have a1 : ¬ nI Y < 0 := nI_pos (by omega)
    have a2 : ¬ (7 : Int32) < nI Y := fun q => absurd ((c_lt (a := 7) rfl rfl (by omega) (by omega)).mp q) (by omega)
    simp [pIn, a1, a2] at h
theorem mul8' (j k : Nat) : 8 * nI j + nI k = nI (j * 8 + k) := by rw [show (8 : Int32) = nI 8 from rfl, pk_mul, nI_add, Nat.mul_comm]
theorem ty_in (x : Int32) : tyOk x = pIn x 0 255 := by
  unfold tyOk pIn
  have e : (x ≤ 255) ↔ ¬ (255 < x) := by rw [Int32.le_iff_toInt_le, Int32.lt_iff_toInt_lt]; omega
  by_cases c : x ≤ 255
  · simp [c, e.mp c]
  · have : (255 : Int32) < x := Classical.byContradiction (fun q => c (e.mpr q))
    simp [c, this]
abbrev rX8_in : Room := { frames := 0, cells := 0, slots := 0, locals := 0 }
set_option maxHeartbeats 4000000 in
set_option maxRecDepth 100000 in
theorem c_X8_in (l : Launch) (G : kG) (x : Int32) (y : Int32) (z : Int32) : Ri l G yX8_in wsX8_in rX8_in [.int x, .int y, .int z] [] (fun r => r = b2i (pIn x y z)) := by
  refine Ri.of (cc := cX8_in) (maxL := 3) (by decide) rfl (Nat.le_of_ble_eq_true rfl) ?_
  intro pM eM sM mM bM tM cM Q hx hb hts hown hml hP hK hret ls hl
  have hown : sM.vm.findClass RX8 = some mM.cls := hown
  have hl : lv_has ls 3 [(0, .int x), (1, .int y), (2, .int z)] := hl
  refine lv_iload_n hx hb dX8_in_0 rfl (lv_at hl 0 rfl) ?_
  refine lv_iload_n hx hb dX8_in_1 rfl (lv_at hl 1 rfl) ?_
  refine lv_icmp_lt (tgt := 14) hx hb dX8_in_2 (by decide) (fun c_2 => ?_) (fun c_2 => ?_)
  · refine lv_iconst (v := 0) hx hb dX8_in_14 (by decide) ?_
    exact hret _ _ _ (by simp [b2i, pIn, c_2]) (rfl) dX8_in_15
  · refine lv_iload_n hx hb dX8_in_5 rfl (lv_at hl 0 rfl) ?_
    refine lv_iload_n hx hb dX8_in_6 rfl (lv_at hl 2 rfl) ?_
    refine lv_icmp_gt (tgt := 14) hx hb dX8_in_7 (by decide) (fun c_7 => ?_) (fun c_7 => ?_)
    · refine lv_iconst (v := 0) hx hb dX8_in_14 (by decide) ?_
      exact hret _ _ _ (by simp [b2i, pIn, c_2, c_7]) (rfl) dX8_in_15
    · refine lv_iconst (v := 1) hx hb dX8_in_10 (by decide) ?_
      refine lv_goto (tgt := 15) hx hb dX8_in_11 (by decide) ?_
      exact hret _ _ _ (by simp [b2i, pIn, c_2, c_7]) (rfl) dX8_in_15

abbrev rX8_size : Room := { frames := 0, cells := 0, slots := 0, locals := 0 }
set_option maxHeartbeats 4000000 in
set_option maxRecDepth 100000 in
theorem c_X8_size (l : Launch) (G : kG) (x : Int32) : Ri l G yX8_size wsX8_size rX8_size [.int x] [] (fun r => r = isz x) := by
  refine Ri.of (cc := cX8_size) (maxL := 1) (by decide) rfl (Nat.le_of_ble_eq_true rfl) ?_
  intro pM eM sM mM bM tM cM Q hx hb hts hown hml hP hK hret ls hl
  have hown : sM.vm.findClass RX8 = some mM.cls := hown
  have hl : lv_has ls 1 [(0, .int x)] := hl
  refine lv_iload_n hx hb dX8_size_0 rfl (lv_at hl 0 rfl) ?_
  refine lv_if_ge (tgt := 9) hx hb dX8_size_1 (by decide) (fun c_1 => ?_) (fun c_1 => ?_)
  · refine lv_iload_n hx hb dX8_size_9 rfl (lv_at hl 0 rfl) ?_
    exact hret _ _ _ (by simp [isz, c_1]) (rfl) dX8_size_10
  · refine lv_iload_n hx hb dX8_size_4 rfl (lv_at hl 0 rfl) ?_
    refine lv_ineg hx hb dX8_size_5 ?_
    refine lv_goto (tgt := 10) hx hb dX8_size_6 (by decide) ?_
    exact hret _ _ _ (by simp [isz, c_1]) (rfl) dX8_size_10

abbrev rX8_cross : Room := { frames := 0, cells := 0, slots := 0, locals := 0 }
set_option maxHeartbeats 4000000 in
set_option maxRecDepth 100000 in
theorem c_X8_cross (l : Launch) (G : kG) (x : Int32) (y : Int32) (z : Int32) (w : Int32) : Ri l G yX8_cross wsX8_cross rX8_cross [.int x, .int y, .int z, .int w] [] (fun r => r = x * w - y * z) := by
  refine Ri.of (cc := cX8_cross) (maxL := 4) (by decide) rfl (Nat.le_of_ble_eq_true rfl) ?_
  intro pM eM sM mM bM tM cM Q hx hb hts hown hml hP hK hret ls hl
  have hown : sM.vm.findClass RX8 = some mM.cls := hown
  have hl : lv_has ls 4 [(0, .int x), (1, .int y), (2, .int z), (3, .int w)] := hl
  refine lv_iload_n hx hb dX8_cross_0 rfl (lv_at hl 0 rfl) ?_
  refine lv_iload_n hx hb dX8_cross_1 rfl (lv_at hl 3 rfl) ?_
  refine lv_imul hx hb dX8_cross_2 ?_
  refine lv_iload_n hx hb dX8_cross_3 rfl (lv_at hl 1 rfl) ?_
  refine lv_iload_n hx hb dX8_cross_4 rfl (lv_at hl 2 rfl) ?_
  refine lv_imul hx hb dX8_cross_5 ?_
  refine lv_isub hx hb dX8_cross_6 ?_
  exact hret _ _ _ (rfl) (rfl) dX8_cross_7

abbrev rX8_way : Room := { frames := 1, cells := 0, slots := 0, locals := 20 }
set_option maxHeartbeats 4000000 in
set_option maxRecDepth 100000 in
theorem c_X8_way (l : Launch) (G : kG) (x : Int32) (y : Int32) : Ri l G yX8_way wsX8_way rX8_way [.int x, .int y] [] (fun r => r = mway x y) := by
  refine Ri.of (cc := cX8_way) (maxL := 2) (by decide) rfl (Nat.le_of_ble_eq_true rfl) ?_
  intro pM eM sM mM bM tM cM Q hx hb hts hown hml hP hK hret ls hl
  have hown : sM.vm.findClass RX8 = some mM.cls := hown
  have hl : lv_has ls 2 [(0, .int x), (1, .int y)] := hl
  refine lv_iload_n hx hb dX8_way_0 rfl (lv_at hl 0 rfl) ?_
  refine rd_i (va_runS (As := [.int x]) (rest := []) ⟨hx, hb, hml, hown, hts⟩ (c_X8_size l G x) (va_cwS 1 hts gX8_way_X8_size rfl rfl rfl (by decide +kernel) ⟨Nat.le_of_ble_eq_true rfl, Nat.le_of_ble_eq_true rfl⟩) (rPre_S hK hP [] rfl) rfl rfl hl.1 rfl (lv_room (Nat.le_of_ble_eq_true rfl)) dX8_way_1 ⟨Nat.zero_le _, Nat.zero_le _⟩) (fun r_1 q_1 => ?_)
  obtain rfl : r_1 = isz x := q_1
  refine lv_iload_n hx hb dX8_way_4 rfl (lv_at hl 1 rfl) ?_
  refine rd_i (va_runS (As := [.int y]) (rest := [.int (isz x)]) ⟨hx, hb, hml, hown, hts⟩ (c_X8_size l G y) (va_cwS 1 hts gX8_way_X8_size rfl rfl rfl (by decide +kernel) ⟨Nat.le_of_ble_eq_true rfl, Nat.le_of_ble_eq_true rfl⟩) (rPre_S hK hP [] rfl) rfl rfl hl.1 rfl (lv_room (Nat.le_of_ble_eq_true rfl)) dX8_way_5 ⟨Nat.zero_le _, Nat.zero_le _⟩) (fun r_5 q_5 => ?_)
  obtain rfl : r_5 = isz y := q_5
  refine lv_icmp_le (tgt := 18) hx hb dX8_way_8 (by decide) (fun c_8 => ?_) (fun c_8 => ?_)
  · refine lv_iload_n hx hb dX8_way_18 rfl (lv_at hl 1 rfl) ?_
    refine rd_i (va_runS (As := [.int y]) (rest := []) ⟨hx, hb, hml, hown, hts⟩ (c_X8_size l G y) (va_cwS 1 hts gX8_way_X8_size rfl rfl rfl (by decide +kernel) ⟨Nat.le_of_ble_eq_true rfl, Nat.le_of_ble_eq_true rfl⟩) (rPre_S hK hP [] rfl) rfl rfl hl.1 rfl (lv_room (Nat.le_of_ble_eq_true rfl)) dX8_way_19 ⟨Nat.zero_le _, Nat.zero_le _⟩) (fun r_19 q_19 => ?_)
    obtain rfl : r_19 = isz y := q_19
    exact hret _ _ _ (by simp [mway, c_8]) (rfl) dX8_way_22
  · refine lv_iload_n hx hb dX8_way_11 rfl (lv_at hl 0 rfl) ?_
    refine rd_i (va_runS (As := [.int x]) (rest := []) ⟨hx, hb, hml, hown, hts⟩ (c_X8_size l G x) (va_cwS 1 hts gX8_way_X8_size rfl rfl rfl (by decide +kernel) ⟨Nat.le_of_ble_eq_true rfl, Nat.le_of_ble_eq_true rfl⟩) (rPre_S hK hP [] rfl) rfl rfl hl.1 rfl (lv_room (Nat.le_of_ble_eq_true rfl)) dX8_way_12 ⟨Nat.zero_le _, Nat.zero_le _⟩) (fun r_12 q_12 => ?_)
    obtain rfl : r_12 = isz x := q_12
    refine lv_goto (tgt := 22) hx hb dX8_way_15 (by decide) ?_
    exact hret _ _ _ (by simp [mway, c_8]) (rfl) dX8_way_22

abbrev rX8_lower : Room := { frames := 1, cells := 0, slots := 0, locals := 20 }
set_option maxHeartbeats 4000000 in
set_option maxRecDepth 100000 in
theorem c_X8_lower (l : Launch) (G : kG) (x : Int32) (y : Int32) (hy : ¬ isz y = 0) : Ri l G yX8_lower wsX8_lower rX8_lower [.int x, .int y] [] (fun r => r = mlow x y) := by
  refine Ri.of (cc := cX8_lower) (maxL := 4) (by decide) rfl (Nat.le_of_ble_eq_true rfl) ?_
  intro pM eM sM mM bM tM cM Q hx hb hts hown hml hP hK hret ls hl
  have hown : sM.vm.findClass RX8 = some mM.cls := hown
  have hl : lv_has ls 4 [(0, .int x), (1, .int y)] := hl
  refine lv_iload_n hx hb dX8_lower_0 rfl (lv_at hl 1 rfl) ?_
  refine lv_if_ge (tgt := 9) hx hb dX8_lower_1 (by decide) (fun c_1 => ?_) (fun c_1 => ?_)
  · refine lv_iload_n hx hb dX8_lower_9 rfl (lv_at hl 0 rfl) ?_
    refine lv_istore_n (lv' := [(2, .int x), (0, .int x), (1, .int y)]) hx hb dX8_lower_10 rfl hl (by decide) rfl (fun ls hl => ?_)
    refine lv_iload_n hx hb dX8_lower_11 rfl (lv_at hl 2 rfl) ?_
    refine rd_i (va_runS (As := [.int y]) (rest := []) ⟨hx, hb, hml, hown, hts⟩ (c_X8_size l G y) (va_cwS 1 hts gX8_lower_X8_size rfl rfl rfl (by decide +kernel) ⟨Nat.le_of_ble_eq_true rfl, Nat.le_of_ble_eq_true rfl⟩) (rPre_S hK hP [] rfl) rfl rfl hl.1 rfl (lv_room (Nat.le_of_ble_eq_true rfl)) dX8_lower_12 ⟨Nat.zero_le _, Nat.zero_le _⟩) (fun r_12 q_12 => ?_)
    obtain rfl : r_12 = isz y := q_12
    refine lv_istore_n (lv' := [(3, .int (isz y)), (2, .int x), (0, .int x), (1, .int y)]) hx hb dX8_lower_15 rfl hl (by decide) rfl (fun ls hl => ?_)
    refine lv_iload_n hx hb dX8_lower_16 rfl (lv_at hl 1 rfl) ?_
    refine lv_if_lt (tgt := 26) hx hb dX8_lower_17 (by decide) (fun c_17 => ?_) (fun c_17 => ?_)
    · refine lv_iload_n hx hb dX8_lower_26 rfl (lv_at hl 0 rfl) ?_
      refine lv_iconst (v := 1) hx hb dX8_lower_27 (by decide) ?_
      refine lv_isub hx hb dX8_lower_28 ?_
      refine lv_iload_n hx hb dX8_lower_29 rfl (lv_at hl 1 rfl) ?_
      refine lv_isub hx hb dX8_lower_30 ?_
      refine lv_iload_n hx hb dX8_lower_31 rfl (lv_at hl 0 rfl) ?_
      refine lv_idiv hx hb dX8_lower_32 (hy) ?_
      refine lv_ineg hx hb dX8_lower_33 ?_
      exact hret _ _ _ (by unfold mlow; (repeat' split) <;> first | rfl | contradiction) (rfl) dX8_lower_34
    · refine lv_iload_n hx hb dX8_lower_20 rfl (lv_at hl 1 rfl) ?_
      refine lv_iload_n hx hb dX8_lower_21 rfl (lv_at hl 0 rfl) ?_
      refine lv_idiv hx hb dX8_lower_22 (hy) ?_
      refine lv_goto (tgt := 34) hx hb dX8_lower_23 (by decide) ?_
      exact hret _ _ _ (by unfold mlow; (repeat' split) <;> first | rfl | contradiction) (rfl) dX8_lower_34
  · refine lv_iload_n hx hb dX8_lower_4 rfl (lv_at hl 0 rfl) ?_
    refine lv_ineg hx hb dX8_lower_5 ?_
    refine lv_goto (tgt := 10) hx hb dX8_lower_6 (by decide) ?_
    refine lv_istore_n (lv' := [(2, .int (-x)), (0, .int x), (1, .int y)]) hx hb dX8_lower_10 rfl hl (by decide) rfl (fun ls hl => ?_)
    refine lv_iload_n hx hb dX8_lower_11 rfl (lv_at hl 2 rfl) ?_
    refine rd_i (va_runS (As := [.int y]) (rest := []) ⟨hx, hb, hml, hown, hts⟩ (c_X8_size l G y) (va_cwS 1 hts gX8_lower_X8_size rfl rfl rfl (by decide +kernel) ⟨Nat.le_of_ble_eq_true rfl, Nat.le_of_ble_eq_true rfl⟩) (rPre_S hK hP [] rfl) rfl rfl hl.1 rfl (lv_room (Nat.le_of_ble_eq_true rfl)) dX8_lower_12 ⟨Nat.zero_le _, Nat.zero_le _⟩) (fun r_12 q_12 => ?_)
    obtain rfl : r_12 = isz y := q_12
    refine lv_istore_n (lv' := [(3, .int (isz y)), (2, .int (-x)), (0, .int x), (1, .int y)]) hx hb dX8_lower_15 rfl hl (by decide) rfl (fun ls hl => ?_)
    refine lv_iload_n hx hb dX8_lower_16 rfl (lv_at hl 1 rfl) ?_
    refine lv_if_lt (tgt := 26) hx hb dX8_lower_17 (by decide) (fun c_17 => ?_) (fun c_17 => ?_)
    · refine lv_iload_n hx hb dX8_lower_26 rfl (lv_at hl 0 rfl) ?_
      refine lv_iconst (v := 1) hx hb dX8_lower_27 (by decide) ?_
      refine lv_isub hx hb dX8_lower_28 ?_
      refine lv_iload_n hx hb dX8_lower_29 rfl (lv_at hl 1 rfl) ?_
      refine lv_isub hx hb dX8_lower_30 ?_
      refine lv_iload_n hx hb dX8_lower_31 rfl (lv_at hl 0 rfl) ?_
      refine lv_idiv hx hb dX8_lower_32 (hy) ?_
      refine lv_ineg hx hb dX8_lower_33 ?_
      exact hret _ _ _ (by unfold mlow; (repeat' split) <;> first | rfl | contradiction) (rfl) dX8_lower_34
    · refine lv_iload_n hx hb dX8_lower_20 rfl (lv_at hl 1 rfl) ?_
      refine lv_iload_n hx hb dX8_lower_21 rfl (lv_at hl 0 rfl) ?_
      refine lv_idiv hx hb dX8_lower_22 (hy) ?_
      refine lv_goto (tgt := 34) hx hb dX8_lower_23 (by decide) ?_
      exact hret _ _ _ (by unfold mlow; (repeat' split) <;> first | rfl | contradiction) (rfl) dX8_lower_34

abbrev rX8_bearingOf : Room := { frames := 2, cells := 0, slots := 0, locals := 43 }
set_option maxHeartbeats 4000000 in
set_option maxRecDepth 100000 in
theorem c_X8_bearingOf (l : Launch) (G : kG) (x : Int32) (y : Int32) (hxy : isz y ≤ isz x → ¬ x = 0) (hyy : isz x < isz y → ¬ y = 0) : Ri l G yX8_bearingOf wsX8_bearingOf rX8_bearingOf [.int x, .int y] [] (fun r => r = mbear x y) := by
  refine Ri.of (cc := cX8_bearingOf) (maxL := 3) (by decide) rfl (Nat.le_of_ble_eq_true rfl) ?_
  intro pM eM sM mM bM tM cM Q hx hb hts hown hml hP hK hret ls hl
  have hown : sM.vm.findClass RX8 = some mM.cls := hown
  have hl : lv_has ls 3 [(0, .int x), (1, .int y)] := hl
  refine lv_iload_n hx hb dX8_bearingOf_0 rfl (lv_at hl 0 rfl) ?_
  refine rd_i (va_runS (As := [.int x]) (rest := []) ⟨hx, hb, hml, hown, hts⟩ (c_X8_size l G x) (va_cwS 1 hts gX8_bearingOf_X8_size rfl rfl rfl (by decide +kernel) ⟨Nat.le_of_ble_eq_true rfl, Nat.le_of_ble_eq_true rfl⟩) (rPre_S hK hP [] rfl) rfl rfl hl.1 rfl (lv_room (Nat.le_of_ble_eq_true rfl)) dX8_bearingOf_1 ⟨Nat.zero_le _, Nat.zero_le _⟩) (fun r_1 q_1 => ?_)
  obtain rfl : r_1 = isz x := q_1
  refine lv_iload_n hx hb dX8_bearingOf_4 rfl (lv_at hl 1 rfl) ?_
  refine rd_i (va_runS (As := [.int y]) (rest := [.int (isz x)]) ⟨hx, hb, hml, hown, hts⟩ (c_X8_size l G y) (va_cwS 1 hts gX8_bearingOf_X8_size rfl rfl rfl (by decide +kernel) ⟨Nat.le_of_ble_eq_true rfl, Nat.le_of_ble_eq_true rfl⟩) (rPre_S hK hP [] rfl) rfl rfl hl.1 rfl (lv_room (Nat.le_of_ble_eq_true rfl)) dX8_bearingOf_5 ⟨Nat.zero_le _, Nat.zero_le _⟩) (fun r_5 q_5 => ?_)
  obtain rfl : r_5 = isz y := q_5
  refine lv_icmp_lt (tgt := 33) hx hb dX8_bearingOf_8 (by decide) (fun c_8 => ?_) (fun c_8 => ?_)
  · refine lv_bipush (v := 16) hx hb dX8_bearingOf_33 (by decide) ?_
    refine lv_bipush (v := -8) hx hb dX8_bearingOf_35 (by decide) ?_
    refine lv_iload_n hx hb dX8_bearingOf_37 rfl (lv_at hl 0 rfl) ?_
    refine lv_imul hx hb dX8_bearingOf_38 ?_
    refine lv_iload_n hx hb dX8_bearingOf_39 rfl (lv_at hl 1 rfl) ?_
    refine rd_i (va_runS (As := [.int ((-8) * x), .int y]) (rest := [.int 16]) ⟨hx, hb, hml, hown, hts⟩ (c_X8_lower l G ((-8) * x) y (fun e => hyy c_8 (isz_0.mp e))) (va_cwS 2 hts gX8_bearingOf_X8_lower rfl rfl rfl (by decide +kernel) ⟨Nat.le_of_ble_eq_true rfl, Nat.le_of_ble_eq_true rfl⟩) (rPre_S hK hP [] rfl) rfl rfl hl.1 rfl (lv_room (Nat.le_of_ble_eq_true rfl)) dX8_bearingOf_40 ⟨Nat.zero_le _, Nat.zero_le _⟩) (fun r_40 q_40 => ?_)
    obtain rfl : r_40 = mlow ((-8) * x) y := q_40
    refine lv_iadd hx hb dX8_bearingOf_43 ?_
    refine lv_iload_n hx hb dX8_bearingOf_44 rfl (lv_at hl 1 rfl) ?_
    refine lv_if_ge (tgt := 53) hx hb dX8_bearingOf_45 (by decide) (fun c_45 => ?_) (fun c_45 => ?_)
    · refine lv_iconst (v := 0) hx hb dX8_bearingOf_53 (by decide) ?_
      refine lv_iadd hx hb dX8_bearingOf_54 ?_
      refine lv_istore_n (lv' := [(2, .int ((16 + (mlow ((-8) * x) y)) + 0)), (0, .int x), (1, .int y)]) hx hb dX8_bearingOf_55 rfl hl (by decide) rfl (fun ls hl => ?_)
      refine lv_iload_n hx hb dX8_bearingOf_56 rfl (lv_at hl 0 rfl) ?_
      refine lv_if_ge (tgt := 67) hx hb dX8_bearingOf_57 (by decide) (fun c_57 => ?_) (fun c_57 => ?_)
      · refine lv_iload_n hx hb dX8_bearingOf_67 rfl (lv_at hl 0 rfl) ?_
        exact hret _ _ _ (by unfold mbear mbear0; (repeat' split) <;> first | rfl | contradiction) (rfl) dX8_bearingOf_68
      · refine lv_iload_n hx hb dX8_bearingOf_60 rfl (lv_at hl 0 rfl) ?_
        refine lv_bipush (v := 64) hx hb dX8_bearingOf_61 (by decide) ?_
        refine lv_iadd hx hb dX8_bearingOf_63 ?_
        refine lv_goto (tgt := 68) hx hb dX8_bearingOf_64 (by decide) ?_
        exact hret _ _ _ (by unfold mbear mbear0; (repeat' split) <;> first | rfl | contradiction) (rfl) dX8_bearingOf_68
    · refine lv_bipush (v := 32) hx hb dX8_bearingOf_48 (by decide) ?_
      refine lv_goto (tgt := 54) hx hb dX8_bearingOf_50 (by decide) ?_
      refine lv_iadd hx hb dX8_bearingOf_54 ?_
      refine lv_istore_n (lv' := [(2, .int ((16 + (mlow ((-8) * x) y)) + 32)), (0, .int x), (1, .int y)]) hx hb dX8_bearingOf_55 rfl hl (by decide) rfl (fun ls hl => ?_)
      refine lv_iload_n hx hb dX8_bearingOf_56 rfl (lv_at hl 0 rfl) ?_
      refine lv_if_ge (tgt := 67) hx hb dX8_bearingOf_57 (by decide) (fun c_57 => ?_) (fun c_57 => ?_)
      · refine lv_iload_n hx hb dX8_bearingOf_67 rfl (lv_at hl 0 rfl) ?_
        exact hret _ _ _ (by unfold mbear mbear0; (repeat' split) <;> first | rfl | contradiction) (rfl) dX8_bearingOf_68
      · refine lv_iload_n hx hb dX8_bearingOf_60 rfl (lv_at hl 0 rfl) ?_
        refine lv_bipush (v := 64) hx hb dX8_bearingOf_61 (by decide) ?_
        refine lv_iadd hx hb dX8_bearingOf_63 ?_
        refine lv_goto (tgt := 68) hx hb dX8_bearingOf_64 (by decide) ?_
        exact hret _ _ _ (by unfold mbear mbear0; (repeat' split) <;> first | rfl | contradiction) (rfl) dX8_bearingOf_68
  · refine lv_bipush (v := 8) hx hb dX8_bearingOf_11 (by decide) ?_
    refine lv_iload_n hx hb dX8_bearingOf_13 rfl (lv_at hl 1 rfl) ?_
    refine lv_imul hx hb dX8_bearingOf_14 ?_
    refine lv_iload_n hx hb dX8_bearingOf_15 rfl (lv_at hl 0 rfl) ?_
    refine rd_i (va_runS (As := [.int (8 * y), .int x]) (rest := []) ⟨hx, hb, hml, hown, hts⟩ (c_X8_lower l G (8 * y) x (fun e => hxy (le_of_nlt c_8) (isz_0.mp e))) (va_cwS 2 hts gX8_bearingOf_X8_lower rfl rfl rfl (by decide +kernel) ⟨Nat.le_of_ble_eq_true rfl, Nat.le_of_ble_eq_true rfl⟩) (rPre_S hK hP [] rfl) rfl rfl hl.1 rfl (lv_room (Nat.le_of_ble_eq_true rfl)) dX8_bearingOf_16 ⟨Nat.zero_le _, Nat.zero_le _⟩) (fun r_16 q_16 => ?_)
    obtain rfl : r_16 = mlow (8 * y) x := q_16
    refine lv_iload_n hx hb dX8_bearingOf_19 rfl (lv_at hl 0 rfl) ?_
    refine lv_if_ge (tgt := 28) hx hb dX8_bearingOf_20 (by decide) (fun c_20 => ?_) (fun c_20 => ?_)
    · refine lv_iconst (v := 0) hx hb dX8_bearingOf_28 (by decide) ?_
      refine lv_iadd hx hb dX8_bearingOf_29 ?_
      refine lv_goto (tgt := 55) hx hb dX8_bearingOf_30 (by decide) ?_
      refine lv_istore_n (lv' := [(2, .int ((mlow (8 * y) x) + 0)), (0, .int x), (1, .int y)]) hx hb dX8_bearingOf_55 rfl hl (by decide) rfl (fun ls hl => ?_)
      refine lv_iload_n hx hb dX8_bearingOf_56 rfl (lv_at hl 0 rfl) ?_
      refine lv_if_ge (tgt := 67) hx hb dX8_bearingOf_57 (by decide) (fun c_57 => ?_) (fun c_57 => ?_)
      · refine lv_iload_n hx hb dX8_bearingOf_67 rfl (lv_at hl 0 rfl) ?_
        exact hret _ _ _ (by unfold mbear mbear0; (repeat' split) <;> first | rfl | contradiction) (rfl) dX8_bearingOf_68
      · refine lv_iload_n hx hb dX8_bearingOf_60 rfl (lv_at hl 0 rfl) ?_
        refine lv_bipush (v := 64) hx hb dX8_bearingOf_61 (by decide) ?_
        refine lv_iadd hx hb dX8_bearingOf_63 ?_
        refine lv_goto (tgt := 68) hx hb dX8_bearingOf_64 (by decide) ?_
        exact hret _ _ _ (by unfold mbear mbear0; (repeat' split) <;> first | rfl | contradiction) (rfl) dX8_bearingOf_68
    · refine lv_bipush (v := 32) hx hb dX8_bearingOf_23 (by decide) ?_
      refine lv_goto (tgt := 29) hx hb dX8_bearingOf_25 (by decide) ?_
      refine lv_iadd hx hb dX8_bearingOf_29 ?_
      refine lv_goto (tgt := 55) hx hb dX8_bearingOf_30 (by decide) ?_
      refine lv_istore_n (lv' := [(2, .int ((mlow (8 * y) x) + 32)), (0, .int x), (1, .int y)]) hx hb dX8_bearingOf_55 rfl hl (by decide) rfl (fun ls hl => ?_)
      refine lv_iload_n hx hb dX8_bearingOf_56 rfl (lv_at hl 0 rfl) ?_
      refine lv_if_ge (tgt := 67) hx hb dX8_bearingOf_57 (by decide) (fun c_57 => ?_) (fun c_57 => ?_)
      · refine lv_iload_n hx hb dX8_bearingOf_67 rfl (lv_at hl 0 rfl) ?_
        exact hret _ _ _ (by unfold mbear mbear0; (repeat' split) <;> first | rfl | contradiction) (rfl) dX8_bearingOf_68
      · refine lv_iload_n hx hb dX8_bearingOf_60 rfl (lv_at hl 0 rfl) ?_
        refine lv_bipush (v := 64) hx hb dX8_bearingOf_61 (by decide) ?_
        refine lv_iadd hx hb dX8_bearingOf_63 ?_
        refine lv_goto (tgt := 68) hx hb dX8_bearingOf_64 (by decide) ?_
        exact hret _ _ _ (by unfold mbear mbear0; (repeat' split) <;> first | rfl | contradiction) (rfl) dX8_bearingOf_68

abbrev rX8_isUpper : Room := { frames := 0, cells := 0, slots := 0, locals := 0 }
set_option maxHeartbeats 4000000 in
set_option maxRecDepth 100000 in
theorem c_X8_isUpper (l : Launch) (G : kG) (x : Int32) (y : Int32) : Ri l G yX8_isUpper wsX8_isUpper rX8_isUpper [.int x, .int y] [] (fun r => r = b2i (mup x y)) := by
  refine Ri.of (cc := cX8_isUpper) (maxL := 2) (by decide) rfl (Nat.le_of_ble_eq_true rfl) ?_
  intro pM eM sM mM bM tM cM Q hx hb hts hown hml hP hK hret ls hl
  have hown : sM.vm.findClass RX8 = some mM.cls := hown
  have hl : lv_has ls 2 [(0, .int x), (1, .int y)] := hl
  refine lv_iload_n hx hb dX8_isUpper_0 rfl (lv_at hl 1 rfl) ?_
  refine lv_if_gt (tgt := 12) hx hb dX8_isUpper_1 (by decide) (fun c_1 => ?_) (fun c_1 => ?_)
  · refine lv_iconst (v := 1) hx hb dX8_isUpper_12 (by decide) ?_
    refine lv_goto (tgt := 17) hx hb dX8_isUpper_13 (by decide) ?_
    exact hret _ _ _ (by simp [b2i, mup, c_1]) (rfl) dX8_isUpper_17
  · refine lv_iload_n hx hb dX8_isUpper_4 rfl (lv_at hl 1 rfl) ?_
    refine lv_if_ne (tgt := 16) hx hb dX8_isUpper_5 (by decide) (fun c_5 => ?_) (fun c_5 => ?_)
    · refine lv_iconst (v := 0) hx hb dX8_isUpper_16 (by decide) ?_
      exact hret _ _ _ (by simp [b2i, mup, c_1, c_5]) (rfl) dX8_isUpper_17
    · refine lv_iload_n hx hb dX8_isUpper_8 rfl (lv_at hl 0 rfl) ?_
      refine lv_if_le (tgt := 16) hx hb dX8_isUpper_9 (by decide) (fun c_9 => ?_) (fun c_9 => ?_)
      · refine lv_iconst (v := 0) hx hb dX8_isUpper_16 (by decide) ?_
        exact hret _ _ _ (by simp [b2i, mup, c_1, c_5, c_9]) (rfl) dX8_isUpper_17
      · refine lv_iconst (v := 1) hx hb dX8_isUpper_12 (by decide) ?_
        refine lv_goto (tgt := 17) hx hb dX8_isUpper_13 (by decide) ?_
        exact hret _ _ _ (by simp [b2i, mup, c_1, c_5, c_9]) (rfl) dX8_isUpper_17

abbrev rX8_isLook : Room := { frames := 1, cells := 0, slots := 0, locals := 22 }
set_option maxHeartbeats 4000000 in
set_option maxRecDepth 100000 in
theorem c_X8_isLook (l : Launch) (G : kG) (x : Int32) : Ri l G yX8_isLook wsX8_isLook rX8_isLook [.int x] [] (fun r => r = b2i (pLook x)) := by
  refine Ri.of (cc := cX8_isLook) (maxL := 1) (by decide) rfl (Nat.le_of_ble_eq_true rfl) ?_
  intro pM eM sM mM bM tM cM Q hx hb hts hown hml hP hK hret ls hl
  have hown : sM.vm.findClass RX8 = some mM.cls := hown
  have hl : lv_has ls 1 [(0, .int x)] := hl
  refine lv_iload_n hx hb dX8_isLook_0 rfl (lv_at hl 0 rfl) ?_
  refine lv_iconst (v := 0) hx hb dX8_isLook_1 (by decide) ?_
  refine lv_bipush (v := 63) hx hb dX8_isLook_2 (by decide) ?_
  refine rd_i (va_runS (As := [.int x, .int 0, .int 63]) (rest := []) ⟨hx, hb, hml, hown, hts⟩ (c_X8_in l G x 0 63) (va_cwS 3 hts gX8_isLook_X8_in rfl rfl rfl (by decide +kernel) ⟨Nat.le_of_ble_eq_true rfl, Nat.le_of_ble_eq_true rfl⟩) (rPre_S hK hP [] rfl) rfl rfl hl.1 rfl (lv_room (Nat.le_of_ble_eq_true rfl)) dX8_isLook_4 ⟨Nat.zero_le _, Nat.zero_le _⟩) (fun r_4 q_4 => ?_)
  obtain rfl : r_4 = b2i (pIn x 0 63) := q_4
  exact hret _ _ _ (by rw [pIn_look]) (b2i_nar _) dX8_isLook_7

abbrev rX8_mayBe : Room := { frames := 1, cells := 0, slots := 0, locals := 22 }
set_option maxHeartbeats 4000000 in
set_option maxRecDepth 100000 in
theorem c_X8_mayBe (l : Launch) (G : kG) (x : Int32) (y : Int32) : Ri l G yX8_mayBe wsX8_mayBe rX8_mayBe [.int x, .int y] [] (fun r => r = b2i (pMark x y)) := by
  refine Ri.of (cc := cX8_mayBe) (maxL := 2) (by decide) rfl (Nat.le_of_ble_eq_true rfl) ?_
  intro pM eM sM mM bM tM cM Q hx hb hts hown hml hP hK hret ls hl
  have hown : sM.vm.findClass RX8 = some mM.cls := hown
  have hl : lv_has ls 2 [(0, .int x), (1, .int y)] := hl
  refine lv_iload_n hx hb dX8_mayBe_0 rfl (lv_at hl 0 rfl) ?_
  refine lv_iconst (v := 0) hx hb dX8_mayBe_1 (by decide) ?_
  refine lv_bipush (v := 63) hx hb dX8_mayBe_2 (by decide) ?_
  refine rd_i (va_runS (As := [.int x, .int 0, .int 63]) (rest := []) ⟨hx, hb, hml, hown, hts⟩ (c_X8_in l G x 0 63) (va_cwS 3 hts gX8_mayBe_X8_in rfl rfl rfl (by decide +kernel) ⟨Nat.le_of_ble_eq_true rfl, Nat.le_of_ble_eq_true rfl⟩) (rPre_S hK hP [] rfl) rfl rfl hl.1 rfl (lv_room (Nat.le_of_ble_eq_true rfl)) dX8_mayBe_4 ⟨Nat.zero_le _, Nat.zero_le _⟩) (fun r_4 q_4 => ?_)
  obtain rfl : r_4 = b2i (pIn x 0 63) := q_4
  refine lv_if_eq (tgt := 25) hx hb dX8_mayBe_7 (by decide) (fun c_7 => ?_) (fun c_7 => ?_)
  · have c_7 : (pIn x 0 63) = false := b2i_0.mp c_7
    rw [pIn_look] at c_7
    refine lv_iconst (v := 0) hx hb dX8_mayBe_25 (by decide) ?_
    exact hret _ _ _ (by first | (simp [b2i, pMark, pIn, c_7]; done) | (simp only [pIn] at c_18; simp [b2i, pMark, pIn, c_7, c_18]; done)) (rfl) dX8_mayBe_26
  · have c_7 : (pIn x 0 63) = true := b2i_n0.mp c_7
    rw [pIn_look] at c_7
    refine lv_iload_n hx hb dX8_mayBe_10 rfl (lv_at hl 1 rfl) ?_
    refine lv_iconst (v := 0) hx hb dX8_mayBe_11 (by decide) ?_
    refine lv_sipush (v := 480) hx hb dX8_mayBe_12 (by decide) ?_
    refine rd_i (va_runS (As := [.int y, .int 0, .int 480]) (rest := []) ⟨hx, hb, hml, hown, hts⟩ (c_X8_in l G y 0 480) (va_cwS 3 hts gX8_mayBe_X8_in rfl rfl rfl (by decide +kernel) ⟨Nat.le_of_ble_eq_true rfl, Nat.le_of_ble_eq_true rfl⟩) (rPre_S hK hP [] rfl) rfl rfl hl.1 rfl (lv_room (Nat.le_of_ble_eq_true rfl)) dX8_mayBe_15 ⟨Nat.zero_le _, Nat.zero_le _⟩) (fun r_15 q_15 => ?_)
    obtain rfl : r_15 = b2i (pIn y 0 480) := q_15
    refine lv_if_eq (tgt := 25) hx hb dX8_mayBe_18 (by decide) (fun c_18 => ?_) (fun c_18 => ?_)
    · have c_18 : (pIn y 0 480) = false := b2i_0.mp c_18
      refine lv_iconst (v := 0) hx hb dX8_mayBe_25 (by decide) ?_
      exact hret _ _ _ (by first | (simp [b2i, pMark, pIn, c_7]; done) | (simp only [pIn] at c_18; simp [b2i, pMark, pIn, c_7, c_18]; done)) (rfl) dX8_mayBe_26
    · have c_18 : (pIn y 0 480) = true := b2i_n0.mp c_18
      refine lv_iconst (v := 1) hx hb dX8_mayBe_21 (by decide) ?_
      refine lv_goto (tgt := 26) hx hb dX8_mayBe_22 (by decide) ?_
      exact hret _ _ _ (by first | (simp [b2i, pMark, pIn, c_7]; done) | (simp only [pIn] at c_18; simp [b2i, pMark, pIn, c_7, c_18]; done)) (rfl) dX8_mayBe_26

abbrev rX8_partOf : Room := { frames := 0, cells := 0, slots := 0, locals := 0 }
set_option maxHeartbeats 4000000 in
set_option maxRecDepth 100000 in
theorem c_X8_partOf (l : Launch) (G : kG) (x : Int32) (y : Int32) : Ri l G yX8_partOf wsX8_partOf rX8_partOf [.int x, .int y] [] (fun r => r = pPart x y) := by
  refine Ri.of (cc := cX8_partOf) (maxL := 2) (by decide) rfl (Nat.le_of_ble_eq_true rfl) ?_
  intro pM eM sM mM bM tM cM Q hx hb hts hown hml hP hK hret ls hl
  have hown : sM.vm.findClass RX8 = some mM.cls := hown
  have hl : lv_has ls 2 [(0, .int x), (1, .int y)] := hl
  refine lv_iload_n hx hb dX8_partOf_0 rfl (lv_at hl 1 rfl) ?_
  refine lv_if_ne (tgt := 14) hx hb dX8_partOf_1 (by decide) (fun c_1 => ?_) (fun c_1 => ?_)
  · refine lv_iload_n hx hb dX8_partOf_14 rfl (lv_at hl 1 rfl) ?_
    refine lv_iconst (v := 1) hx hb dX8_partOf_15 (by decide) ?_
    refine lv_icmp_ne (tgt := 29) hx hb dX8_partOf_16 (by decide) (fun c_16 => ?_) (fun c_16 => ?_)
    · refine lv_iload_n hx hb dX8_partOf_29 rfl (lv_at hl 0 rfl) ?_
      refine lv_bipush (v := 64) hx hb dX8_partOf_30 (by decide) ?_
      refine lv_irem hx hb dX8_partOf_32 (by decide) ?_
      exact hret _ _ _ (by simp [pPart, c_1, c_16]) (rfl) dX8_partOf_33
    · refine lv_iload_n hx hb dX8_partOf_19 rfl (lv_at hl 0 rfl) ?_
      refine lv_bipush (v := 64) hx hb dX8_partOf_20 (by decide) ?_
      refine lv_idiv hx hb dX8_partOf_22 (by decide) ?_
      refine lv_bipush (v := 8) hx hb dX8_partOf_23 (by decide) ?_
      refine lv_irem hx hb dX8_partOf_25 (by decide) ?_
      refine lv_goto (tgt := 33) hx hb dX8_partOf_26 (by decide) ?_
      exact hret _ _ _ (by simp [pPart, c_1, c_16]) (rfl) dX8_partOf_33
  · refine lv_iload_n hx hb dX8_partOf_4 rfl (lv_at hl 0 rfl) ?_
    refine lv_bipush (v := 64) hx hb dX8_partOf_5 (by decide) ?_
    refine lv_idiv hx hb dX8_partOf_7 (by decide) ?_
    refine lv_bipush (v := 8) hx hb dX8_partOf_8 (by decide) ?_
    refine lv_idiv hx hb dX8_partOf_10 (by decide) ?_
    refine lv_goto (tgt := 33) hx hb dX8_partOf_11 (by decide) ?_
    exact hret _ _ _ (by simp [pPart, c_1]) (rfl) dX8_partOf_33

abbrev rX8_isPeak : Room := { frames := 1, cells := 0, slots := 0, locals := 22 }
set_option maxHeartbeats 4000000 in
set_option maxRecDepth 100000 in
theorem c_X8_isPeak (l : Launch) (G : kG) (h : Nat) (v : Nat → Int32) (q : Nat → Nat) (x : Int32) (n : Nat) (hv1 : v 1 = nI n) (hn : n ≤ 10) : Ri l G yX8_isPeak wsX8_isPeak rX8_isPeak [.ref h, .int x] [oB h 8 (oF8 v q)] (fun r => r = b2i (pHas (nI n) x)) := by
  refine Ri.of (cc := cX8_isPeak) (maxL := 2) (by decide) rfl (Nat.le_of_ble_eq_true rfl) ?_
  intro pM eM sM mM bM tM cM Q hx hb hts hown hml hP hK hret ls hl
  have hown : sM.vm.findClass RX8 = some mM.cls := hown
  have hl : lv_has ls 2 [(0, .ref h), (1, .int x)] := hl
  have hin8 : ∀ w ∈ u_ws RX8 TX8 44, w ∈ wsX8_isPeak := by decide +kernel
  have f102 := hts (.fieldLink RX8 102 "HorizonPeaksModel" "peaks" "I") (by decide +kernel)
  refine lv_iload_n hx hb dX8_isPeak_0 rfl (lv_at hl 1 rfl) ?_
  refine lv_iconst (v := 0) hx hb dX8_isPeak_1 (by decide) ?_
  refine lv_aload_n hx hb dX8_isPeak_2 rfl (lv_at hl 0 rfl) ?_
  refine va_get (D := G.1) (ci := 8) (v := .int (v 1)) (C := RX8) (T := TX8) (N := 44) hx hb hts hin8 hown hK.1 hP 0 rfl rfl 1 (by decide) f102 (fun _ h9 => h9) rfl dX8_isPeak_3 ?_
  refine top_i (y := nI n) (hv1) ?_
  refine lv_iconst (v := 1) hx hb dX8_isPeak_6 (by decide) ?_
  refine lv_isub hx hb dX8_isPeak_7 ?_
  refine rd_i (va_runS (As := [.int x, .int 0, .int ((nI n) - 1)]) (rest := []) ⟨hx, hb, hml, hown, hts⟩ (c_X8_in l G x 0 ((nI n) - 1)) (va_cwS 3 hts gX8_isPeak_X8_in rfl rfl rfl (by decide +kernel) ⟨Nat.le_of_ble_eq_true rfl, Nat.le_of_ble_eq_true rfl⟩) (rPre_S hK hP [] rfl) rfl rfl hl.1 rfl (lv_room (Nat.le_of_ble_eq_true rfl)) dX8_isPeak_8 ⟨Nat.zero_le _, Nat.zero_le _⟩) (fun r_8 q_8 => ?_)
  obtain rfl : r_8 = b2i (pIn x 0 ((nI n) - 1)) := q_8
  exact hret _ _ _ (by rw [pIn_has (by omega)]) (b2i_nar _) dX8_isPeak_11

abbrev rX8_isThere : Room := { frames := 1, cells := 0, slots := 0, locals := 22 }
set_option maxHeartbeats 4000000 in
set_option maxRecDepth 100000 in
theorem c_X8_isThere (l : Launch) (G : kG) (h : Nat) (v : Nat → Int32) (q : Nat → Nat) (ip : Nat → Int32) (pk : Nat → Int32) (x : Int32) (y : Int32) (hip : ∀ i, i < 64 → ip i = b2i (decide (pk i = 0))) : Ri l G yX8_isThere wsX8_isThere rX8_isThere [.ref h, .int x, .int y] [oB h 8 (oF8 v q), aZ G (q 9) 64 ip] (fun r => r = b2i (pPlace pk x y)) := by
  refine Ri.of (cc := cX8_isThere) (maxL := 3) (by decide) rfl (Nat.le_of_ble_eq_true rfl) ?_
  intro pM eM sM mM bM tM cM Q hx hb hts hown hml hP hK hret ls hl
  have hown : sM.vm.findClass RX8 = some mM.cls := hown
  have hl : lv_has ls 3 [(0, .ref h), (1, .int x), (2, .int y)] := hl
  have hin8 : ∀ w ∈ u_ws RX8 TX8 44, w ∈ wsX8_isThere := by decide +kernel
  have f25 := hts (.fieldLink RX8 25 "HorizonPeaksModel" "isPlace" "[Z") (by decide +kernel)
  refine lv_iload_n hx hb dX8_isThere_0 rfl (lv_at hl 1 rfl) ?_
  refine lv_iconst (v := 0) hx hb dX8_isThere_1 (by decide) ?_
  refine lv_bipush (v := 7) hx hb dX8_isThere_2 (by decide) ?_
  refine rd_i (va_runS (As := [.int x, .int 0, .int 7]) (rest := []) ⟨hx, hb, hml, hown, hts⟩ (c_X8_in l G x 0 7) (va_cwS 3 hts gX8_isThere_X8_in rfl rfl rfl (by decide +kernel) ⟨Nat.le_of_ble_eq_true rfl, Nat.le_of_ble_eq_true rfl⟩) (rPre_S hK hP [] rfl) rfl rfl hl.1 rfl (lv_room (Nat.le_of_ble_eq_true rfl)) dX8_isThere_4 ⟨Nat.zero_le _, Nat.zero_le _⟩) (fun r_4 q_4 => ?_)
  obtain rfl : r_4 = b2i (pIn x 0 7) := q_4
  refine lv_if_eq (tgt := 38) hx hb dX8_isThere_7 (by decide) (fun c_7 => ?_) (fun c_7 => ?_)
  · have c_7 : (pIn x 0 7) = false := b2i_0.mp c_7
    refine lv_iconst (v := 0) hx hb dX8_isThere_38 (by decide) ?_
    have hpost : (0 : Int32) = b2i (pPlace pk x y) := by
      rw [show pPlace pk x y = false from pPlace_x c_7]
      rfl
    exact hret _ _ _ (hpost) (rfl) dX8_isThere_39
  · have c_7 : (pIn x 0 7) = true := b2i_n0.mp c_7
    refine lv_iload_n hx hb dX8_isThere_10 rfl (lv_at hl 2 rfl) ?_
    refine lv_iconst (v := 0) hx hb dX8_isThere_11 (by decide) ?_
    refine lv_bipush (v := 7) hx hb dX8_isThere_12 (by decide) ?_
    refine rd_i (va_runS (As := [.int y, .int 0, .int 7]) (rest := []) ⟨hx, hb, hml, hown, hts⟩ (c_X8_in l G y 0 7) (va_cwS 3 hts gX8_isThere_X8_in rfl rfl rfl (by decide +kernel) ⟨Nat.le_of_ble_eq_true rfl, Nat.le_of_ble_eq_true rfl⟩) (rPre_S hK hP [] rfl) rfl rfl hl.1 rfl (lv_room (Nat.le_of_ble_eq_true rfl)) dX8_isThere_14 ⟨Nat.zero_le _, Nat.zero_le _⟩) (fun r_14 q_14 => ?_)
    obtain rfl : r_14 = b2i (pIn y 0 7) := q_14
    refine lv_if_eq (tgt := 38) hx hb dX8_isThere_17 (by decide) (fun c_17 => ?_) (fun c_17 => ?_)
    · have c_17 : (pIn y 0 7) = false := b2i_0.mp c_17
      refine lv_iconst (v := 0) hx hb dX8_isThere_38 (by decide) ?_
      have hpost : (0 : Int32) = b2i (pPlace pk x y) := by
        rw [show pPlace pk x y = false from pPlace_y c_17]
        rfl
      exact hret _ _ _ (hpost) (rfl) dX8_isThere_39
    · have c_17 : (pIn y 0 7) = true := b2i_n0.mp c_17
      obtain ⟨X, hX, rfl⟩ := pIn7 c_7
      obtain ⟨Y, hY, rfl⟩ := pIn7 c_17
      refine lv_aload_n hx hb dX8_isThere_20 rfl (lv_at hl 0 rfl) ?_
      refine va_get (D := G.1) (ci := 8) (v := .ref (q 9)) (C := RX8) (T := TX8) (N := 44) hx hb hts hin8 hown hK.1 hP 0 rfl rfl 9 (by decide) f25 (fun _ h9 => h9) rfl dX8_isThere_21 ?_
      refine lv_bipush (v := 8) hx hb dX8_isThere_24 (by decide) ?_
      refine lv_iload_n hx hb dX8_isThere_26 rfl (lv_at hl 1 rfl) ?_
      refine lv_imul hx hb dX8_isThere_27 ?_
      refine lv_iload_n hx hb dX8_isThere_28 rfl (lv_at hl 2 rfl) ?_
      refine lv_iadd hx hb dX8_isThere_29 ?_
      refine top_i (y := nI (X * 8 + Y)) (mul8' X Y) ?_
      refine al_z hx hb hK.1 hP 1 2 rfl rfl (j := X * 8 + Y) (by omega) (Nat.le_of_ble_eq_true rfl) dX8_isThere_30 ?_
      refine lv_if_eq (tgt := 38) hx hb dX8_isThere_31 (by decide) (fun c_31 => ?_) (fun c_31 => ?_)
      · refine lv_iconst (v := 0) hx hb dX8_isThere_38 (by decide) ?_
        have hpost : (0 : Int32) = b2i (pPlace pk (nI X) (nI Y)) := by
          rw [pPlace_nI pk hX hY]
          rw [hip _ (by omega)] at c_31
          rw [b2i_0.mp c_31]
          rfl
        exact hret _ _ _ (hpost) (rfl) dX8_isThere_39
      · refine lv_iconst (v := 1) hx hb dX8_isThere_34 (by decide) ?_
        refine lv_goto (tgt := 39) hx hb dX8_isThere_35 (by decide) ?_
        have hpost : (1 : Int32) = b2i (pPlace pk (nI X) (nI Y)) := by
          rw [pPlace_nI pk hX hY]
          rw [hip _ (by omega)] at c_31
          rw [b2i_n0.mp c_31]
          rfl
        exact hret _ _ _ (hpost) (rfl) dX8_isThere_39

abbrev rX8_isNotch : Room := { frames := 1, cells := 0, slots := 0, locals := 22 }
set_option maxHeartbeats 4000000 in
set_option maxRecDepth 100000 in
theorem c_X8_isNotch (l : Launch) (G : kG) (h : Nat) (v : Nat → Int32) (q : Nat → Nat) (sa : Nat → Int32) (x : Int32) (nn : Nat) (hs0 : sa 0 = nI nn) (hnn : nn ≤ 8) : Ri l G yX8_isNotch wsX8_isNotch rX8_isNotch [.ref h, .int x] [oB h 8 (oF8 v q), aI G (q 13) 17 sa] (fun r => r = b2i (pHas (nI nn) x)) := by
  refine Ri.of (cc := cX8_isNotch) (maxL := 2) (by decide) rfl (Nat.le_of_ble_eq_true rfl) ?_
  intro pM eM sM mM bM tM cM Q hx hb hts hown hml hP hK hret ls hl
  have hown : sM.vm.findClass RX8 = some mM.cls := hown
  have hl : lv_has ls 2 [(0, .ref h), (1, .int x)] := hl
  have hin8 : ∀ w ∈ u_ws RX8 TX8 44, w ∈ wsX8_isNotch := by decide +kernel
  have f38 := hts (.fieldLink RX8 38 "HorizonPeaksModel" "s" "[I") (by decide +kernel)
  refine lv_iload_n hx hb dX8_isNotch_0 rfl (lv_at hl 1 rfl) ?_
  refine lv_iconst (v := 0) hx hb dX8_isNotch_1 (by decide) ?_
  refine lv_aload_n hx hb dX8_isNotch_2 rfl (lv_at hl 0 rfl) ?_
  refine va_get (D := G.1) (ci := 8) (v := .ref (q 13)) (C := RX8) (T := TX8) (N := 44) hx hb hts hin8 hown hK.1 hP 0 rfl rfl 13 (by decide) f38 (fun _ h9 => h9) rfl dX8_isNotch_3 ?_
  refine lv_iconst (v := 0) hx hb dX8_isNotch_6 (by decide) ?_
  refine top_i (y := nI 0) rfl ?_
  refine al_i hx hb hK.1 hP 1 0 rfl rfl (j := 0) (by omega) (Nat.le_of_ble_eq_true rfl) dX8_isNotch_7 ?_
  refine top_i (y := nI nn) (hs0) ?_
  refine lv_iconst (v := 1) hx hb dX8_isNotch_8 (by decide) ?_
  refine lv_isub hx hb dX8_isNotch_9 ?_
  refine rd_i (va_runS (As := [.int x, .int 0, .int ((nI nn) - 1)]) (rest := []) ⟨hx, hb, hml, hown, hts⟩ (c_X8_in l G x 0 ((nI nn) - 1)) (va_cwS 3 hts gX8_isNotch_X8_in rfl rfl rfl (by decide +kernel) ⟨Nat.le_of_ble_eq_true rfl, Nat.le_of_ble_eq_true rfl⟩) (rPre_S hK hP [] rfl) rfl rfl hl.1 rfl (lv_room (Nat.le_of_ble_eq_true rfl)) dX8_isNotch_10 ⟨Nat.zero_le _, Nat.zero_le _⟩) (fun r_10 q_10 => ?_)
  obtain rfl : r_10 = b2i (pIn x 0 ((nI nn) - 1)) := q_10
  exact hret _ _ _ (by rw [pIn_has (by omega)]) (b2i_nar _) dX8_isNotch_13

abbrev rX8_type : Room := { frames := 1, cells := 0, slots := 0, locals := 22 }
set_option maxHeartbeats 4000000 in
set_option maxRecDepth 100000 in
theorem c_X8_type (l : Launch) (G : kG) (h : Nat) (v : Nat → Int32) (q : Nat → Nat) (tx : Nat → Int32) (x : Int32) (len : Nat) (hl22 : v 22 = nI len) (hlen : len ≤ 140) : Ci l G yX8_type wsX8_type rX8_type [.ref h, .int x] [oB h 8 (oF8 v q), aI G (q 23) 140 tx] (fun r (u : (Nat → Int32) × (Nat → Int32)) => r = tyR len x ∧ u.1 22 = nI (tyN len x) ∧ u.2 = tyX tx len x ∧ (∀ k, ¬ k = 0 → ¬ k = 22 → u.1 k = v k)) (fun u => [oB h 8 (oF8 u.1 q), aI G (q 23) 140 u.2]) := by
  refine Ci.of (cc := cX8_type) (maxL := 2) (by decide) rfl (Nat.le_of_ble_eq_true rfl) ?_
  intro pM eM sM mM bM tM cM Q A hx hb hts hown hml hA hK hP hD hS hret ls hl
  have hown : sM.vm.findClass RX8 = some mM.cls := hown
  have hl : lv_has ls 2 [(0, .ref h), (1, .int x)] := hl
  have hin8 : ∀ w ∈ u_ws RX8 TX8 44, w ∈ wsX8_type := by decide +kernel
  have f98 := hts (.fieldLink RX8 98 "HorizonPeaksModel" "thrown" "I") (by decide +kernel)
  have f109 := hts (.fieldLink RX8 109 "HorizonPeaksModel" "letters" "I") (by decide +kernel)
  have f59 := hts (.fieldLink RX8 59 "HorizonPeaksModel" "text" "[I") (by decide +kernel)
  refine lv_aload_n hx hb dX8_type_0 rfl (lv_at hl 0 rfl) ?_
  refine lv_iconst (v := 0) hx hb dX8_type_1 (by decide) ?_
  refine va_put (D := G.1) (ci := 8) (v := .int 0) (ty := .int) (C := RX8) (T := TX8) (N := 44) hx hb hts hin8 tyX8 tyX8_ok nmX8 hown hK.1 hP hD hS 0 rfl rfl 0 (by decide) f98 (fun _ h9 => h9) rfl (by decide +kernel) rfl rfl (Nat.le_of_ble_eq_true rfl) dX8_type_2 (fun H locs hP hD hS => ?_)
  have hP : va_P G.1 vwCl [oB h 8 (oF8 (upd v 0 0) q), aI G (q 23) 140 tx] H := hP
  have hD : va_D A [oB h 8 (oF8 (upd v 0 0) q), aI G (q 23) 140 tx] := hD
  refine lv_iload_n hx hb dX8_type_5 rfl (lv_at hl 1 rfl) ?_
  refine lv_iconst (v := 0) hx hb dX8_type_6 (by decide) ?_
  refine lv_sipush (v := 255) hx hb dX8_type_7 (by decide) ?_
  refine rd_i (va_runS (As := [.int x, .int 0, .int 255]) (rest := []) ⟨hx, hb, hml, hown, hts⟩ (c_X8_in l G x 0 255) (va_cwS 3 hts gX8_type_X8_in rfl rfl rfl (by decide +kernel) ⟨Nat.le_of_ble_eq_true rfl, Nat.le_of_ble_eq_true rfl⟩) (rPre_S hK hP [] rfl) rfl rfl hl.1 rfl (lv_room (Nat.le_of_ble_eq_true rfl)) dX8_type_10 ⟨Nat.zero_le _, Nat.zero_le _⟩) (fun r_10 q_10 => ?_)
  obtain rfl : r_10 = b2i (pIn x 0 255) := q_10
  refine lv_if_ne (tgt := 18) hx hb dX8_type_13 (by decide) (fun c_13 => ?_) (fun c_13 => ?_)
  · have c_13 : (pIn x 0 255) = true := b2i_n0.mp c_13
    refine lv_aload_n hx hb dX8_type_18 rfl (lv_at hl 0 rfl) ?_
    refine va_get (D := G.1) (ci := 8) (v := .int (v 22)) (C := RX8) (T := TX8) (N := 44) hx hb hts hin8 hown hK.1 hP 0 rfl rfl 22 (by decide) f109 (fun _ h9 => h9) rfl dX8_type_19 ?_
    refine top_i (y := nI len) (hl22) ?_
    refine lv_sipush (v := 140) hx hb dX8_type_22 (by decide) ?_
    refine lv_icmp_ne (tgt := 31) hx hb dX8_type_25 (by decide) (fun c_25 => ?_) (fun c_25 => ?_)
    · have c_25 : ¬ len = 140 := fun hne => c_25 ((c_eq (a := len) (b := 140) rfl rfl (by omega) (by omega)).mpr hne)
      refine lv_aload_n hx hb dX8_type_31 rfl (lv_at hl 0 rfl) ?_
      refine va_get (D := G.1) (ci := 8) (v := .ref (q 23)) (C := RX8) (T := TX8) (N := 44) hx hb hts hin8 hown hK.1 hP 0 rfl rfl 23 (by decide) f59 (fun _ h9 => h9) rfl dX8_type_32 ?_
      refine lv_aload_n hx hb dX8_type_35 rfl (lv_at hl 0 rfl) ?_
      refine va_get (D := G.1) (ci := 8) (v := .int (v 22)) (C := RX8) (T := TX8) (N := 44) hx hb hts hin8 hown hK.1 hP 0 rfl rfl 22 (by decide) f109 (fun _ h9 => h9) rfl dX8_type_36 ?_
      refine top_i (y := nI len) (hl22) ?_
      refine lv_iload_n hx hb dX8_type_39 rfl (lv_at hl 1 rfl) ?_
      refine as_i hx hb hK.1 hP hD hS 1 0 rfl rfl (j := len) (by omega) (Nat.le_of_ble_eq_true rfl) dX8_type_40 (fun H locs hP hD hS => ?_)
      have hP : va_P G.1 vwCl [oB h 8 (oF8 (upd v 0 0) q), aI G (q 23) 140 (upd tx len x)] H := hP
      have hD : va_D A [oB h 8 (oF8 (upd v 0 0) q), aI G (q 23) 140 (upd tx len x)] := hD
      refine lv_aload_n hx hb dX8_type_41 rfl (lv_at hl 0 rfl) ?_
      refine lv_dup hx hb dX8_type_42 rfl ?_
      refine va_get (D := G.1) (ci := 8) (v := .int (v 22)) (C := RX8) (T := TX8) (N := 44) hx hb hts hin8 hown hK.1 hP 0 rfl rfl 22 (by decide) f109 (fun _ h9 => h9) rfl dX8_type_43 ?_
      refine top_i (y := nI len) (hl22) ?_
      refine lv_iconst (v := 1) hx hb dX8_type_46 (by decide) ?_
      refine lv_iadd hx hb dX8_type_47 ?_
      refine top_i (y := nI (len + 1)) (nI_1 len) ?_
      refine va_put (D := G.1) (ci := 8) (v := .int (nI (len + 1))) (ty := .int) (C := RX8) (T := TX8) (N := 44) hx hb hts hin8 tyX8 tyX8_ok nmX8 hown hK.1 hP hD hS 0 rfl rfl 22 (by decide) f109 (fun _ h9 => h9) rfl (by decide +kernel) rfl rfl (Nat.le_of_ble_eq_true rfl) dX8_type_48 (fun H locs hP hD hS => ?_)
      have hP : va_P G.1 vwCl [oB h 8 (oF8 (upd (upd v 0 0) 22 (nI (len + 1))) q), aI G (q 23) 140 (upd tx len x)] H := hP
      have hD : va_D A [oB h 8 (oF8 (upd (upd v 0 0) 22 (nI (len + 1))) q), aI G (q 23) 140 (upd tx len x)] := hD
      refine lv_aload_n hx hb dX8_type_51 rfl (lv_at hl 0 rfl) ?_
      refine va_get (D := G.1) (ci := 8) (v := .int (nI (len + 1))) (C := RX8) (T := TX8) (N := 44) hx hb hts hin8 hown hK.1 hP 0 rfl rfl 22 (by decide) f109 (fun _ h9 => h9) rfl dX8_type_52 ?_
      have hpost : (nI (len + 1) : Int32) = tyR len x ∧ (upd (upd v 0 0) 22 (nI (len + 1)), upd tx len x).1 22 = nI (tyN len x) ∧ (upd (upd v 0 0) 22 (nI (len + 1)), upd tx len x).2 = tyX tx len x ∧ (∀ k, ¬ k = 0 → ¬ k = 22 → (upd (upd v 0 0) 22 (nI (len + 1)), upd tx len x).1 k = v k) := by
        have e : tyOk x = true := by rw [ty_in]; exact c_13
        have hnl : len < 140 := by omega
        refine ⟨?_, ?_, ?_, fun k h0 h22 => by simp [upd, h0, h22]⟩
        · simp [tyR, e, hnl]
        · simp [tyN, e, hnl]; rfl
        · simp [tyX, e, hnl]
      exact hret _ (upd (upd v 0 0) 22 (nI (len + 1)), upd tx len x) _ _ _ _ (hpost) (rfl) hP hD hS dX8_type_55
    · have c_25 : len = 140 := (c_eq (a := len) (b := 140) rfl rfl (by omega) (by omega)).mp c_25
      refine lv_bipush (v := -3) hx hb dX8_type_28 (by decide) ?_
      have hpost : (-3 : Int32) = tyR len x ∧ (upd v 0 0, tx).1 22 = nI (tyN len x) ∧ (upd v 0 0, tx).2 = tyX tx len x ∧ (∀ k, ¬ k = 0 → ¬ k = 22 → (upd v 0 0, tx).1 k = v k) := by
        have e : tyOk x = true := by rw [ty_in]; exact c_13
        have hnl : ¬ len < 140 := by omega
        refine ⟨?_, ?_, ?_, fun k h0 h22 => by simp [upd, h0, h22]⟩
        · simp [tyR, e, hnl]
        · simp [tyN, hnl]; exact hl22
        · simp [tyX, hnl]
      exact hret _ (upd v 0 0, tx) _ _ _ _ (hpost) (rfl) hP hD hS dX8_type_30
  · have c_13 : (pIn x 0 255) = false := b2i_0.mp c_13
    refine lv_iconst (v := -1) hx hb dX8_type_16 (by decide) ?_
    have hpost : (-1 : Int32) = tyR len x ∧ (upd v 0 0, tx).1 22 = nI (tyN len x) ∧ (upd v 0 0, tx).2 = tyX tx len x ∧ (∀ k, ¬ k = 0 → ¬ k = 22 → (upd v 0 0, tx).1 k = v k) := by
      have e : tyOk x = false := by rw [ty_in]; exact c_13
      refine ⟨?_, ?_, ?_, fun k h0 h22 => by simp [upd, h0, h22]⟩
      · simp [tyR, e]
      · simp [tyN, e]; exact hl22
      · simp [tyX, e]
    exact hret _ (upd v 0 0, tx) _ _ _ _ (hpost) (rfl) hP hD hS dX8_type_17

abbrev rX8_clear : Room := { frames := 0, cells := 0, slots := 0, locals := 0 }
set_option maxHeartbeats 4000000 in
set_option maxRecDepth 100000 in
theorem c_X8_clear (l : Launch) (G : kG) (h : Nat) (v : Nat → Int32) (q : Nat → Nat) (len : Nat) (hl22 : v 22 = nI len) : Ci l G yX8_clear wsX8_clear rX8_clear [.ref h] [oB h 8 (oF8 v q)] (fun r (u : Nat → Int32) => r = nI len ∧ u 22 = 0 ∧ (∀ k, ¬ k = 0 → ¬ k = 22 → u k = v k)) (fun u => [oB h 8 (oF8 u q)]) := by
  refine Ci.of (cc := cX8_clear) (maxL := 2) (by decide) rfl (Nat.le_of_ble_eq_true rfl) ?_
  intro pM eM sM mM bM tM cM Q A hx hb hts hown hml hA hK hP hD hS hret ls hl
  have hown : sM.vm.findClass RX8 = some mM.cls := hown
  have hl : lv_has ls 2 [(0, .ref h)] := hl
  have hin8 : ∀ w ∈ u_ws RX8 TX8 44, w ∈ wsX8_clear := by decide +kernel
  have f98 := hts (.fieldLink RX8 98 "HorizonPeaksModel" "thrown" "I") (by decide +kernel)
  have f109 := hts (.fieldLink RX8 109 "HorizonPeaksModel" "letters" "I") (by decide +kernel)
  refine lv_aload_n hx hb dX8_clear_0 rfl (lv_at hl 0 rfl) ?_
  refine lv_iconst (v := 0) hx hb dX8_clear_1 (by decide) ?_
  refine va_put (D := G.1) (ci := 8) (v := .int 0) (ty := .int) (C := RX8) (T := TX8) (N := 44) hx hb hts hin8 tyX8 tyX8_ok nmX8 hown hK.1 hP hD hS 0 rfl rfl 0 (by decide) f98 (fun _ h9 => h9) rfl (by decide +kernel) rfl rfl (Nat.le_of_ble_eq_true rfl) dX8_clear_2 (fun H locs hP hD hS => ?_)
  have hP : va_P G.1 vwCl [oB h 8 (oF8 (upd v 0 0) q)] H := hP
  have hD : va_D A [oB h 8 (oF8 (upd v 0 0) q)] := hD
  refine lv_aload_n hx hb dX8_clear_5 rfl (lv_at hl 0 rfl) ?_
  refine va_get (D := G.1) (ci := 8) (v := .int (v 22)) (C := RX8) (T := TX8) (N := 44) hx hb hts hin8 hown hK.1 hP 0 rfl rfl 22 (by decide) f109 (fun _ h9 => h9) rfl dX8_clear_6 ?_
  refine top_i (y := nI len) (hl22) ?_
  refine lv_istore_n (lv' := [(1, .int (nI len)), (0, .ref h)]) hx hb dX8_clear_9 rfl hl (by decide) rfl (fun ls hl => ?_)
  refine lv_aload_n hx hb dX8_clear_10 rfl (lv_at hl 1 rfl) ?_
  refine lv_iconst (v := 0) hx hb dX8_clear_11 (by decide) ?_
  refine va_put (D := G.1) (ci := 8) (v := .int 0) (ty := .int) (C := RX8) (T := TX8) (N := 44) hx hb hts hin8 tyX8 tyX8_ok nmX8 hown hK.1 hP hD hS 0 rfl rfl 22 (by decide) f109 (fun _ h9 => h9) rfl (by decide +kernel) rfl rfl (Nat.le_of_ble_eq_true rfl) dX8_clear_12 (fun H locs hP hD hS => ?_)
  have hP : va_P G.1 vwCl [oB h 8 (oF8 (upd (upd v 0 0) 22 0) q)] H := hP
  have hD : va_D A [oB h 8 (oF8 (upd (upd v 0 0) 22 0) q)] := hD
  refine lv_iload_n hx hb dX8_clear_15 rfl (lv_at hl 0 rfl) ?_
  have hpost : (nI len : Int32) = nI len ∧ (upd (upd v 0 0) 22 0) 22 = 0 ∧ (∀ k, ¬ k = 0 → ¬ k = 22 → (upd (upd v 0 0) 22 0) k = v k) := by
    exact ⟨rfl, rfl, fun k h0 h22 => by simp [upd, h0, h22]⟩
  exact hret _ (upd (upd v 0 0) 22 0) _ _ _ _ (hpost) (rfl) hP hD hS dX8_clear_16

abbrev rX8_isFigure : Room := { frames := 1, cells := 0, slots := 0, locals := 22 }
set_option maxHeartbeats 4000000 in
set_option maxRecDepth 100000 in
theorem c_X8_isFigure (l : Launch) (G : kG) (h : Nat) (v : Nat → Int32) (q : Nat → Nat) (tx : Nat → Int32) (k : Nat) (len : Nat) (hl22 : v 22 = nI len) (hlen : len ≤ 140) (hk : k ≤ 140) : Ri l G yX8_isFigure wsX8_isFigure rX8_isFigure [.ref h, .int (nI k)] [oB h 8 (oF8 v q), aI G (q 23) 140 tx] (fun r => r = b2i (decide (k < len) && pFig (tx k))) := by
  refine Ri.of (cc := cX8_isFigure) (maxL := 2) (by decide) rfl (Nat.le_of_ble_eq_true rfl) ?_
  intro pM eM sM mM bM tM cM Q hx hb hts hown hml hP hK hret ls hl
  have hown : sM.vm.findClass RX8 = some mM.cls := hown
  have hl : lv_has ls 2 [(0, .ref h), (1, .int (nI k))] := hl
  have hin8 : ∀ w ∈ u_ws RX8 TX8 44, w ∈ wsX8_isFigure := by decide +kernel
  have f109 := hts (.fieldLink RX8 109 "HorizonPeaksModel" "letters" "I") (by decide +kernel)
  have f59 := hts (.fieldLink RX8 59 "HorizonPeaksModel" "text" "[I") (by decide +kernel)
  refine lv_iload_n hx hb dX8_isFigure_0 rfl (lv_at hl 1 rfl) ?_
  refine lv_aload_n hx hb dX8_isFigure_1 rfl (lv_at hl 0 rfl) ?_
  refine va_get (D := G.1) (ci := 8) (v := .int (v 22)) (C := RX8) (T := TX8) (N := 44) hx hb hts hin8 hown hK.1 hP 0 rfl rfl 22 (by decide) f109 (fun _ h9 => h9) rfl dX8_isFigure_2 ?_
  refine top_i (y := nI len) (hl22) ?_
  refine lv_icmp_ge (tgt := 28) hx hb dX8_isFigure_5 (by decide) (fun c_5 => ?_) (fun c_5 => ?_)
  · have c_5 : len ≤ k := (c_le (a := len) (b := k) rfl rfl (by omega) (by omega)).mp c_5
    have hkl : ¬ k < len := by omega
    refine lv_iconst (v := 0) hx hb dX8_isFigure_28 (by decide) ?_
    exact hret _ _ _ (by simp [b2i, hkl]) (rfl) dX8_isFigure_29
  · have c_5 : ¬ len ≤ k := fun hne => c_5 ((c_le (a := len) (b := k) rfl rfl (by omega) (by omega)).mpr hne)
    refine lv_aload_n hx hb dX8_isFigure_8 rfl (lv_at hl 0 rfl) ?_
    refine va_get (D := G.1) (ci := 8) (v := .ref (q 23)) (C := RX8) (T := TX8) (N := 44) hx hb hts hin8 hown hK.1 hP 0 rfl rfl 23 (by decide) f59 (fun _ h9 => h9) rfl dX8_isFigure_9 ?_
    refine lv_iload_n hx hb dX8_isFigure_12 rfl (lv_at hl 1 rfl) ?_
    refine al_i hx hb hK.1 hP 1 0 rfl rfl (j := k) (by omega) (Nat.le_of_ble_eq_true rfl) dX8_isFigure_13 ?_
    refine lv_bipush (v := 48) hx hb dX8_isFigure_14 (by decide) ?_
    refine lv_bipush (v := 57) hx hb dX8_isFigure_16 (by decide) ?_
    refine rd_i (va_runS (As := [.int (tx k), .int 48, .int 57]) (rest := []) ⟨hx, hb, hml, hown, hts⟩ (c_X8_in l G (tx k) 48 57) (va_cwS 3 hts gX8_isFigure_X8_in rfl rfl rfl (by decide +kernel) ⟨Nat.le_of_ble_eq_true rfl, Nat.le_of_ble_eq_true rfl⟩) (rPre_S hK hP [] rfl) rfl rfl hl.1 rfl (lv_room (Nat.le_of_ble_eq_true rfl)) dX8_isFigure_18 ⟨Nat.zero_le _, Nat.zero_le _⟩) (fun r_18 q_18 => ?_)
    obtain rfl : r_18 = b2i (pIn (tx k) 48 57) := q_18
    refine lv_if_eq (tgt := 28) hx hb dX8_isFigure_21 (by decide) (fun c_21 => ?_) (fun c_21 => ?_)
    · have c_21 : (pIn (tx k) 48 57) = false := b2i_0.mp c_21
      have c_21 : pFig (tx k) = false := c_21
      have hkl : k < len := by omega
      refine lv_iconst (v := 0) hx hb dX8_isFigure_28 (by decide) ?_
      exact hret _ _ _ (by simp [b2i, hkl, c_21]) (rfl) dX8_isFigure_29
    · have c_21 : (pIn (tx k) 48 57) = true := b2i_n0.mp c_21
      have c_21 : pFig (tx k) = true := c_21
      have hkl : k < len := by omega
      refine lv_iconst (v := 1) hx hb dX8_isFigure_24 (by decide) ?_
      refine lv_goto (tgt := 29) hx hb dX8_isFigure_25 (by decide) ?_
      exact hret _ _ _ (by simp [b2i, hkl, c_21]) (rfl) dX8_isFigure_29
