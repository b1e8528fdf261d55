/-! looks by bits of a long -/
def lb (x : Int64) (j : Nat) : Bool := x.toBitVec.getLsbD j
theorem lb_or (x y : Int64) (j : Nat) : lb (x ||| y) j = (lb x j || lb y j) := by unfold lb; rw [Int64.toBitVec_or, BitVec.getLsbD_or]
theorem lb_0 (j : Nat) : lb 0 j = false := by unfold lb; show (0#64).getLsbD j = false; simp
theorem lb_one {m j : Nat} (hm : m < 64) (hj : j < 64) : lb ((1 : Int64) <<< ((nI m).toInt64 &&& 63)) j = decide (m = j) := by
  rw [show (1 : Int64) = lN 1 from rfl, wb_shl 1 hm, Nat.one_mul]
  unfold lb
  rw [wb_tb, BitVec.getLsbD_ofNat]
  simp [hj, Nat.testBit_two_pow]
theorem u64_tn {n : Nat} (h : n < 2 ^ 64) : (UInt64.ofNat n).toNat = n := by first | exact UInt64.toNat_ofNat_of_lt' h | (simp [UInt64.toNat_ofNat, Nat.mod_eq_of_lt h]; done) | (rw [UInt64.toNat_ofNat']; exact Nat.mod_eq_of_lt h)
theorem lb_test {x : Int64} {j : Nat} (hj : j < 64) : ((x.toUInt64 >>> ((nI j).toInt64.toUInt64 &&& Int64.toUInt64 63)).toInt64 &&& 1) = 0 ↔ lb x j = false := ts_bit hj (by rw [wb_cu j hj]; exact u64_tn (by omega))
theorem lg0 {x y : Int64} : lg_cmp x y = 0 ↔ x = y := by
  unfold lg_cmp
  constructor
  · intro h
    split at h
    · exact absurd h (by decide)
    · split at h
      · assumption
      · exact absurd h (by decide)
  · intro h
    subst h
    simp
def lkB (b s0 sl j : Nat) : Bool := anyB (fun c => decide ((b + c + 128 - s0 - sl) % 64 = j)) (2 * sl + 1)
theorem off_eq (a b : Nat) (ha : a < 1073741824) (hb : b < 1073741824) : (nI a - nI b).toInt = (a : Int) - b := pk_sub_toInt ha hb
theorem lk_arg {b s0 c sl : Nat} (hb : b < 64) (hs : s0 < 64) (hc : c < 8) (hl : sl ≤ 3) : nI b - nI s0 + (nI c - nI sl) = nI (b + c + 70 - s0 - sl) - 70 := by
  refine Int32.toInt_inj.mp ?_
  have e1 := off_eq b s0 (by omega) (by omega)
  have e2 := off_eq c sl (by omega) (by omega)
  have e3 := off_eq (b + c + 70 - s0 - sl) 70 (by omega) (by omega)
  rw [fb_addI (by omega) (by omega), e1, e2, show (70 : Int32) = nI 70 from rfl, e3]
  omega
theorem fmod_tab : ∀ a, a < 150 → fmod (nI a - 70) 64 = nI ((a + 58) % 64) := by decide +kernel
theorem lk_fmod {b s0 c sl : Nat} (hb : b < 64) (hs : s0 < 64) (hc : c < 8) (hl : sl ≤ 3) : fmod (nI b - nI s0 + (nI c - nI sl)) 64 = nI ((b + c + 128 - s0 - sl) % 64) := by
  rw [lk_arg hb hs hc hl, fmod_tab _ (by omega), show b + c + 70 - s0 - sl + 58 = b + c + 128 - s0 - sl by omega]
theorem off_lt {c sl : Nat} (hc : c < 100) (hl : sl ≤ 3) : nI sl < nI c - nI sl ↔ 2 * sl < c := by
  rw [Int32.lt_iff_toInt_lt, off_eq c sl (by omega) (by omega), nI_toInt (by omega)]
  omega
theorem off_inc {c sl : Nat} : nI c - nI sl + Int32.ofInt 1 = nI (c + 1) - nI sl := by
  rw [nI_succ]
  show nI c - nI sl + 1 = nI c + 1 - nI sl
  refine Int32.toBitVec_inj.mp ?_
  simp only [Int32.toBitVec_add, Int32.toBitVec_sub]
  rw [BitVec.sub_eq_add_neg, BitVec.sub_eq_add_neg, BitVec.add_assoc, BitVec.add_assoc, BitVec.add_comm (-(nI sl).toBitVec)]
theorem off_0 (sl : Nat) : -nI sl = nI 0 - nI sl := by
  refine Int32.toBitVec_inj.mp ?_
  simp only [Int32.toBitVec_neg, Int32.toBitVec_sub]
  rw [BitVec.sub_eq_add_neg]
  show _ = 0#32 + _
  rw [BitVec.zero_add]
/-- whether a peak fits a notch: sh: it is shown, ht how it stands, be its bearing; zs, nb the notch's; j the look -/
def fE (sh : Nat → Bool) (ht : Nat → Int32) (be : Nat → Nat) (zs : Nat → Int32) (nb : Nat → Nat) (sl k p j : Nat) : Bool := sh p && (!decide (nI sl < iabs (ht p - zs k)) && lkB (be p) (nb k) sl j)
def shB (vis : Nat → Int32) (lf : Int32) (pt p : Nat) : Bool := !decide ((vis pt &&& lf) >>> (nI p &&& 31) &&& 1 = 0)
theorem bt_gbits {f : Nat → Bool} : ∀ {n : Nat}, n ≤ 10 → ∀ {i : Nat}, i < 32 → bt (gbits f n) i = (decide (i < n) && f i)
  | 0, _, i, _ => by rw [gbits, b_0]; simp
  | n + 1, h, i, hi => by
    rw [gbits]
    have ih := bt_gbits (f := f) (n := n) (by omega) hi
    by_cases c : f n = true
    · rw [if_pos c, b_or, ih, bt_one (by omega) hi]
      by_cases e : i = n
      · subst e; simp [c]
      · by_cases d : i < n
        · simp [d, show i < n + 1 by omega, e]
        · simp [d, show ¬ i < n + 1 by omega, e]
    · rw [if_neg c, ih]
      by_cases e : i = n
      · subst e; simp [eq_false_of_ne_true c]
      · by_cases d : i < n
        · simp [d, show i < n + 1 by omega]
        · simp [d, show ¬ i < n + 1 by omega]
theorem mul10 (j k : Nat) : nI j * 10 + nI k = nI (j * 10 + k) := by rw [show (10 : Int32) = nI 10 from rfl, pk_mul, nI_add]
theorem mul64 (j k : Nat) : nI j * 64 + nI k = nI (j * 64 + k) := by rw [show (64 : Int32) = nI 64 from rfl, pk_mul, nI_add]
abbrev rX6_isAmong : Room := { frames := 0, cells := 0, slots := 0, locals := 0 }
set_option maxHeartbeats 4000000 in
set_option maxRecDepth 100000 in
theorem c_X6_isAmong (l : Launch) (G : kG) (x : Int64) (j : Nat) (hj : j < 64) : Ri l G yX6_isAmong wsX6_isAmong rX6_isAmong [.long x, .int (nI j)] [] (fun r => r = b2i (lb x j)) := by
  refine Ri.of (cc := cX6_isAmong) (maxL := 3) (by decide) rfl (Nat.le_of_ble_eq_true rfl) ?_
  intro pM eM sM mM bM tM cM Q hx hb hts hown hml hP hK hret ls hl
  have hown : sM.vm.findClass RX6 = some mM.cls := hown
  have hl : lv_has ls 3 [(0, .long x), (2, .int (nI j))] := hl
  refine lv_lload_n hx hb dX6_isAmong_0 rfl (lv_at hl 0 rfl) ?_
  refine lv_iload_n hx hb dX6_isAmong_1 rfl (lv_at hl 1 rfl) ?_
  refine lv_lushr (v := (x.toUInt64 >>> ((nI j).toInt64.toUInt64 &&& Int64.toUInt64 63)).toInt64) hx hb dX6_isAmong_2 rfl ?_
  refine lv_lconst (v := 1) hx hb dX6_isAmong_3 (by decide) ?_
  refine lv_land hx hb dX6_isAmong_4 ?_
  refine lv_lconst (v := 0) hx hb dX6_isAmong_5 (by decide) ?_
  refine W.lcmp hx hb dX6_isAmong_6 ?_
  refine lv_if_eq (tgt := 14) hx hb dX6_isAmong_7 (by decide) (fun c_7 => ?_) (fun c_7 => ?_)
  · refine lv_iconst (v := 0) hx hb dX6_isAmong_14 (by decide) ?_
    exact hret _ _ _ (by rw [(lb_test hj).mp (lg0.mp c_7)]; rfl) (rfl) dX6_isAmong_15
  · refine lv_iconst (v := 1) hx hb dX6_isAmong_10 (by decide) ?_
    refine lv_goto (tgt := 15) hx hb dX6_isAmong_11 (by decide) ?_
    exact hret _ _ _ (by rw [ts_nf (fun e => c_7 (lg0.mpr ((lb_test hj).mpr e)))]; rfl) (rfl) dX6_isAmong_15

abbrev rX6_looksAbout : Room := { frames := 1, cells := 0, slots := 0, locals := 22 }
set_option maxHeartbeats 4000000 in
set_option maxRecDepth 100000 in
theorem c_X6_looksAbout (l : Launch) (G : kG) (h : Nat) (v : Nat → Int32) (q : Nat → Nat) (v1 : Nat → Int32) (q1 : Nat → Nat) (b : Nat) (s0 : Nat) (sl : Nat) (hsl : v1 7 = nI sl) (hsl3 : sl ≤ 3) (hb0 : b < 64) (hs0 : s0 < 64) : Rl l G yX6_looksAbout wsX6_looksAbout rX6_looksAbout [.ref h, .int (nI b - nI s0)] [oB h 6 (oF6 v q), oB (q 0) 1 (oF1 v1 q1)] (fun r => ∀ j, j < 64 → lb r j = lkB b s0 sl j) := by
  refine Rl.of (cc := cX6_looksAbout) (maxL := 5) (by decide) rfl (Nat.le_of_ble_eq_true rfl) ?_
  intro pM eM sM mM bM tM cM Q hx hb hts hown hml hP hK hret ls hl
  have hown : sM.vm.findClass RX6 = some mM.cls := hown
  have hl : lv_has ls 5 [(0, .ref h), (1, .int (nI b - nI s0))] := hl
  have hin1 : ∀ w ∈ u_ws RX1 TX1 11, w ∈ wsX6_looksAbout := by decide +kernel
  have hin6 : ∀ w ∈ u_ws RX6 TX6 10, w ∈ wsX6_looksAbout := by decide +kernel
  have f29 := hts (.fieldLink RX6 29 "HorizonPeaks$Views" "land" "LHorizonPeaks$Land;") (by decide +kernel)
  have f67 := hts (.fieldLink RX6 67 "HorizonPeaks$Land" "slack" "I") (by decide +kernel)
  refine lv_lconst (v := 0) hx hb dX6_looksAbout_0 (by decide) ?_
  refine lv_lstore_n (lv' := [(2, .long 0), (0, .ref h), (1, .int (nI b - nI s0))]) hx hb dX6_looksAbout_1 rfl hl (by decide) rfl (fun ls hl => ?_)
  refine lv_aload_n hx hb dX6_looksAbout_2 rfl (lv_at hl 1 rfl) ?_
  refine va_get (D := G.1) (ci := 6) (v := .ref (q 0)) (C := RX6) (T := TX6) (N := 10) hx hb hts hin6 hown hK.1 hP 0 rfl rfl 0 (by decide) f29 (fun _ h9 => h9) rfl dX6_looksAbout_3 ?_
  refine va_get (D := G.1) (ci := 1) (v := .int (v1 7)) (C := RX1) (T := TX1) (N := 11) hx hb hts hin1 hown hK.1 hP 1 rfl rfl 7 (by decide) f67 (fun _ h9 => h9) rfl dX6_looksAbout_6 ?_
  refine top_i (y := nI sl) (hsl) ?_
  refine lv_ineg hx hb dX6_looksAbout_9 ?_
  refine top_i (y := nI 0 - nI sl) (off_0 sl) ?_
  refine lv_istore (lv' := [(4, .int (nI 0 - nI sl)), (2, .long 0), (0, .ref h), (1, .int (nI b - nI s0))]) hx hb dX6_looksAbout_10 hl (by decide) rfl (fun ls hl => ?_)
  have loop_12 : ∀ (nF : Nat) (z : Int64) (c : Nat), (2 * sl + 1 - c) < nF → (c ≤ 2 * sl + 1) → (∀ j, j < 64 → lb z j = anyB (fun c => decide ((b + c + 128 - s0 - sl) % 64 = j)) c) → ∀ (ls : Array Slot), lv_has ls 5 [(4, .int (nI c - nI sl)), (2, .long z), (0, .ref h), (1, .int (nI b - nI s0))] → W pM l eM rX6_looksAbout sM mM [.ref h, .int (nI b - nI s0)].toArray bM tM cM sM.heap [] 0 0 Q (F0 mM 12 ls []) := by
    intro nF
    induction nF with
    | zero => intro z c hmF; exact absurd hmF (Nat.not_lt_zero _)
    | succ nF ih12 =>
      intro z c hmF hc hz ls hl
      refine lv_iload hx hb dX6_looksAbout_12 (lv_at hl 0 rfl) ?_
      refine lv_aload_n hx hb dX6_looksAbout_14 rfl (lv_at hl 2 rfl) ?_
      refine va_get (D := G.1) (ci := 6) (v := .ref (q 0)) (C := RX6) (T := TX6) (N := 10) hx hb hts hin6 hown hK.1 hP 0 rfl rfl 0 (by decide) f29 (fun _ h9 => h9) rfl dX6_looksAbout_15 ?_
      refine va_get (D := G.1) (ci := 1) (v := .int (v1 7)) (C := RX1) (T := TX1) (N := 11) hx hb hts hin1 hown hK.1 hP 1 rfl rfl 7 (by decide) f67 (fun _ h9 => h9) rfl dX6_looksAbout_18 ?_
      refine top_i (y := nI sl) (hsl) ?_
      refine lv_icmp_gt (tgt := 44) hx hb dX6_looksAbout_21 (by decide) (fun c_21 => ?_) (fun c_21 => ?_)
      · have c_21 := (off_lt (by omega) hsl3).mp c_21
        refine lv_lload_n hx hb dX6_looksAbout_44 rfl (lv_at hl 1 rfl) ?_
        exact hret _ _ _ (fun j hj => by rw [hz j hj, show c = 2 * sl + 1 by omega]; rfl) dX6_looksAbout_45
      · have c_21 : ¬ 2 * sl < c := fun hne => c_21 ((off_lt (by omega) hsl3).mpr hne)
        refine lv_lload_n hx hb dX6_looksAbout_24 rfl (lv_at hl 1 rfl) ?_
        refine lv_lconst (v := 1) hx hb dX6_looksAbout_25 (by decide) ?_
        refine lv_iload_n hx hb dX6_looksAbout_26 rfl (lv_at hl 3 rfl) ?_
        refine lv_iload hx hb dX6_looksAbout_27 (lv_at hl 0 rfl) ?_
        refine lv_iadd hx hb dX6_looksAbout_29 ?_
        refine lv_bipush (v := 64) hx hb dX6_looksAbout_30 (by decide) ?_
        refine rd_i (va_runS (As := [.int ((nI b - nI s0) + (nI c - nI sl)), .int 64]) (rest := [.long 1, .long z]) ⟨hx, hb, hml, hown, hts⟩ (c_J9_floorMod_7cf53 l G ((nI b - nI s0) + (nI c - nI sl)) 64 (by decide)) (va_cwS 2 hts gX6_looksAbout_J9_floorMod_7cf53 rfl rfl rfl (by decide +kernel) ⟨Nat.le_of_ble_eq_true rfl, Nat.le_of_ble_eq_true rfl⟩) (rPre_S hK hP [] rfl) rfl rfl hl.1 rfl (lv_room (Nat.le_of_ble_eq_true rfl)) dX6_looksAbout_32 ⟨Nat.zero_le _, Nat.zero_le _⟩) (fun r_32 q_32 => ?_)
        obtain rfl : r_32 = fmod ((nI b - nI s0) + (nI c - nI sl)) 64 := q_32
        refine top_i (y := nI ((b + c + 128 - s0 - sl) % 64)) (lk_fmod hb0 hs0 (by omega) hsl3) ?_
        refine lv_lshl (v := 1 <<< ((nI ((b + c + 128 - s0 - sl) % 64)).toInt64 &&& 63)) hx hb dX6_looksAbout_35 rfl ?_
        refine lv_lor hx hb dX6_looksAbout_36 ?_
        refine lv_lstore_n (lv' := [(2, .long (z ||| (1 <<< ((nI ((b + c + 128 - s0 - sl) % 64)).toInt64 &&& 63)))), (4, .int (nI c - nI sl)), (0, .ref h), (1, .int (nI b - nI s0))]) hx hb dX6_looksAbout_37 rfl hl (by decide) rfl (fun ls hl => ?_)
        refine lv_iinc (v := nI (c + 1) - nI sl) (lv' := [(4, .int (nI (c + 1) - nI sl)), (2, .long (z ||| (1 <<< ((nI ((b + c + 128 - s0 - sl) % 64)).toInt64 &&& 63)))), (0, .ref h), (1, .int (nI b - nI s0))]) hx hb dX6_looksAbout_38 hl (k := 1) rfl (off_inc) (by decide) rfl (fun ls hl => ?_)
        refine lv_goto (tgt := 12) hx hb dX6_looksAbout_41 (by decide) ?_
        exact ih12 (z ||| (1 <<< ((nI ((b + c + 128 - s0 - sl) % 64)).toInt64 &&& 63))) (c + 1) (by omega) (by omega) (fun j hj => by rw [lb_or, hz j hj, lb_one (by omega) hj]; rfl) _ (lv_sub hl [0, 1, 2, 3] rfl)
  exact loop_12 _ 0 0 (Nat.lt_succ_self _) (Nat.zero_le _) (fun j _ => lb_0 j) _ (lv_sub hl [0, 1, 2, 3] rfl)

abbrev rX6_fitting : Room := { frames := 1, cells := 0, slots := 0, locals := 22 }
set_option maxHeartbeats 4000000 in
set_option maxRecDepth 100000 in
theorem c_X6_fitting (l : Launch) (G : kG) (h : Nat) (v : Nat → Int32) (q : Nat → Nat) (lk : Nat → Int64) (v1 : Nat → Int32) (q1 : Nat → Nat) (n : Nat) (j : Nat) (k : Nat) (hn1 : v1 3 = nI n) (hn : n ≤ 10) (hj : j < 64) (hk : k < 8) : Ri l G yX6_fitting wsX6_fitting rX6_fitting [.ref h, .int (nI j), .int (nI k)] [oB h 6 (oF6 v q), aJ G (q 8) 80 lk, oB (q 0) 1 (oF1 v1 q1)] (fun r => r = gbits (fun p => lb (lk (k * 10 + p)) j) n) := by
  refine Ri.of (cc := cX6_fitting) (maxL := 5) (by decide) rfl (Nat.le_of_ble_eq_true rfl) ?_
  intro pM eM sM mM bM tM cM Q hx hb hts hown hml hP hK hret ls hl
  have hown : sM.vm.findClass RX6 = some mM.cls := hown
  have hl : lv_has ls 5 [(0, .ref h), (1, .int (nI j)), (2, .int (nI k))] := hl
  have hin1 : ∀ w ∈ u_ws RX1 TX1 11, w ∈ wsX6_fitting := by decide +kernel
  have hin6 : ∀ w ∈ u_ws RX6 TX6 10, w ∈ wsX6_fitting := by decide +kernel
  have f29 := hts (.fieldLink RX6 29 "HorizonPeaks$Views" "land" "LHorizonPeaks$Land;") (by decide +kernel)
  have f42 := hts (.fieldLink RX6 42 "HorizonPeaks$Land" "peaks" "I") (by decide +kernel)
  have f22 := hts (.fieldLink RX6 22 "HorizonPeaks$Views" "looks" "[J") (by decide +kernel)
  refine lv_iconst (v := 0) hx hb dX6_fitting_0 (by decide) ?_
  refine lv_istore_n (lv' := [(3, .int 0), (0, .ref h), (1, .int (nI j)), (2, .int (nI k))]) hx hb dX6_fitting_1 rfl hl (by decide) rfl (fun ls hl => ?_)
  refine lv_iconst (v := 0) hx hb dX6_fitting_2 (by decide) ?_
  refine lv_istore (lv' := [(4, .int 0), (3, .int 0), (0, .ref h), (1, .int (nI j)), (2, .int (nI k))]) hx hb dX6_fitting_3 hl (by decide) rfl (fun ls hl => ?_)
  have loop_5 : ∀ (nF : Nat) (z : Int32) (p : Nat), (n - p) < nF → (p ≤ n) → (z = gbits (fun p => lb (lk (k * 10 + p)) j) p) → ∀ (ls : Array Slot), lv_has ls 5 [(4, .int (nI p)), (3, .int z), (0, .ref h), (1, .int (nI j)), (2, .int (nI k))] → W pM l eM rX6_fitting sM mM [.ref h, .int (nI j), .int (nI k)].toArray bM tM cM sM.heap [] 0 0 Q (F0 mM 5 ls []) := by
    intro nF
    induction nF with
    | zero => intro z p hmF; exact absurd hmF (Nat.not_lt_zero _)
    | succ nF ih5 =>
      intro z p hmF hp hz ls hl
      refine lv_iload hx hb dX6_fitting_5 (lv_at hl 0 rfl) ?_
      refine lv_aload_n hx hb dX6_fitting_7 rfl (lv_at hl 2 rfl) ?_
      refine va_get (D := G.1) (ci := 6) (v := .ref (q 0)) (C := RX6) (T := TX6) (N := 10) hx hb hts hin6 hown hK.1 hP 0 rfl rfl 0 (by decide) f29 (fun _ h9 => h9) rfl dX6_fitting_8 ?_
      refine va_get (D := G.1) (ci := 1) (v := .int (v1 3)) (C := RX1) (T := TX1) (N := 11) hx hb hts hin1 hown hK.1 hP 2 rfl rfl 3 (by decide) f42 (fun _ h9 => h9) rfl dX6_fitting_11 ?_
      refine top_i (y := nI n) (hn1) ?_
      refine lv_icmp_ge (tgt := 49) hx hb dX6_fitting_14 (by decide) (fun c_14 => ?_) (fun c_14 => ?_)
      · have c_14 : n ≤ p := (c_le (a := n) (b := p) rfl rfl (by omega) (by omega)).mp c_14
        refine lv_iload_n hx hb dX6_fitting_49 rfl (lv_at hl 1 rfl) ?_
        exact hret _ _ _ (by rw [hz, show p = n by omega]) (rfl) dX6_fitting_50
      · have c_14 : ¬ n ≤ p := fun hne => c_14 ((c_le (a := n) (b := p) rfl rfl (by omega) (by omega)).mpr hne)
        refine lv_aload_n hx hb dX6_fitting_17 rfl (lv_at hl 2 rfl) ?_
        refine va_get (D := G.1) (ci := 6) (v := .ref (q 8)) (C := RX6) (T := TX6) (N := 10) hx hb hts hin6 hown hK.1 hP 0 rfl rfl 8 (by decide) f22 (fun _ h9 => h9) rfl dX6_fitting_18 ?_
        refine lv_iload_n hx hb dX6_fitting_21 rfl (lv_at hl 4 rfl) ?_
        refine lv_bipush (v := 10) hx hb dX6_fitting_22 (by decide) ?_
        refine lv_imul hx hb dX6_fitting_24 ?_
        refine lv_iload hx hb dX6_fitting_25 (lv_at hl 0 rfl) ?_
        refine lv_iadd hx hb dX6_fitting_27 ?_
        refine top_i (y := nI (k * 10 + p)) (mul10 k p) ?_
        refine al_l hx hb hK.1 hP 1 1 rfl rfl (j := k * 10 + p) (by omega) (Nat.le_of_ble_eq_true rfl) dX6_fitting_28 ?_
        refine lv_iload_n hx hb dX6_fitting_29 rfl (lv_at hl 3 rfl) ?_
        refine rd_i (va_runS (As := [.long (lk (k * 10 + p)), .int (nI j)]) (rest := []) ⟨hx, hb, hml, hown, hts⟩ (c_X6_isAmong l G (lk (k * 10 + p)) j (hj)) (va_cwS 2 hts gX6_fitting_X6_isAmong rfl rfl rfl (by decide +kernel) ⟨Nat.le_of_ble_eq_true rfl, Nat.le_of_ble_eq_true rfl⟩) (rPre_S hK hP [] rfl) rfl rfl hl.1 rfl (lv_room (Nat.le_of_ble_eq_true rfl)) dX6_fitting_30 ⟨Nat.zero_le _, Nat.zero_le _⟩) (fun r_30 q_30 => ?_)
        obtain rfl : r_30 = b2i (lb (lk (k * 10 + p)) j) := q_30
        refine lv_if_eq (tgt := 43) hx hb dX6_fitting_33 (by decide) (fun c_33 => ?_) (fun c_33 => ?_)
        · have c_33 : (lb (lk (k * 10 + p)) j) = false := b2i_0.mp c_33
          refine lv_iinc (v := nI (p + 1)) (lv' := [(4, .int (nI (p + 1))), (3, .int z), (0, .ref h), (1, .int (nI j)), (2, .int (nI k))]) hx hb dX6_fitting_43 hl (k := 0) rfl (inc_nI _ 1) (by decide) rfl (fun ls hl => ?_)
          refine lv_goto (tgt := 5) hx hb dX6_fitting_46 (by decide) ?_
          exact ih5 z (p + 1) (by omega) (by omega) (by rw [gbits, c_33, hz]; rfl) _ (lv_sub hl [0, 1, 2, 3, 4] rfl)
        · have c_33 : (lb (lk (k * 10 + p)) j) = true := b2i_n0.mp c_33
          refine lv_iload_n hx hb dX6_fitting_36 rfl (lv_at hl 1 rfl) ?_
          refine lv_iconst (v := 1) hx hb dX6_fitting_37 (by decide) ?_
          refine lv_iload hx hb dX6_fitting_38 (lv_at hl 0 rfl) ?_
          refine lv_ishl hx hb dX6_fitting_40 ?_
          refine lv_ior hx hb dX6_fitting_41 ?_
          refine lv_istore_n (lv' := [(3, .int (z ||| (1 <<< ((nI p) &&& 31)))), (4, .int (nI p)), (0, .ref h), (1, .int (nI j)), (2, .int (nI k))]) hx hb dX6_fitting_42 rfl hl (by decide) rfl (fun ls hl => ?_)
          refine lv_iinc (v := nI (p + 1)) (lv' := [(4, .int (nI (p + 1))), (3, .int (z ||| (1 <<< ((nI p) &&& 31)))), (0, .ref h), (1, .int (nI j)), (2, .int (nI k))]) hx hb dX6_fitting_43 hl (k := 1) rfl (inc_nI _ 1) (by decide) rfl (fun ls hl => ?_)
          refine lv_goto (tgt := 5) hx hb dX6_fitting_46 (by decide) ?_
          exact ih5 (z ||| (1 <<< ((nI p) &&& 31))) (p + 1) (by omega) (by omega) (by rw [gbits, c_33, hz]; rfl) _ (lv_sub hl [0, 1, 2, 3, 4] rfl)
  exact loop_5 _ 0 0 (Nat.lt_succ_self _) (Nat.zero_le _) (rfl) _ (lv_sub hl [0, 1, 2, 3, 4] rfl)

abbrev rX6_lookTo : Room := { frames := 2, cells := 0, slots := 0, locals := 46 }
set_option maxHeartbeats 4000000 in
set_option maxRecDepth 100000 in
theorem c_X6_lookTo (l : Launch) (G : kG) (h : Nat) (v : Nat → Int32) (q : Nat → Nat) (lk : Nat → Int64) (v1 : Nat → Int32) (q1 : Nat → Nat) (v3 : Nat → Int32) (q3 : Nat → Nat) (v2 : Nat → Int32) (q2 : Nat → Nat) (rw : Nat → Int32) (n : Nat) (nn : Nat) (j : Nat) (hn1 : v1 3 = nI n) (hn : n ≤ 10) (hn3 : v3 2 = nI nn) (hnn : nn ≤ 8) (hj : j < 64) : Cv l G yX6_lookTo wsX6_lookTo rX6_lookTo [.ref h, .int (nI j)] [oB h 6 (oF6 v q), aJ G (q 8) 80 lk, oB (q 0) 1 (oF1 v1 q1), oB (q 1) 3 (oF3 v3 q3), oB (q 2) 2 (oF2 v2 q2), aI G (q2 0) 8 rw] (fun (u : Nat → Int32) => ∀ k, k < nn → u k = gbits (fun p => lb (lk (k * 10 + p)) j) n) (fun u => [oB h 6 (oF6 v q), aJ G (q 8) 80 lk, oB (q 0) 1 (oF1 v1 q1), oB (q 1) 3 (oF3 v3 q3), oB (q 2) 2 (oF2 v2 q2), aI G (q2 0) 8 u]) 0 0 := by
  refine Cv.of (cc := cX6_lookTo) (maxL := 3) (by decide) rfl (Nat.le_of_ble_eq_true rfl) ?_
  intro pM eM sM mM bM tM cM Q A hx hb hts hown hml hnm hA hK hP hD hS hret ls hl
  have hown : sM.vm.findClass RX6 = some mM.cls := hown
  have hl : lv_has ls 3 [(0, .ref h), (1, .int (nI j))] := hl
  have hin2 : ∀ w ∈ u_ws RX2 TX2 3, w ∈ wsX6_lookTo := by decide +kernel
  have hin3 : ∀ w ∈ u_ws RX3 TX3 3, w ∈ wsX6_lookTo := by decide +kernel
  have hin6 : ∀ w ∈ u_ws RX6 TX6 10, w ∈ wsX6_lookTo := by decide +kernel
  have f33 := hts (.fieldLink RX6 33 "HorizonPeaks$Views" "notches" "LHorizonPeaks$Notches;") (by decide +kernel)
  have f53 := hts (.fieldLink RX6 53 "HorizonPeaks$Notches" "size" "I") (by decide +kernel)
  have f12 := hts (.fieldLink RX6 12 "HorizonPeaks$Views" "matching" "LHorizonPeaks$Matching;") (by decide +kernel)
  have f98 := hts (.fieldLink RX6 98 "HorizonPeaks$Matching" "rows" "[I") (by decide +kernel)
  refine lv_iconst (v := 0) hx hb dX6_lookTo_0 (by decide) ?_
  refine lv_istore_n (lv' := [(2, .int 0), (0, .ref h), (1, .int (nI j))]) hx hb dX6_lookTo_1 rfl hl (by decide) rfl (fun ls hl => ?_)
  have loop_2 : ∀ (nF : Nat) (f : Nat → Int32) (k : Nat), (nn - k) < nF → (k ≤ nn) → (∀ i, i < k → f i = gbits (fun p => lb (lk (i * 10 + p)) j) n) → ∀ (H : Heap) (locs : List Loc), va_P G.1 vwCl [oB h 6 (oF6 v q), aJ G (q 8) 80 lk, oB (q 0) 1 (oF1 v1 q1), oB (q 1) 3 (oF3 v3 q3), oB (q 2) 2 (oF2 v2 q2), aI G (q2 0) 8 f] H → va_D A [oB h 6 (oF6 v q), aJ G (q 8) 80 lk, oB (q 0) 1 (oF1 v1 q1), oB (q 1) 3 (oF3 v3 q3), oB (q 2) 2 (oF2 v2 q2), aI G (q2 0) 8 f] → va_S A sM.heap H locs → ∀ (ls : Array Slot), lv_has ls 3 [(2, .int (nI k)), (0, .ref h), (1, .int (nI j))] → W pM l eM rX6_lookTo sM mM [.ref h, .int (nI j)].toArray bM tM cM H locs 0 0 Q (F0 mM 2 ls []) := by
    intro nF
    induction nF with
    | zero => intro f k hmF; exact absurd hmF (Nat.not_lt_zero _)
    | succ nF ih2 =>
      intro f k hmF hk hf H locs hP hD hS ls hl
      refine lv_iload_n hx hb dX6_lookTo_2 rfl (lv_at hl 0 rfl) ?_
      refine lv_aload_n hx hb dX6_lookTo_3 rfl (lv_at hl 1 rfl) ?_
      refine va_get (D := G.1) (ci := 6) (v := .ref (q 1)) (C := RX6) (T := TX6) (N := 10) hx hb hts hin6 hown hK.1 hP 0 rfl rfl 1 (by decide) f33 (fun _ h9 => h9) rfl dX6_lookTo_4 ?_
      refine va_get (D := G.1) (ci := 3) (v := .int (v3 2)) (C := RX3) (T := TX3) (N := 3) hx hb hts hin3 hown hK.1 hP 3 rfl rfl 2 (by decide) f53 (fun _ h9 => h9) rfl dX6_lookTo_7 ?_
      refine top_i (y := nI nn) (hn3) ?_
      refine lv_icmp_ge (tgt := 34) hx hb dX6_lookTo_10 (by decide) (fun c_10 => ?_) (fun c_10 => ?_)
      · have c_10 : nn ≤ k := (c_le (a := nn) (b := k) rfl rfl (by omega) (by omega)).mp c_10
        exact hret f _ _ _ _ (fun i h => hf i (by omega)) hP hD hS dX6_lookTo_34
      · have c_10 : ¬ nn ≤ k := fun hne => c_10 ((c_le (a := nn) (b := k) rfl rfl (by omega) (by omega)).mpr hne)
        refine lv_aload_n hx hb dX6_lookTo_13 rfl (lv_at hl 1 rfl) ?_
        refine va_get (D := G.1) (ci := 6) (v := .ref (q 2)) (C := RX6) (T := TX6) (N := 10) hx hb hts hin6 hown hK.1 hP 0 rfl rfl 2 (by decide) f12 (fun _ h9 => h9) rfl dX6_lookTo_14 ?_
        refine va_get (D := G.1) (ci := 2) (v := .ref (q2 0)) (C := RX2) (T := TX2) (N := 3) hx hb hts hin2 hown hK.1 hP 4 rfl rfl 0 (by decide) f98 (fun _ h9 => h9) rfl dX6_lookTo_17 ?_
        refine lv_iload_n hx hb dX6_lookTo_20 rfl (lv_at hl 0 rfl) ?_
        refine lv_aload_n hx hb dX6_lookTo_21 rfl (lv_at hl 1 rfl) ?_
        refine lv_iload_n hx hb dX6_lookTo_22 rfl (lv_at hl 2 rfl) ?_
        refine lv_iload_n hx hb dX6_lookTo_23 rfl (lv_at hl 0 rfl) ?_
        refine rd_i (va_runV (As := [.int (nI j), .int (nI k)]) (rest := [.int (nI k), .ref (q2 0)]) ⟨hx, hb, hml, hown, hts⟩ (c_X6_fitting l G h v q lk v1 q1 n j k (hn1) (hn) (hj) (by omega)) (cwV 2 hts gX6_lookTo_X6_fitting rfl rfl rfl (by decide +kernel) ⟨Nat.le_of_ble_eq_true rfl, Nat.le_of_ble_eq_true rfl⟩) (rPre_V hK hP [0, 1, 2] rfl 0 6 rfl rfl) rfl rfl hl.1 rfl (lv_room (Nat.le_of_ble_eq_true rfl)) dX6_lookTo_24 ⟨Nat.zero_le _, Nat.zero_le _⟩) (fun r_24 q_24 => ?_)
        obtain rfl : r_24 = gbits (fun p => lb (lk (k * 10 + p)) j) n := q_24
        refine as_i hx hb hK.1 hP hD hS 5 0 rfl rfl (j := k) (by omega) (Nat.le_of_ble_eq_true rfl) dX6_lookTo_27 (fun H locs hP hD hS => ?_)
        have hP : va_P G.1 vwCl [oB h 6 (oF6 v q), aJ G (q 8) 80 lk, oB (q 0) 1 (oF1 v1 q1), oB (q 1) 3 (oF3 v3 q3), oB (q 2) 2 (oF2 v2 q2), aI G (q2 0) 8 (upd f k (gbits (fun p => lb (lk (k * 10 + p)) j) n))] H := hP
        have hD : va_D A [oB h 6 (oF6 v q), aJ G (q 8) 80 lk, oB (q 0) 1 (oF1 v1 q1), oB (q 1) 3 (oF3 v3 q3), oB (q 2) 2 (oF2 v2 q2), aI G (q2 0) 8 (upd f k (gbits (fun p => lb (lk (k * 10 + p)) j) n))] := hD
        refine lv_iinc (v := nI (k + 1)) (lv' := [(2, .int (nI (k + 1))), (0, .ref h), (1, .int (nI j))]) hx hb dX6_lookTo_28 hl (k := 0) rfl (inc_nI _ 1) (by decide) rfl (fun ls hl => ?_)
        refine lv_goto (tgt := 2) hx hb dX6_lookTo_31 (by decide) ?_
        exact ih2 (upd f k (gbits (fun p => lb (lk (k * 10 + p)) j) n)) (k + 1) (by omega) (by omega) (fun i h => if e : i = k then by rw [e, pk_us] else by rw [pk_un e]; exact hf i (by omega)) _ _ hP hD hS _ (lv_sub hl [0, 1, 2] rfl)
  exact loop_2 _ rw 0 (Nat.lt_succ_self _) (Nat.zero_le _) (fun i h => absurd h (Nat.not_lt_zero i)) _ _ hP hD hS _ (lv_sub hl [0, 1, 2] rfl)

abbrev rX6_scoreOf : Room := { frames := 13, cells := 0, slots := 0, locals := 312 }
set_option maxHeartbeats 4000000 in
set_option maxRecDepth 100000 in
theorem c_X6_scoreOf (l : Launch) (G : kG) (h : Nat) (v : Nat → Int32) (q : Nat → Nat) (lk : Nat → Int64) (v1 : Nat → Int32) (q1 : Nat → Nat) (v3 : Nat → Int32) (q3 : Nat → Nat) (v2 : Nat → Int32) (q2 : Nat → Nat) (rw : Nat → Int32) (ow : Nat → Int32) (n : Nat) (nn : Nat) (j : Nat) (hn1 : v1 3 = nI n) (hn : n ≤ 10) (hn3 : v3 2 = nI nn) (hnn : nn ≤ 8) (hj : j < 64) : Ci l G yX6_scoreOf wsX6_scoreOf rX6_scoreOf [.ref h, .int (nI j)] [oB h 6 (oF6 v q), aJ G (q 8) 80 lk, oB (q 0) 1 (oF1 v1 q1), oB (q 1) 3 (oF3 v3 q3), oB (q 2) 2 (oF2 v2 q2), aI G (q2 0) 8 rw, aI G (q2 1) 10 ow] (fun r (u : (Nat → Int32) × (Nat → Int32) × (Nat → Int32)) => r = nI (sc (fun k p => decide (p < n) && lb (lk (k * 10 + p)) j) nn)) (fun u => [oB h 6 (oF6 v q), aJ G (q 8) 80 lk, oB (q 0) 1 (oF1 v1 q1), oB (q 1) 3 (oF3 v3 q3), oB (q 2) 2 (oF2 u.1 q2), aI G (q2 0) 8 u.2.1, aI G (q2 1) 10 u.2.2]) := by
  refine Ci.of (cc := cX6_scoreOf) (maxL := 2) (by decide) rfl (Nat.le_of_ble_eq_true rfl) ?_
  intro pM eM sM mM bM tM cM Q A hx hb hts hown hml hA hK hP hD hS hret ls hl
  have hown : sM.vm.findClass RX6 = some mM.cls := hown
  have hl : lv_has ls 2 [(0, .ref h), (1, .int (nI j))] := hl
  have hin3 : ∀ w ∈ u_ws RX3 TX3 3, w ∈ wsX6_scoreOf := by decide +kernel
  have hin6 : ∀ w ∈ u_ws RX6 TX6 10, w ∈ wsX6_scoreOf := by decide +kernel
  have f12 := hts (.fieldLink RX6 12 "HorizonPeaks$Views" "matching" "LHorizonPeaks$Matching;") (by decide +kernel)
  have f33 := hts (.fieldLink RX6 33 "HorizonPeaks$Views" "notches" "LHorizonPeaks$Notches;") (by decide +kernel)
  have f53 := hts (.fieldLink RX6 53 "HorizonPeaks$Notches" "size" "I") (by decide +kernel)
  refine lv_aload_n hx hb dX6_scoreOf_0 rfl (lv_at hl 0 rfl) ?_
  refine lv_iload_n hx hb dX6_scoreOf_1 rfl (lv_at hl 1 rfl) ?_
  refine ca_v (wr := [aI G (q2 1) 10 ow]) (va_runV (As := [.int (nI j)]) (rest := []) ⟨hx, hb, hml, hown, hts⟩ ((c_X6_lookTo l G h v q lk v1 q1 v3 q3 v2 q2 rw n nn j (hn1) (hn) (hn3) (hnn) (hj)) _) (cwV 1 hts gX6_scoreOf_X6_lookTo rfl rfl rfl (by decide +kernel) ⟨Nat.le_of_ble_eq_true rfl, Nat.le_of_ble_eq_true rfl⟩) (cPre_V hK hP hD [0, 1, 2, 3, 4, 5] (by decide) rfl 0 6 rfl rfl) rfl rfl hl.1 rfl (lv_room (Nat.le_of_ble_eq_true rfl)) dX6_scoreOf_2 ⟨Nat.zero_le _, Nat.zero_le _⟩) hP hD hS hA [0, 1, 2, 3, 4, 5] [6] rfl rfl (by decide) (by decide) [1, 2, 3, 4, 5, 6, 0] (fun u_2 => [oB h 6 (oF6 v q), aJ G (q 8) 80 lk, oB (q 0) 1 (oF1 v1 q1), oB (q 1) 3 (oF3 v3 q3), oB (q 2) 2 (oF2 v2 q2), aI G (q2 0) 8 u_2, aI G (q2 1) 10 ow]) (by decide) (fun _ => rfl) (fun u_2 H locs q_2 hP hD hS => ?_)
  have q_2 : ∀ k, k < nn → u_2 k = gbits (fun p => lb (lk (k * 10 + p)) j) n := q_2
  have hP : va_P G.1 vwCl [oB h 6 (oF6 v q), aJ G (q 8) 80 lk, oB (q 0) 1 (oF1 v1 q1), oB (q 1) 3 (oF3 v3 q3), oB (q 2) 2 (oF2 v2 q2), aI G (q2 0) 8 u_2, aI G (q2 1) 10 ow] H := hP
  have hD : va_D A [oB h 6 (oF6 v q), aJ G (q 8) 80 lk, oB (q 0) 1 (oF1 v1 q1), oB (q 1) 3 (oF3 v3 q3), oB (q 2) 2 (oF2 v2 q2), aI G (q2 0) 8 u_2, aI G (q2 1) 10 ow] := hD
  refine lv_aload_n hx hb dX6_scoreOf_5 rfl (lv_at hl 0 rfl) ?_
  refine va_get (D := G.1) (ci := 6) (v := .ref (q 2)) (C := RX6) (T := TX6) (N := 10) hx hb hts hin6 hown hK.1 hP 0 rfl rfl 2 (by decide) f12 (fun _ h9 => h9) rfl dX6_scoreOf_6 ?_
  refine lv_aload_n hx hb dX6_scoreOf_9 rfl (lv_at hl 0 rfl) ?_
  refine va_get (D := G.1) (ci := 6) (v := .ref (q 1)) (C := RX6) (T := TX6) (N := 10) hx hb hts hin6 hown hK.1 hP 0 rfl rfl 1 (by decide) f33 (fun _ h9 => h9) rfl dX6_scoreOf_10 ?_
  refine va_get (D := G.1) (ci := 3) (v := .int (v3 2)) (C := RX3) (T := TX3) (N := 3) hx hb hts hin3 hown hK.1 hP 3 rfl rfl 2 (by decide) f53 (fun _ h9 => h9) rfl dX6_scoreOf_13 ?_
  refine top_i (y := nI nn) (hn3) ?_
  refine lv_bipush (v := -9) hx hb dX6_scoreOf_16 (by decide) ?_
  refine ca_i (wr := [oB h 6 (oF6 v q), aJ G (q 8) 80 lk, oB (q 0) 1 (oF1 v1 q1), oB (q 1) 3 (oF3 v3 q3)]) (va_runV (As := [.int (nI nn), .int (-9)]) (rest := []) ⟨hx, hb, hml, hown, hts⟩ ((c_X2_most l G (q 2) v2 q2 u_2 ow (-9) nn (hnn)) _) (cwV 2 hts gX6_scoreOf_X2_most rfl rfl rfl (by decide +kernel) ⟨Nat.le_of_ble_eq_true rfl, Nat.le_of_ble_eq_true rfl⟩) (cPre_V hK hP hD [4, 5, 6] (by decide) rfl 0 2 rfl rfl) rfl rfl hl.1 rfl (lv_room (Nat.le_of_ble_eq_true rfl)) dX6_scoreOf_18 ⟨Nat.zero_le _, Nat.zero_le _⟩) hP hD hS hA [4, 5, 6] [0, 1, 2, 3] rfl rfl (by decide) (by decide) [0, 1, 2, 3, 4, 5, 6] (fun u_18 => [oB h 6 (oF6 v q), aJ G (q 8) 80 lk, oB (q 0) 1 (oF1 v1 q1), oB (q 1) 3 (oF3 v3 q3), oB (q 2) 2 (oF2 u_18.1 q2), aI G (q2 0) 8 u_2, aI G (q2 1) 10 u_18.2]) (by decide) (fun _ => rfl) (fun r_18 u_18 H locs q_18 hP hD hS => ?_)
  obtain rfl : r_18 = nI (sc (gm u_2 (-9)) nn) := q_18
  have hP : va_P G.1 vwCl [oB h 6 (oF6 v q), aJ G (q 8) 80 lk, oB (q 0) 1 (oF1 v1 q1), oB (q 1) 3 (oF3 v3 q3), oB (q 2) 2 (oF2 u_18.1 q2), aI G (q2 0) 8 u_2, aI G (q2 1) 10 u_18.2] H := hP
  have hD : va_D A [oB h 6 (oF6 v q), aJ G (q 8) 80 lk, oB (q 0) 1 (oF1 v1 q1), oB (q 1) 3 (oF3 v3 q3), oB (q 2) 2 (oF2 u_18.1 q2), aI G (q2 0) 8 u_2, aI G (q2 1) 10 u_18.2] := hD
  have hpost : (nI (sc (gm u_2 (-9)) nn)) = nI (sc (fun k p => decide (p < n) && lb (lk (k * 10 + p)) j) nn) := by
    congr 1
    refine sc_cong (fun k p hk hp => ?_)
    rw [gm_k (by rw [m9_ne (by omega)]; exact id), q_2 k hk, bt_gbits hn (by omega)]
  exact hret _ (u_18.1, u_2, u_18.2) _ _ _ _ (hpost) (rfl) hP hD hS dX6_scoreOf_21
