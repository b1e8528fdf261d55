def RK (P : Nat → Bool) (V kk : Nat) (r : Int32) : Prop := (fb_ct P V ≤ kk ∧ r = -9) ∨ ∃ w, w < V ∧ P w = true ∧ fb_ct P w = kk ∧ r = nI w
theorem RK_one {P : Nat → Bool} {V kk : Nat} {r r' : Int32} (h : RK P V kk r) (h' : RK P V kk r') : r = r' := by
  rcases h with ⟨a, b⟩ | ⟨w, a, b, c, d⟩
  · rcases h' with ⟨a', b'⟩ | ⟨w', a', b', c', d'⟩
    · rw [b, b']
    · exfalso
      have h1 := fb_ct_succ P w'
      rw [if_pos b'] at h1
      have h2 := fb_ct_mono P (show w' + 1 ≤ V by omega)
      omega
  · rcases h' with ⟨a', b'⟩ | ⟨w', a', b', c', d'⟩
    · exfalso
      have h1 := fb_ct_succ P w
      rw [if_pos b] at h1
      have h2 := fb_ct_mono P (show w + 1 ≤ V by omega)
      omega
    · rw [d, d', fb_ct_kth_one b b' (by omega)]
theorem nn_m1 {nn : Nat} (h : 0 < nn) : nI nn - 1 = nI (nn - 1) := pk_sub (b := 1) (by omega)
theorem gm_wo {rw : Nat → Int32} {g : Nat → Nat → Bool} {k0 K : Nat} (hK : K ≤ 8) (hk0 : k0 < 8) (h : ∀ k p, k < K → p < 10 → bt (rw k) p = g k p) : sc (gm rw (nI k0)) K = sc (gwo g k0) K := by
  refine sc_cong (fun k p hk hp => ?_)
  unfold gm gwo
  rw [h k p hk hp]
  congr 2
  by_cases e : k = k0
  · simp [e]
  · have : ¬ nI k = nI k0 := fun q => e ((nI_eq (by omega) (by omega)).mp q)
    simp [e, this]
noncomputable def gV (vis xs ys hs zs : Nat → Int32) (be : Nat → Nat → Nat) (nb : Nat → Nat) (sl n : Nat) (lf : Int32) (w k p : Nat) : Bool := decide (p < n) && fE (shB vis lf (w / 64)) (gstand xs ys hs (w / 64)) (be (w / 64)) zs nb sl k p (w % 64)
noncomputable def lkW (vis pk xs ys hs zs : Nat → Int32) (be : Nat → Nat → Nat) (nb : Nat → Nat) (sl n nn : Nat) (lf : Int32) (k w : Nat) : Bool := decide (pk (w / 64) = 0) && (decide (sV vis pk xs ys hs zs be nb sl n nn lf w = (nn : Int) - 1) && decide (sc (gwo (gV vis xs ys hs zs be nb sl n lf w) k) nn = nn - 1))
theorem oI_p1 {a : Int} {n : Nat} (h1 : -1 ≤ a) (h2 : a ≤ 8) (hn : n ≤ 8) : Int32.ofInt a = nI n - 1 ↔ a = (n : Int) - 1 := by
  rw [Int32.toInt_inj.symm, fb_ofI (by omega) (by omega), show (1 : Int32) = nI 1 from rfl, off_eq n 1 (by omega) (by omega)]
  omega
theorem cl_end {P : Nat → Bool} {a j : Nat} (h : j = 64 ∨ ∀ w, a * 64 ≤ w → w < a * 64 + 64 → P w = false) (hj : j ≤ 64 := by omega) : nI (fb_ct P (a * 64 + j)) = nI (fb_ct P ((a + 1) * 64)) := by
  rcases h with h | h
  · rw [h, show (a + 1) * 64 = a * 64 + 64 by omega]
  · congr 1
    have e1 : fb_ct (fun k => P (a * 64 + k)) j = 0 := fb_ct_zero.mpr (fun k hk => h (a * 64 + k) (by omega) (by omega))
    have e2 : fb_ct (fun k => P (a * 64 + k)) 64 = 0 := fb_ct_zero.mpr (fun k hk => h (a * 64 + k) (by omega) (by omega))
    rw [fb_ct_split P (a * 64) j, show (a + 1) * 64 = a * 64 + 64 by omega, fb_ct_split P (a * 64) 64, e1, e2]
abbrev rX6_wholeView : Room := { frames := 15, cells := 0, slots := 0, locals := 359 }
set_option maxHeartbeats 4000000 in
set_option maxRecDepth 100000 in
theorem c_X6_wholeView (l : Launch) (G : kG) (h : Nat) (v : Nat → Int32) (q : Nat → Nat) (sco : Nat → Int32) (lk : Nat → Int64) (v1 : Nat → Int32) (q1 : Nat → Nat) (xs : Nat → Int32) (ys : Nat → Int32) (hs : Nat → Int32) (pk : Nat → Int32) (vis : Nat → Int32) (v3 : Nat → Int32) (q3 : Nat → Nat) (bs : Nat → Int32) (zs : Nat → Int32) (v2 : Nat → Int32) (q2 : Nat → Nat) (rw : Nat → Int32) (ow : Nat → Int32) (be : Nat → Nat → Nat) (nb : Nat → Nat) (n : Nat) (nn : Nat) (sl : Nat) (kk : Nat) (hn1 : v1 3 = nI n) (hn : n ≤ 10) (hsl : v1 7 = nI sl) (hsl3 : sl ≤ 3) (hn3 : v3 2 = nI nn) (hnn : nn ≤ 8) (hN : ∀ k, k < nn → bs k = nI (nb k) ∧ nb k < 64) (hB : ∀ pt, pt < 64 → pk pt = 0 → ∀ p, p < n → gbear (gx xs pt p) (gy ys pt p) = nI (be pt p) ∧ be pt p < 64) (hkn : v 4 = 0 ∨ (v 4 = 1 ∧ KVs (sV vis pk xs ys hs zs be nb sl n nn (1 <<< (nI n &&& 31) - 1)) nn 4096 v sco)) (hkk : kk < 2147483648) : Ci l G yX6_wholeView wsX6_wholeView rX6_wholeView [.ref h, .int (nI kk)] [oB h 6 (oF6 v q), aI G (q 3) 4096 sco, aJ G (q 8) 80 lk, oB (q 0) 1 (oF1 v1 q1), aI G (q1 0) 10 xs, aI G (q1 1) 10 ys, aI G (q1 2) 10 hs, aZ G (q1 8) 64 pk, aI G (q1 9) 64 vis, oB (q 1) 3 (oF3 v3 q3), aI G (q3 0) 8 bs, aI G (q3 1) 8 zs, oB (q 2) 2 (oF2 v2 q2), aI G (q2 0) 8 rw, aI G (q2 1) 10 ow] (fun r (u : (Nat → Int32) × (Nat → Int32) × (Nat → Int64) × (Nat → Int32) × (Nat → Int32) × (Nat → Int32)) => RK (fun w => decide (sV vis pk xs ys hs zs be nb sl n nn (1 <<< (nI n &&& 31) - 1) w = nn)) 4096 kk r ∧ u.1 4 = 1 ∧ KVs (sV vis pk xs ys hs zs be nb sl n nn (1 <<< (nI n &&& 31) - 1)) nn 4096 u.1 u.2.1) (fun u => [oB h 6 (oF6 u.1 q), aI G (q 3) 4096 u.2.1, aJ G (q 8) 80 u.2.2.1, oB (q 0) 1 (oF1 v1 q1), aI G (q1 0) 10 xs, aI G (q1 1) 10 ys, aI G (q1 2) 10 hs, aZ G (q1 8) 64 pk, aI G (q1 9) 64 vis, oB (q 1) 3 (oF3 v3 q3), aI G (q3 0) 8 bs, aI G (q3 1) 8 zs, oB (q 2) 2 (oF2 u.2.2.2.1 q2), aI G (q2 0) 8 u.2.2.2.2.1, aI G (q2 1) 10 u.2.2.2.2.2]) := by
  refine Ci.of (cc := cX6_wholeView) (maxL := 4) (by decide) rfl (Nat.le_of_ble_eq_true rfl) ?_
  intro pM eM sM mM bM tM cM Q A hx hb hts hown hml hA hK hP hD hS hret ls hl
  have hown : sM.vm.findClass RX6 = some mM.cls := hown
  have hl : lv_has ls 4 [(0, .ref h), (1, .int (nI kk))] := hl
  have hin3 : ∀ w ∈ u_ws RX3 TX3 3, w ∈ wsX6_wholeView := by decide +kernel
  have hin6 : ∀ w ∈ u_ws RX6 TX6 10, w ∈ wsX6_wholeView := by decide +kernel
  have f108 := hts (.fieldLink RX6 108 "HorizonPeaks$Views" "wholeViews" "I") (by decide +kernel)
  have f18 := hts (.fieldLink RX6 18 "HorizonPeaks$Views" "scores" "[I") (by decide +kernel)
  have f33 := hts (.fieldLink RX6 33 "HorizonPeaks$Views" "notches" "LHorizonPeaks$Notches;") (by decide +kernel)
  have f53 := hts (.fieldLink RX6 53 "HorizonPeaks$Notches" "size" "I") (by decide +kernel)
  have hct := fb_ct_le (fun w => decide (sV vis pk xs ys hs zs be nb sl n nn (1 <<< (nI n &&& 31) - 1) w = nn)) 4096
  refine lv_aload_n hx hb dX6_wholeView_0 rfl (lv_at hl 0 rfl) ?_
  refine ca_v (wr := []) (va_runV (As := []) (rest := []) ⟨hx, hb, hml, hown, hts⟩ ((c_X6_know l G h v q sco lk v1 q1 xs ys hs pk vis v3 q3 bs zs v2 q2 rw ow be nb n nn sl (hn1) (hn) (hsl) (hsl3) (hn3) (hnn) (hN) (hB) (hkn)) _) (cwV 0 hts gX6_wholeView_X6_know rfl rfl rfl (by decide +kernel) ⟨Nat.le_of_ble_eq_true rfl, Nat.le_of_ble_eq_true rfl⟩) (cPre_V hK hP hD [0, 1, 2, 3, 4, 5, 6, 7, 8, 9, 10, 11, 12, 13, 14] (by decide) rfl 0 6 rfl rfl) rfl rfl hl.1 rfl (lv_room (Nat.le_of_ble_eq_true rfl)) dX6_wholeView_1 ⟨Nat.zero_le _, Nat.zero_le _⟩) hP hD hS hA [0, 1, 2, 3, 4, 5, 6, 7, 8, 9, 10, 11, 12, 13, 14] [] rfl rfl (by decide) (by decide) [0, 1, 2, 3, 4, 5, 6, 7, 8, 9, 10, 11, 12, 13, 14] (fun u_1 => [oB h 6 (oF6 u_1.1 q), aI G (q 3) 4096 u_1.2.1, aJ G (q 8) 80 u_1.2.2.1, oB (q 0) 1 (oF1 v1 q1), aI G (q1 0) 10 xs, aI G (q1 1) 10 ys, aI G (q1 2) 10 hs, aZ G (q1 8) 64 pk, aI G (q1 9) 64 vis, oB (q 1) 3 (oF3 v3 q3), aI G (q3 0) 8 bs, aI G (q3 1) 8 zs, oB (q 2) 2 (oF2 u_1.2.2.2.1 q2), aI G (q2 0) 8 u_1.2.2.2.2.1, aI G (q2 1) 10 u_1.2.2.2.2.2]) (by decide) (fun _ => rfl) (fun u_1 H locs q_1 hP hD hS => ?_)
  have q_1 : u_1.1 4 = 1 ∧ KVs (sV vis pk xs ys hs zs be nb sl n nn (1 <<< (nI n &&& 31) - 1)) nn 4096 u_1.1 u_1.2.1 := q_1
  have hP : va_P G.1 vwCl [oB h 6 (oF6 u_1.1 q), aI G (q 3) 4096 u_1.2.1, aJ G (q 8) 80 u_1.2.2.1, oB (q 0) 1 (oF1 v1 q1), aI G (q1 0) 10 xs, aI G (q1 1) 10 ys, aI G (q1 2) 10 hs, aZ G (q1 8) 64 pk, aI G (q1 9) 64 vis, oB (q 1) 3 (oF3 v3 q3), aI G (q3 0) 8 bs, aI G (q3 1) 8 zs, oB (q 2) 2 (oF2 u_1.2.2.2.1 q2), aI G (q2 0) 8 u_1.2.2.2.2.1, aI G (q2 1) 10 u_1.2.2.2.2.2] H := hP
  have hD : va_D A [oB h 6 (oF6 u_1.1 q), aI G (q 3) 4096 u_1.2.1, aJ G (q 8) 80 u_1.2.2.1, oB (q 0) 1 (oF1 v1 q1), aI G (q1 0) 10 xs, aI G (q1 1) 10 ys, aI G (q1 2) 10 hs, aZ G (q1 8) 64 pk, aI G (q1 9) 64 vis, oB (q 1) 3 (oF3 v3 q3), aI G (q3 0) 8 bs, aI G (q3 1) 8 zs, oB (q 2) 2 (oF2 u_1.2.2.2.1 q2), aI G (q2 0) 8 u_1.2.2.2.2.1, aI G (q2 1) 10 u_1.2.2.2.2.2] := hD
  refine lv_iload_n hx hb dX6_wholeView_4 rfl (lv_at hl 1 rfl) ?_
  refine lv_aload_n hx hb dX6_wholeView_5 rfl (lv_at hl 0 rfl) ?_
  refine va_get (D := G.1) (ci := 6) (v := .int (u_1.1 5)) (C := RX6) (T := TX6) (N := 10) hx hb hts hin6 hown hK.1 hP 0 rfl rfl 5 (by decide) f108 (fun _ h9 => h9) rfl dX6_wholeView_6 ?_
  refine top_i (y := nI (fb_ct (fun w => decide (sV vis pk xs ys hs zs be nb sl n nn (1 <<< (nI n &&& 31) - 1) w = nn)) 4096)) (q_1.2.2.1) ?_
  refine lv_icmp_lt (tgt := 15) hx hb dX6_wholeView_9 (by decide) (fun c_9 => ?_) (fun c_9 => ?_)
  · have c_9 : kk < (fb_ct (fun w => decide (sV vis pk xs ys hs zs be nb sl n nn (1 <<< (nI n &&& 31) - 1) w = nn)) 4096) := (c_lt (a := kk) (b := fb_ct (fun w => decide (sV vis pk xs ys hs zs be nb sl n nn (1 <<< (nI n &&& 31) - 1) w = nn)) 4096) rfl rfl (by omega) (by omega)).mp c_9
    refine lv_iconst (v := 0) hx hb dX6_wholeView_15 (by decide) ?_
    refine lv_istore_n (lv' := [(2, .int 0), (0, .ref h), (1, .int (nI kk))]) hx hb dX6_wholeView_16 rfl hl (by decide) rfl (fun ls hl => ?_)
    refine lv_iconst (v := 0) hx hb dX6_wholeView_17 (by decide) ?_
    refine lv_istore_n (lv' := [(3, .int 0), (2, .int 0), (0, .ref h), (1, .int (nI kk))]) hx hb dX6_wholeView_18 rfl hl (by decide) rfl (fun ls hl => ?_)
    have loop_19 : ∀ (nF : Nat) (w : Nat) (a : Nat), (4096 - w) < nF → (w ≤ 4096) → (fb_ct (fun w => decide (sV vis pk xs ys hs zs be nb sl n nn (1 <<< (nI n &&& 31) - 1) w = nn)) w = a) → (a ≤ kk) → ∀ (H : Heap) (locs : List Loc), va_P G.1 vwCl [oB h 6 (oF6 u_1.1 q), aI G (q 3) 4096 u_1.2.1, aJ G (q 8) 80 u_1.2.2.1, oB (q 0) 1 (oF1 v1 q1), aI G (q1 0) 10 xs, aI G (q1 1) 10 ys, aI G (q1 2) 10 hs, aZ G (q1 8) 64 pk, aI G (q1 9) 64 vis, oB (q 1) 3 (oF3 v3 q3), aI G (q3 0) 8 bs, aI G (q3 1) 8 zs, oB (q 2) 2 (oF2 u_1.2.2.2.1 q2), aI G (q2 0) 8 u_1.2.2.2.2.1, aI G (q2 1) 10 u_1.2.2.2.2.2] H → va_D A [oB h 6 (oF6 u_1.1 q), aI G (q 3) 4096 u_1.2.1, aJ G (q 8) 80 u_1.2.2.1, oB (q 0) 1 (oF1 v1 q1), aI G (q1 0) 10 xs, aI G (q1 1) 10 ys, aI G (q1 2) 10 hs, aZ G (q1 8) 64 pk, aI G (q1 9) 64 vis, oB (q 1) 3 (oF3 v3 q3), aI G (q3 0) 8 bs, aI G (q3 1) 8 zs, oB (q 2) 2 (oF2 u_1.2.2.2.1 q2), aI G (q2 0) 8 u_1.2.2.2.2.1, aI G (q2 1) 10 u_1.2.2.2.2.2] → va_S A sM.heap H locs → ∀ (ls : Array Slot), lv_has ls 4 [(3, .int (nI w)), (2, .int (nI a)), (0, .ref h), (1, .int (nI kk))] → W pM l eM rX6_wholeView sM mM [.ref h, .int (nI kk)].toArray bM tM cM H locs 0 0 Q (F0 mM 19 ls []) := by
      intro nF
      induction nF with
      | zero => intro w a hmF; exact absurd hmF (Nat.not_lt_zero _)
      | succ nF ih19 =>
        intro w a hmF hw ha hak H locs hP hD hS ls hl
        have haw := fb_ct_le (fun w => decide (sV vis pk xs ys hs zs be nb sl n nn (1 <<< (nI n &&& 31) - 1) w = nn)) w
        refine lv_iload_n hx hb dX6_wholeView_19 rfl (lv_at hl 0 rfl) ?_
        refine lv_sipush (v := 4096) hx hb dX6_wholeView_20 (by decide) ?_
        refine lv_icmp_ge (tgt := 58) hx hb dX6_wholeView_23 (by decide) (fun c_23 => ?_) (fun c_23 => ?_)
        · have c_23 : 4096 ≤ w := (c_le (a := 4096) (b := w) rfl rfl (by omega) (by omega)).mp c_23
          refine lv_bipush (v := -9) hx hb dX6_wholeView_58 (by decide) ?_
          have hpost : RK (fun w => decide (sV vis pk xs ys hs zs be nb sl n nn (1 <<< (nI n &&& 31) - 1) w = nn)) 4096 kk (-9) ∧ (u_1.1, u_1.2.1, u_1.2.2.1, u_1.2.2.2.1, u_1.2.2.2.2.1, u_1.2.2.2.2.2).1 4 = 1 ∧ KVs (sV vis pk xs ys hs zs be nb sl n nn (1 <<< (nI n &&& 31) - 1)) nn 4096 (u_1.1, u_1.2.1, u_1.2.2.1, u_1.2.2.2.1, u_1.2.2.2.2.1, u_1.2.2.2.2.2).1 (u_1.1, u_1.2.1, u_1.2.2.1, u_1.2.2.2.1, u_1.2.2.2.2.1, u_1.2.2.2.2.2).2.1 := by
            exfalso
            rw [show w = 4096 by omega] at ha
            omega
          exact hret _ (u_1.1, u_1.2.1, u_1.2.2.1, u_1.2.2.2.1, u_1.2.2.2.2.1, u_1.2.2.2.2.2) _ _ _ _ (hpost) (rfl) hP hD hS dX6_wholeView_60
        · have c_23 : ¬ 4096 ≤ w := fun hne => c_23 ((c_le (a := 4096) (b := w) rfl rfl (by omega) (by omega)).mpr hne)
          refine lv_aload_n hx hb dX6_wholeView_26 rfl (lv_at hl 2 rfl) ?_
          refine va_get (D := G.1) (ci := 6) (v := .ref (q 3)) (C := RX6) (T := TX6) (N := 10) hx hb hts hin6 hown hK.1 hP 0 rfl rfl 3 (by decide) f18 (fun _ h9 => h9) rfl dX6_wholeView_27 ?_
          refine lv_iload_n hx hb dX6_wholeView_30 rfl (lv_at hl 0 rfl) ?_
          refine al_i hx hb hK.1 hP 1 0 rfl rfl (j := w) (by omega) (Nat.le_of_ble_eq_true rfl) dX6_wholeView_31 ?_
          refine top_i (y := Int32.ofInt (sV vis pk xs ys hs zs be nb sl n nn (1 <<< (nI n &&& 31) - 1) w)) (q_1.2.1 w (by omega)) ?_
          refine lv_aload_n hx hb dX6_wholeView_32 rfl (lv_at hl 2 rfl) ?_
          refine va_get (D := G.1) (ci := 6) (v := .ref (q 1)) (C := RX6) (T := TX6) (N := 10) hx hb hts hin6 hown hK.1 hP 0 rfl rfl 1 (by decide) f33 (fun _ h9 => h9) rfl dX6_wholeView_33 ?_
          refine va_get (D := G.1) (ci := 3) (v := .int (v3 2)) (C := RX3) (T := TX3) (N := 3) hx hb hts hin3 hown hK.1 hP 9 rfl rfl 2 (by decide) f53 (fun _ h9 => h9) rfl dX6_wholeView_36 ?_
          refine top_i (y := nI nn) (hn3) ?_
          refine lv_icmp_ne (tgt := 52) hx hb dX6_wholeView_39 (by decide) (fun c_39 => ?_) (fun c_39 => ?_)
          · have hsw : ¬ sV vis pk xs ys hs zs be nb sl n nn (1 <<< (nI n &&& 31) - 1) w = nn := fun hz => c_39 ((oI_eq (sV_rng _ _ _ _ _ _ _ _ _ _ _ _ hnn w).1 (sV_rng _ _ _ _ _ _ _ _ _ _ _ _ hnn w).2 hnn).mpr hz)
            refine lv_iinc (v := nI (w + 1)) (lv' := [(3, .int (nI (w + 1))), (2, .int (nI a)), (0, .ref h), (1, .int (nI kk))]) hx hb dX6_wholeView_52 hl (k := 0) rfl (inc_nI _ 1) (by decide) rfl (fun ls hl => ?_)
            refine lv_goto (tgt := 19) hx hb dX6_wholeView_55 (by decide) ?_
            exact ih19 (w + 1) a (by omega) (by omega) (by rw [fb_ct_succ, if_neg (by simpa using hsw), ha, Nat.add_zero]) (hak) _ _ hP hD hS _ (lv_sub hl [0, 1, 2, 3] rfl)
          · have hsw : sV vis pk xs ys hs zs be nb sl n nn (1 <<< (nI n &&& 31) - 1) w = nn := (oI_eq (sV_rng _ _ _ _ _ _ _ _ _ _ _ _ hnn w).1 (sV_rng _ _ _ _ _ _ _ _ _ _ _ _ hnn w).2 hnn).mp c_39
            refine lv_iload_n hx hb dX6_wholeView_42 rfl (lv_at hl 1 rfl) ?_
            refine lv_iload_n hx hb dX6_wholeView_43 rfl (lv_at hl 3 rfl) ?_
            refine lv_icmp_ne (tgt := 49) hx hb dX6_wholeView_44 (by decide) (fun c_44 => ?_) (fun c_44 => ?_)
            · have c_44 : ¬ a = kk := fun hne => c_44 ((c_eq (a := a) (b := kk) rfl rfl (by omega) (by omega)).mpr hne)
              refine lv_iinc (v := nI (a + 1)) (lv' := [(2, .int (nI (a + 1))), (3, .int (nI w)), (0, .ref h), (1, .int (nI kk))]) hx hb dX6_wholeView_49 hl (k := 1) rfl (inc_nI _ 1) (by decide) rfl (fun ls hl => ?_)
              refine lv_iinc (v := nI (w + 1)) (lv' := [(3, .int (nI (w + 1))), (2, .int (nI (a + 1))), (0, .ref h), (1, .int (nI kk))]) hx hb dX6_wholeView_52 hl (k := 1) rfl (inc_nI _ 1) (by decide) rfl (fun ls hl => ?_)
              refine lv_goto (tgt := 19) hx hb dX6_wholeView_55 (by decide) ?_
              exact ih19 (w + 1) (a + 1) (by omega) (by omega) (by rw [fb_ct_succ, if_pos (by simpa using hsw), ha]) (by omega) _ _ hP hD hS _ (lv_sub hl [0, 1, 2, 3] rfl)
            · have c_44 : a = kk := (c_eq (a := a) (b := kk) rfl rfl (by omega) (by omega)).mp c_44
              refine lv_iload_n hx hb dX6_wholeView_47 rfl (lv_at hl 0 rfl) ?_
              have hpost : RK (fun w => decide (sV vis pk xs ys hs zs be nb sl n nn (1 <<< (nI n &&& 31) - 1) w = nn)) 4096 kk (nI w) ∧ (u_1.1, u_1.2.1, u_1.2.2.1, u_1.2.2.2.1, u_1.2.2.2.2.1, u_1.2.2.2.2.2).1 4 = 1 ∧ KVs (sV vis pk xs ys hs zs be nb sl n nn (1 <<< (nI n &&& 31) - 1)) nn 4096 (u_1.1, u_1.2.1, u_1.2.2.1, u_1.2.2.2.1, u_1.2.2.2.2.1, u_1.2.2.2.2.2).1 (u_1.1, u_1.2.1, u_1.2.2.1, u_1.2.2.2.1, u_1.2.2.2.2.1, u_1.2.2.2.2.2).2.1 := by
                exact ⟨Or.inr ⟨w, by omega, by simpa using hsw, by omega, rfl⟩, q_1⟩
              exact hret _ (u_1.1, u_1.2.1, u_1.2.2.1, u_1.2.2.2.1, u_1.2.2.2.2.1, u_1.2.2.2.2.2) _ _ _ _ (hpost) (rfl) hP hD hS dX6_wholeView_48
    exact loop_19 _ 0 0 (Nat.lt_succ_self _) (Nat.zero_le _) (rfl) (Nat.zero_le _) _ _ hP hD hS _ (lv_sub hl [0, 1, 2, 3] rfl)
  · have c_9 : ¬ kk < (fb_ct (fun w => decide (sV vis pk xs ys hs zs be nb sl n nn (1 <<< (nI n &&& 31) - 1) w = nn)) 4096) := fun hne => c_9 ((c_lt (a := kk) (b := fb_ct (fun w => decide (sV vis pk xs ys hs zs be nb sl n nn (1 <<< (nI n &&& 31) - 1) w = nn)) 4096) rfl rfl (by omega) (by omega)).mpr hne)
    refine lv_bipush (v := -9) hx hb dX6_wholeView_12 (by decide) ?_
    have hpost : RK (fun w => decide (sV vis pk xs ys hs zs be nb sl n nn (1 <<< (nI n &&& 31) - 1) w = nn)) 4096 kk (-9) ∧ (u_1.1, u_1.2.1, u_1.2.2.1, u_1.2.2.2.1, u_1.2.2.2.2.1, u_1.2.2.2.2.2).1 4 = 1 ∧ KVs (sV vis pk xs ys hs zs be nb sl n nn (1 <<< (nI n &&& 31) - 1)) nn 4096 (u_1.1, u_1.2.1, u_1.2.2.1, u_1.2.2.2.1, u_1.2.2.2.2.1, u_1.2.2.2.2.2).1 (u_1.1, u_1.2.1, u_1.2.2.1, u_1.2.2.2.1, u_1.2.2.2.2.1, u_1.2.2.2.2.2).2.1 := by
      exact ⟨Or.inl ⟨by omega, rfl⟩, q_1⟩
    exact hret _ (u_1.1, u_1.2.1, u_1.2.2.1, u_1.2.2.2.1, u_1.2.2.2.2.1, u_1.2.2.2.2.2) _ _ _ _ (hpost) (rfl) hP hD hS dX6_wholeView_14

abbrev rX6_isAsGoodAsBest : Room := { frames := 0, cells := 0, slots := 0, locals := 0 }
set_option maxHeartbeats 4000000 in
set_option maxRecDepth 100000 in
theorem c_X6_isAsGoodAsBest (l : Launch) (G : kG) (h : Nat) (v : Nat → Int32) (q : Nat → Nat) (sco : Nat → Int32) (pt : Nat) (hpt : pt < 64) : Ri l G yX6_isAsGoodAsBest wsX6_isAsGoodAsBest rX6_isAsGoodAsBest [.ref h, .int (nI pt)] [oB h 6 (oF6 v q), aI G (q 3) 4096 sco] (fun r => r = b2i (anyB (fun j => decide (sco (pt * 64 + j) = v 7)) 64)) := by
  refine Ri.of (cc := cX6_isAsGoodAsBest) (maxL := 3) (by decide) rfl (Nat.le_of_ble_eq_true rfl) ?_
  intro pM eM sM mM bM tM cM Q hx hb hts hown hml hP hK hret ls hl
  have hown : sM.vm.findClass RX6 = some mM.cls := hown
  have hl : lv_has ls 3 [(0, .ref h), (1, .int (nI pt))] := hl
  have hin6 : ∀ w ∈ u_ws RX6 TX6 10, w ∈ wsX6_isAsGoodAsBest := by decide +kernel
  have f18 := hts (.fieldLink RX6 18 "HorizonPeaks$Views" "scores" "[I") (by decide +kernel)
  have f114 := hts (.fieldLink RX6 114 "HorizonPeaks$Views" "bestScore" "I") (by decide +kernel)
  refine lv_iconst (v := 0) hx hb dX6_isAsGoodAsBest_0 (by decide) ?_
  refine lv_istore_n (lv' := [(2, .int 0), (0, .ref h), (1, .int (nI pt))]) hx hb dX6_isAsGoodAsBest_1 rfl hl (by decide) rfl (fun ls hl => ?_)
  have loop_2 : ∀ (nF : Nat) (j : Nat), (64 - j) < nF → (j ≤ 64) → (∀ i, i < j → ¬ sco (pt * 64 + i) = v 7) → ∀ (ls : Array Slot), lv_has ls 3 [(2, .int (nI j)), (0, .ref h), (1, .int (nI pt))] → W pM l eM rX6_isAsGoodAsBest sM mM [.ref h, .int (nI pt)].toArray bM tM cM sM.heap [] 0 0 Q (F0 mM 2 ls []) := by
    intro nF
    induction nF with
    | zero => intro j hmF; exact absurd hmF (Nat.not_lt_zero _)
    | succ nF ih2 =>
      intro j hmF hj hf ls hl
      refine lv_iload_n hx hb dX6_isAsGoodAsBest_2 rfl (lv_at hl 0 rfl) ?_
      refine lv_bipush (v := 64) hx hb dX6_isAsGoodAsBest_3 (by decide) ?_
      refine lv_icmp_ge (tgt := 34) hx hb dX6_isAsGoodAsBest_5 (by decide) (fun c_5 => ?_) (fun c_5 => ?_)
      · have c_5 : 64 ≤ j := (c_le (a := 64) (b := j) rfl rfl (by omega) (by omega)).mp c_5
        refine lv_iconst (v := 0) hx hb dX6_isAsGoodAsBest_34 (by decide) ?_
        exact hret _ _ _ (by rw [anyB_no.mpr (fun i hi => by simpa using hf i (by omega))]; rfl) (rfl) dX6_isAsGoodAsBest_35
      · have c_5 : ¬ 64 ≤ j := fun hne => c_5 ((c_le (a := 64) (b := j) rfl rfl (by omega) (by omega)).mpr hne)
        refine lv_aload_n hx hb dX6_isAsGoodAsBest_8 rfl (lv_at hl 1 rfl) ?_
        refine va_get (D := G.1) (ci := 6) (v := .ref (q 3)) (C := RX6) (T := TX6) (N := 10) hx hb hts hin6 hown hK.1 hP 0 rfl rfl 3 (by decide) f18 (fun _ h9 => h9) rfl dX6_isAsGoodAsBest_9 ?_
        refine lv_iload_n hx hb dX6_isAsGoodAsBest_12 rfl (lv_at hl 2 rfl) ?_
        refine lv_bipush (v := 64) hx hb dX6_isAsGoodAsBest_13 (by decide) ?_
        refine lv_imul hx hb dX6_isAsGoodAsBest_15 ?_
        refine lv_iload_n hx hb dX6_isAsGoodAsBest_16 rfl (lv_at hl 0 rfl) ?_
        refine lv_iadd hx hb dX6_isAsGoodAsBest_17 ?_
        refine top_i (y := nI (pt * 64 + j)) (mul64 pt j) ?_
        refine al_i hx hb hK.1 hP 1 0 rfl rfl (j := pt * 64 + j) (by omega) (Nat.le_of_ble_eq_true rfl) dX6_isAsGoodAsBest_18 ?_
        refine lv_aload_n hx hb dX6_isAsGoodAsBest_19 rfl (lv_at hl 1 rfl) ?_
        refine va_get (D := G.1) (ci := 6) (v := .int (v 7)) (C := RX6) (T := TX6) (N := 10) hx hb hts hin6 hown hK.1 hP 0 rfl rfl 7 (by decide) f114 (fun _ h9 => h9) rfl dX6_isAsGoodAsBest_20 ?_
        refine lv_icmp_ne (tgt := 28) hx hb dX6_isAsGoodAsBest_23 (by decide) (fun c_23 => ?_) (fun c_23 => ?_)
        · refine lv_iinc (v := nI (j + 1)) (lv' := [(2, .int (nI (j + 1))), (0, .ref h), (1, .int (nI pt))]) hx hb dX6_isAsGoodAsBest_28 hl (k := 0) rfl (inc_nI _ 1) (by decide) rfl (fun ls hl => ?_)
          refine lv_goto (tgt := 2) hx hb dX6_isAsGoodAsBest_31 (by decide) ?_
          exact ih2 (j + 1) (by omega) (by omega) (fun i h => (Nat.lt_succ_iff_lt_or_eq.mp h).elim (hf i) (fun e => e ▸ c_23)) _ (lv_sub hl [0, 1, 2] rfl)
        · refine lv_iconst (v := 1) hx hb dX6_isAsGoodAsBest_26 (by decide) ?_
          exact hret _ _ _ (by rw [anyB_yes (k := j) (by omega) (by simpa using c_23)]; rfl) (rfl) dX6_isAsGoodAsBest_27
  exact loop_2 _ 0 (Nat.lt_succ_self _) (Nat.zero_le _) (fun i h => absurd h (Nat.not_lt_zero i)) _ (lv_sub hl [0, 1, 2] rfl)

abbrev rX6_bestPlaces : Room := { frames := 15, cells := 0, slots := 0, locals := 359 }
set_option maxHeartbeats 4000000 in
set_option maxRecDepth 100000 in
theorem c_X6_bestPlaces (l : Launch) (G : kG) (h : Nat) (v : Nat → Int32) (q : Nat → Nat) (sco : Nat → Int32) (lk : Nat → Int64) (v1 : Nat → Int32) (q1 : Nat → Nat) (xs : Nat → Int32) (ys : Nat → Int32) (hs : Nat → Int32) (pk : Nat → Int32) (vis : Nat → Int32) (v3 : Nat → Int32) (q3 : Nat → Nat) (bs : Nat → Int32) (zs : Nat → Int32) (v2 : Nat → Int32) (q2 : Nat → Nat) (rw : Nat → Int32) (ow : Nat → Int32) (be : Nat → Nat → Nat) (nb : Nat → Nat) (n : Nat) (nn : Nat) (sl : Nat) (hn1 : v1 3 = nI n) (hn : n ≤ 10) (hsl : v1 7 = nI sl) (hsl3 : sl ≤ 3) (hn3 : v3 2 = nI nn) (hnn : nn ≤ 8) (hN : ∀ k, k < nn → bs k = nI (nb k) ∧ nb k < 64) (hB : ∀ pt, pt < 64 → pk pt = 0 → ∀ p, p < n → gbear (gx xs pt p) (gy ys pt p) = nI (be pt p) ∧ be pt p < 64) (hkn : v 4 = 0 ∨ (v 4 = 1 ∧ KVs (sV vis pk xs ys hs zs be nb sl n nn (1 <<< (nI n &&& 31) - 1)) nn 4096 v sco)) : Ci l G yX6_bestPlaces wsX6_bestPlaces rX6_bestPlaces [.ref h] [oB h 6 (oF6 v q), aI G (q 3) 4096 sco, aJ G (q 8) 80 lk, oB (q 0) 1 (oF1 v1 q1), aI G (q1 0) 10 xs, aI G (q1 1) 10 ys, aI G (q1 2) 10 hs, aZ G (q1 8) 64 pk, aI G (q1 9) 64 vis, oB (q 1) 3 (oF3 v3 q3), aI G (q3 0) 8 bs, aI G (q3 1) 8 zs, oB (q 2) 2 (oF2 v2 q2), aI G (q2 0) 8 rw, aI G (q2 1) 10 ow] (fun r (u : (Nat → Int32) × (Nat → Int32) × (Nat → Int64) × (Nat → Int32) × (Nat → Int32) × (Nat → Int32)) => r = nI (fb_ct (fun pt => decide (pk pt = 0) && anyB (fun j => decide (u.2.1 (pt * 64 + j) = u.1 7)) 64) 64) ∧ u.1 4 = 1 ∧ KVs (sV vis pk xs ys hs zs be nb sl n nn (1 <<< (nI n &&& 31) - 1)) nn 4096 u.1 u.2.1) (fun u => [oB h 6 (oF6 u.1 q), aI G (q 3) 4096 u.2.1, aJ G (q 8) 80 u.2.2.1, oB (q 0) 1 (oF1 v1 q1), aI G (q1 0) 10 xs, aI G (q1 1) 10 ys, aI G (q1 2) 10 hs, aZ G (q1 8) 64 pk, aI G (q1 9) 64 vis, oB (q 1) 3 (oF3 v3 q3), aI G (q3 0) 8 bs, aI G (q3 1) 8 zs, oB (q 2) 2 (oF2 u.2.2.2.1 q2), aI G (q2 0) 8 u.2.2.2.2.1, aI G (q2 1) 10 u.2.2.2.2.2]) := by
  refine Ci.of (cc := cX6_bestPlaces) (maxL := 3) (by decide) rfl (Nat.le_of_ble_eq_true rfl) ?_
  intro pM eM sM mM bM tM cM Q A hx hb hts hown hml hA hK hP hD hS hret ls hl
  have hown : sM.vm.findClass RX6 = some mM.cls := hown
  have hl : lv_has ls 3 [(0, .ref h)] := hl
  have hin1 : ∀ w ∈ u_ws RX1 TX1 11, w ∈ wsX6_bestPlaces := by decide +kernel
  have hin6 : ∀ w ∈ u_ws RX6 TX6 10, w ∈ wsX6_bestPlaces := by decide +kernel
  have f29 := hts (.fieldLink RX6 29 "HorizonPeaks$Views" "land" "LHorizonPeaks$Land;") (by decide +kernel)
  have f117 := hts (.fieldLink RX6 117 "HorizonPeaks$Land" "peakAt" "[Z") (by decide +kernel)
  refine lv_aload_n hx hb dX6_bestPlaces_0 rfl (lv_at hl 0 rfl) ?_
  refine ca_v (wr := []) (va_runV (As := []) (rest := []) ⟨hx, hb, hml, hown, hts⟩ ((c_X6_know l G h v q sco lk v1 q1 xs ys hs pk vis v3 q3 bs zs v2 q2 rw ow be nb n nn sl (hn1) (hn) (hsl) (hsl3) (hn3) (hnn) (hN) (hB) (hkn)) _) (cwV 0 hts gX6_bestPlaces_X6_know rfl rfl rfl (by decide +kernel) ⟨Nat.le_of_ble_eq_true rfl, Nat.le_of_ble_eq_true rfl⟩) (cPre_V hK hP hD [0, 1, 2, 3, 4, 5, 6, 7, 8, 9, 10, 11, 12, 13, 14] (by decide) rfl 0 6 rfl rfl) rfl rfl hl.1 rfl (lv_room (Nat.le_of_ble_eq_true rfl)) dX6_bestPlaces_1 ⟨Nat.zero_le _, Nat.zero_le _⟩) hP hD hS hA [0, 1, 2, 3, 4, 5, 6, 7, 8, 9, 10, 11, 12, 13, 14] [] rfl rfl (by decide) (by decide) [0, 1, 2, 3, 4, 5, 6, 7, 8, 9, 10, 11, 12, 13, 14] (fun u_1 => [oB h 6 (oF6 u_1.1 q), aI G (q 3) 4096 u_1.2.1, aJ G (q 8) 80 u_1.2.2.1, oB (q 0) 1 (oF1 v1 q1), aI G (q1 0) 10 xs, aI G (q1 1) 10 ys, aI G (q1 2) 10 hs, aZ G (q1 8) 64 pk, aI G (q1 9) 64 vis, oB (q 1) 3 (oF3 v3 q3), aI G (q3 0) 8 bs, aI G (q3 1) 8 zs, oB (q 2) 2 (oF2 u_1.2.2.2.1 q2), aI G (q2 0) 8 u_1.2.2.2.2.1, aI G (q2 1) 10 u_1.2.2.2.2.2]) (by decide) (fun _ => rfl) (fun u_1 H locs q_1 hP hD hS => ?_)
  have q_1 : u_1.1 4 = 1 ∧ KVs (sV vis pk xs ys hs zs be nb sl n nn (1 <<< (nI n &&& 31) - 1)) nn 4096 u_1.1 u_1.2.1 := q_1
  have hP : va_P G.1 vwCl [oB h 6 (oF6 u_1.1 q), aI G (q 3) 4096 u_1.2.1, aJ G (q 8) 80 u_1.2.2.1, oB (q 0) 1 (oF1 v1 q1), aI G (q1 0) 10 xs, aI G (q1 1) 10 ys, aI G (q1 2) 10 hs, aZ G (q1 8) 64 pk, aI G (q1 9) 64 vis, oB (q 1) 3 (oF3 v3 q3), aI G (q3 0) 8 bs, aI G (q3 1) 8 zs, oB (q 2) 2 (oF2 u_1.2.2.2.1 q2), aI G (q2 0) 8 u_1.2.2.2.2.1, aI G (q2 1) 10 u_1.2.2.2.2.2] H := hP
  have hD : va_D A [oB h 6 (oF6 u_1.1 q), aI G (q 3) 4096 u_1.2.1, aJ G (q 8) 80 u_1.2.2.1, oB (q 0) 1 (oF1 v1 q1), aI G (q1 0) 10 xs, aI G (q1 1) 10 ys, aI G (q1 2) 10 hs, aZ G (q1 8) 64 pk, aI G (q1 9) 64 vis, oB (q 1) 3 (oF3 v3 q3), aI G (q3 0) 8 bs, aI G (q3 1) 8 zs, oB (q 2) 2 (oF2 u_1.2.2.2.1 q2), aI G (q2 0) 8 u_1.2.2.2.2.1, aI G (q2 1) 10 u_1.2.2.2.2.2] := hD
  refine lv_iconst (v := 0) hx hb dX6_bestPlaces_4 (by decide) ?_
  refine lv_istore_n (lv' := [(1, .int 0), (0, .ref h)]) hx hb dX6_bestPlaces_5 rfl hl (by decide) rfl (fun ls hl => ?_)
  refine lv_iconst (v := 0) hx hb dX6_bestPlaces_6 (by decide) ?_
  refine lv_istore_n (lv' := [(2, .int 0), (1, .int 0), (0, .ref h)]) hx hb dX6_bestPlaces_7 rfl hl (by decide) rfl (fun ls hl => ?_)
  have loop_8 : ∀ (nF : Nat) (a : Nat) (c : Nat), (64 - a) < nF → (a ≤ 64) → (fb_ct (fun pt => decide (pk pt = 0) && anyB (fun j => decide (u_1.2.1 (pt * 64 + j) = u_1.1 7)) 64) a = c) → ∀ (H : Heap) (locs : List Loc), va_P G.1 vwCl [oB h 6 (oF6 u_1.1 q), aI G (q 3) 4096 u_1.2.1, aJ G (q 8) 80 u_1.2.2.1, oB (q 0) 1 (oF1 v1 q1), aI G (q1 0) 10 xs, aI G (q1 1) 10 ys, aI G (q1 2) 10 hs, aZ G (q1 8) 64 pk, aI G (q1 9) 64 vis, oB (q 1) 3 (oF3 v3 q3), aI G (q3 0) 8 bs, aI G (q3 1) 8 zs, oB (q 2) 2 (oF2 u_1.2.2.2.1 q2), aI G (q2 0) 8 u_1.2.2.2.2.1, aI G (q2 1) 10 u_1.2.2.2.2.2] H → va_D A [oB h 6 (oF6 u_1.1 q), aI G (q 3) 4096 u_1.2.1, aJ G (q 8) 80 u_1.2.2.1, oB (q 0) 1 (oF1 v1 q1), aI G (q1 0) 10 xs, aI G (q1 1) 10 ys, aI G (q1 2) 10 hs, aZ G (q1 8) 64 pk, aI G (q1 9) 64 vis, oB (q 1) 3 (oF3 v3 q3), aI G (q3 0) 8 bs, aI G (q3 1) 8 zs, oB (q 2) 2 (oF2 u_1.2.2.2.1 q2), aI G (q2 0) 8 u_1.2.2.2.2.1, aI G (q2 1) 10 u_1.2.2.2.2.2] → va_S A sM.heap H locs → ∀ (ls : Array Slot), lv_has ls 3 [(2, .int (nI a)), (1, .int (nI c)), (0, .ref h)] → W pM l eM rX6_bestPlaces sM mM [.ref h].toArray bM tM cM H locs 0 0 Q (F0 mM 8 ls []) := by
    intro nF
    induction nF with
    | zero => intro a c hmF; exact absurd hmF (Nat.not_lt_zero _)
    | succ nF ih8 =>
      intro a c hmF ha hc H locs hP hD hS ls hl
      refine lv_iload_n hx hb dX6_bestPlaces_8 rfl (lv_at hl 0 rfl) ?_
      refine lv_bipush (v := 64) hx hb dX6_bestPlaces_9 (by decide) ?_
      refine lv_icmp_ge (tgt := 43) hx hb dX6_bestPlaces_11 (by decide) (fun c_11 => ?_) (fun c_11 => ?_)
      · have c_11 : 64 ≤ a := (c_le (a := 64) (b := a) rfl rfl (by omega) (by omega)).mp c_11
        refine lv_iload_n hx hb dX6_bestPlaces_43 rfl (lv_at hl 1 rfl) ?_
        have hpost : (nI c) = nI (fb_ct (fun pt => decide (pk pt = 0) && anyB (fun j => decide ((u_1.1, u_1.2.1, u_1.2.2.1, u_1.2.2.2.1, u_1.2.2.2.2.1, u_1.2.2.2.2.2).2.1 (pt * 64 + j) = (u_1.1, u_1.2.1, u_1.2.2.1, u_1.2.2.2.1, u_1.2.2.2.2.1, u_1.2.2.2.2.2).1 7)) 64) 64) ∧ (u_1.1, u_1.2.1, u_1.2.2.1, u_1.2.2.2.1, u_1.2.2.2.2.1, u_1.2.2.2.2.2).1 4 = 1 ∧ KVs (sV vis pk xs ys hs zs be nb sl n nn (1 <<< (nI n &&& 31) - 1)) nn 4096 (u_1.1, u_1.2.1, u_1.2.2.1, u_1.2.2.2.1, u_1.2.2.2.2.1, u_1.2.2.2.2.2).1 (u_1.1, u_1.2.1, u_1.2.2.1, u_1.2.2.2.1, u_1.2.2.2.2.1, u_1.2.2.2.2.2).2.1 := by
          exact ⟨by rw [← hc, show a = 64 by omega], q_1⟩
        exact hret _ (u_1.1, u_1.2.1, u_1.2.2.1, u_1.2.2.2.1, u_1.2.2.2.2.1, u_1.2.2.2.2.2) _ _ _ _ (hpost) (rfl) hP hD hS dX6_bestPlaces_44
      · have c_11 : ¬ 64 ≤ a := fun hne => c_11 ((c_le (a := 64) (b := a) rfl rfl (by omega) (by omega)).mpr hne)
        refine lv_aload_n hx hb dX6_bestPlaces_14 rfl (lv_at hl 2 rfl) ?_
        refine va_get (D := G.1) (ci := 6) (v := .ref (q 0)) (C := RX6) (T := TX6) (N := 10) hx hb hts hin6 hown hK.1 hP 0 rfl rfl 0 (by decide) f29 (fun _ h9 => h9) rfl dX6_bestPlaces_15 ?_
        refine va_get (D := G.1) (ci := 1) (v := .ref (q1 8)) (C := RX1) (T := TX1) (N := 11) hx hb hts hin1 hown hK.1 hP 3 rfl rfl 8 (by decide) f117 (fun _ h9 => h9) rfl dX6_bestPlaces_18 ?_
        refine lv_iload_n hx hb dX6_bestPlaces_21 rfl (lv_at hl 0 rfl) ?_
        refine al_z hx hb hK.1 hP 7 2 rfl rfl (j := a) (by omega) (Nat.le_of_ble_eq_true rfl) dX6_bestPlaces_22 ?_
        refine lv_if_ne (tgt := 37) hx hb dX6_bestPlaces_23 (by decide) (fun c_23 => ?_) (fun c_23 => ?_)
        · refine lv_iinc (v := nI (a + 1)) (lv' := [(2, .int (nI (a + 1))), (1, .int (nI c)), (0, .ref h)]) hx hb dX6_bestPlaces_37 hl (k := 0) rfl (inc_nI _ 1) (by decide) rfl (fun ls hl => ?_)
          refine lv_goto (tgt := 8) hx hb dX6_bestPlaces_40 (by decide) ?_
          exact ih8 (a + 1) c (by omega) (by omega) (by rw [fb_ct_succ, if_neg (by simp [c_23]), hc, Nat.add_zero]) _ _ hP hD hS _ (lv_sub hl [0, 1, 2] rfl)
        · refine lv_aload_n hx hb dX6_bestPlaces_26 rfl (lv_at hl 2 rfl) ?_
          refine lv_iload_n hx hb dX6_bestPlaces_27 rfl (lv_at hl 0 rfl) ?_
          refine rd_i (va_runV (As := [.int (nI a)]) (rest := []) ⟨hx, hb, hml, hown, hts⟩ (c_X6_isAsGoodAsBest l G h u_1.1 q u_1.2.1 a (by omega)) (cwV 1 hts gX6_bestPlaces_X6_isAsGoodAsBest rfl rfl rfl (by decide +kernel) ⟨Nat.le_of_ble_eq_true rfl, Nat.le_of_ble_eq_true rfl⟩) (rPre_V hK hP [0, 1] rfl 0 6 rfl rfl) rfl rfl hl.1 rfl (lv_room (Nat.le_of_ble_eq_true rfl)) dX6_bestPlaces_28 ⟨Nat.zero_le _, Nat.zero_le _⟩) (fun r_28 q_28 => ?_)
          obtain rfl : r_28 = b2i (anyB (fun j => decide (u_1.2.1 (a * 64 + j) = u_1.1 7)) 64) := q_28
          refine lv_if_eq (tgt := 37) hx hb dX6_bestPlaces_31 (by decide) (fun c_31 => ?_) (fun c_31 => ?_)
          · have c_31 : (anyB (fun j => decide (u_1.2.1 (a * 64 + j) = u_1.1 7)) 64) = false := b2i_0.mp c_31
            refine lv_iinc (v := nI (a + 1)) (lv' := [(2, .int (nI (a + 1))), (1, .int (nI c)), (0, .ref h)]) hx hb dX6_bestPlaces_37 hl (k := 0) rfl (inc_nI _ 1) (by decide) rfl (fun ls hl => ?_)
            refine lv_goto (tgt := 8) hx hb dX6_bestPlaces_40 (by decide) ?_
            exact ih8 (a + 1) c (by omega) (by omega) (by rw [fb_ct_succ, if_neg (by rw [c_31]; simp), hc, Nat.add_zero]) _ _ hP hD hS _ (lv_sub hl [0, 1, 2] rfl)
          · have c_31 : (anyB (fun j => decide (u_1.2.1 (a * 64 + j) = u_1.1 7)) 64) = true := b2i_n0.mp c_31
            refine lv_iinc (v := nI (c + 1)) (lv' := [(1, .int (nI (c + 1))), (2, .int (nI a)), (0, .ref h)]) hx hb dX6_bestPlaces_34 hl (k := 1) rfl (inc_nI _ 1) (by decide) rfl (fun ls hl => ?_)
            refine lv_iinc (v := nI (a + 1)) (lv' := [(2, .int (nI (a + 1))), (1, .int (nI (c + 1))), (0, .ref h)]) hx hb dX6_bestPlaces_37 hl (k := 1) rfl (inc_nI _ 1) (by decide) rfl (fun ls hl => ?_)
            refine lv_goto (tgt := 8) hx hb dX6_bestPlaces_40 (by decide) ?_
            exact ih8 (a + 1) (c + 1) (by omega) (by omega) (by rw [fb_ct_succ, if_pos (by simp [c_23]; simpa using c_31), hc]) _ _ hP hD hS _ (lv_sub hl [0, 1, 2] rfl)
  exact loop_8 _ 0 0 (Nat.lt_succ_self _) (Nat.zero_le _) (rfl) _ _ hP hD hS _ (lv_sub hl [0, 1, 2] rfl)

abbrev rX6_countLackingTo : Room := { frames := 13, cells := 0, slots := 0, locals := 312 }
set_option maxHeartbeats 4000000 in
set_option maxRecDepth 100000 in
theorem c_X6_countLackingTo (l : Launch) (G : kG) (h : Nat) (v : Nat → Int32) (q : Nat → Nat) (lk : Nat → Int64) (v1 : Nat → Int32) (q1 : Nat → Nat) (v3 : Nat → Int32) (q3 : Nat → Nat) (v2 : Nat → Int32) (q2 : Nat → Nat) (rw : Nat → Int32) (ow : Nat → Int32) (la : Nat → Int32) (lc : Nat → Nat) (n : Nat) (nn : Nat) (j : Nat) (hn1 : v1 3 = nI n) (hn : n ≤ 10) (hn3 : v3 2 = nI nn) (hnn : nn ≤ 8) (hj : j < 64) (hla : ∀ k, k < nn → la k = nI (lc k)) : Cv l G yX6_countLackingTo wsX6_countLackingTo rX6_countLackingTo [.ref h, .int (nI j)] [oB h 6 (oF6 v q), aJ G (q 8) 80 lk, oB (q 0) 1 (oF1 v1 q1), oB (q 1) 3 (oF3 v3 q3), oB (q 2) 2 (oF2 v2 q2), aI G (q2 0) 8 rw, aI G (q2 1) 10 ow, aI G (q 9) 8 la] (fun (u : (Nat → Int32) × (Nat → Int32) × (Nat → Int32) × (Nat → Int32)) => ∀ k, k < nn → u.2.2.2 k = nI (lc k + (if sc (gwo (fun k p => decide (p < n) && lb (lk (k * 10 + p)) j) k) nn = nn - 1 then 1 else 0))) (fun u => [oB h 6 (oF6 v q), aJ G (q 8) 80 lk, oB (q 0) 1 (oF1 v1 q1), oB (q 1) 3 (oF3 v3 q3), oB (q 2) 2 (oF2 u.1 q2), aI G (q2 0) 8 u.2.1, aI G (q2 1) 10 u.2.2.1, aI G (q 9) 8 u.2.2.2]) 0 0 := by
  refine Cv.of (cc := cX6_countLackingTo) (maxL := 3) (by decide) rfl (Nat.le_of_ble_eq_true rfl) ?_
  intro pM eM sM mM bM tM cM Q A hx hb hts hown hml hnm hA hK hP hD hS hret ls hl
  have hown : sM.vm.findClass RX6 = some mM.cls := hown
  have hl : lv_has ls 3 [(0, .ref h), (1, .int (nI j))] := hl
  have hin3 : ∀ w ∈ u_ws RX3 TX3 3, w ∈ wsX6_countLackingTo := by decide +kernel
  have hin6 : ∀ w ∈ u_ws RX6 TX6 10, w ∈ wsX6_countLackingTo := by decide +kernel
  have f33 := hts (.fieldLink RX6 33 "HorizonPeaks$Views" "notches" "LHorizonPeaks$Notches;") (by decide +kernel)
  have f53 := hts (.fieldLink RX6 53 "HorizonPeaks$Notches" "size" "I") (by decide +kernel)
  have f12 := hts (.fieldLink RX6 12 "HorizonPeaks$Views" "matching" "LHorizonPeaks$Matching;") (by decide +kernel)
  have f26 := hts (.fieldLink RX6 26 "HorizonPeaks$Views" "lacking" "[I") (by decide +kernel)
  have hsc := fun k => sc_le (gwo (fun k p => decide (p < n) && lb (lk (k * 10 + p)) j) k) nn
  refine lv_aload_n hx hb dX6_countLackingTo_0 rfl (lv_at hl 0 rfl) ?_
  refine lv_iload_n hx hb dX6_countLackingTo_1 rfl (lv_at hl 1 rfl) ?_
  refine ca_v (wr := [aI G (q2 1) 10 ow, aI G (q 9) 8 la]) (va_runV (As := [.int (nI j)]) (rest := []) ⟨hx, hb, hml, hown, hts⟩ ((c_X6_lookTo l G h v q lk v1 q1 v3 q3 v2 q2 rw n nn j (hn1) (hn) (hn3) (hnn) (hj)) _) (cwV 1 hts gX6_countLackingTo_X6_lookTo rfl rfl rfl (by decide +kernel) ⟨Nat.le_of_ble_eq_true rfl, Nat.le_of_ble_eq_true rfl⟩) (cPre_V hK hP hD [0, 1, 2, 3, 4, 5] (by decide) rfl 0 6 rfl rfl) rfl rfl hl.1 rfl (lv_room (Nat.le_of_ble_eq_true rfl)) dX6_countLackingTo_2 ⟨Nat.zero_le _, Nat.zero_le _⟩) hP hD hS hA [0, 1, 2, 3, 4, 5] [6, 7] rfl rfl (by decide) (by decide) [2, 3, 4, 5, 6, 7, 0, 1] (fun u_2 => [oB h 6 (oF6 v q), aJ G (q 8) 80 lk, oB (q 0) 1 (oF1 v1 q1), oB (q 1) 3 (oF3 v3 q3), oB (q 2) 2 (oF2 v2 q2), aI G (q2 0) 8 u_2, aI G (q2 1) 10 ow, aI G (q 9) 8 la]) (by decide) (fun _ => rfl) (fun u_2 H locs q_2 hP hD hS => ?_)
  have q_2 : ∀ k, k < nn → u_2 k = gbits (fun p => lb (lk (k * 10 + p)) j) n := q_2
  have hP : va_P G.1 vwCl [oB h 6 (oF6 v q), aJ G (q 8) 80 lk, oB (q 0) 1 (oF1 v1 q1), oB (q 1) 3 (oF3 v3 q3), oB (q 2) 2 (oF2 v2 q2), aI G (q2 0) 8 u_2, aI G (q2 1) 10 ow, aI G (q 9) 8 la] H := hP
  have hD : va_D A [oB h 6 (oF6 v q), aJ G (q 8) 80 lk, oB (q 0) 1 (oF1 v1 q1), oB (q 1) 3 (oF3 v3 q3), oB (q 2) 2 (oF2 v2 q2), aI G (q2 0) 8 u_2, aI G (q2 1) 10 ow, aI G (q 9) 8 la] := hD
  refine lv_iconst (v := 0) hx hb dX6_countLackingTo_5 (by decide) ?_
  refine lv_istore_n (lv' := [(2, .int 0), (0, .ref h), (1, .int (nI j))]) hx hb dX6_countLackingTo_6 rfl hl (by decide) rfl (fun ls hl => ?_)
  have loop_7 : ∀ (nF : Nat) (m1 : Nat → Int32) (ow1 : Nat → Int32) (la1 : Nat → Int32) (k : Nat), (nn - k) < nF → (k ≤ nn) → (∀ i, i < k → la1 i = nI (lc i + (if sc (gwo (fun k p => decide (p < n) && lb (lk (k * 10 + p)) j) i) nn = nn - 1 then 1 else 0))) → (∀ i, k ≤ i → i < nn → la1 i = nI (lc i)) → ∀ (H : Heap) (locs : List Loc), va_P G.1 vwCl [oB h 6 (oF6 v q), aJ G (q 8) 80 lk, oB (q 0) 1 (oF1 v1 q1), oB (q 1) 3 (oF3 v3 q3), oB (q 2) 2 (oF2 m1 q2), aI G (q2 0) 8 u_2, aI G (q2 1) 10 ow1, aI G (q 9) 8 la1] H → va_D A [oB h 6 (oF6 v q), aJ G (q 8) 80 lk, oB (q 0) 1 (oF1 v1 q1), oB (q 1) 3 (oF3 v3 q3), oB (q 2) 2 (oF2 m1 q2), aI G (q2 0) 8 u_2, aI G (q2 1) 10 ow1, aI G (q 9) 8 la1] → va_S A sM.heap H locs → ∀ (ls : Array Slot), lv_has ls 3 [(2, .int (nI k)), (0, .ref h), (1, .int (nI j))] → W pM l eM rX6_countLackingTo sM mM [.ref h, .int (nI j)].toArray bM tM cM H locs 0 0 Q (F0 mM 7 ls []) := by
    intro nF
    induction nF with
    | zero => intro m1 ow1 la1 k hmF; exact absurd hmF (Nat.not_lt_zero _)
    | succ nF ih7 =>
      intro m1 ow1 la1 k hmF hk hl1 hl2 H locs hP hD hS ls hl
      refine lv_iload_n hx hb dX6_countLackingTo_7 rfl (lv_at hl 0 rfl) ?_
      refine lv_aload_n hx hb dX6_countLackingTo_8 rfl (lv_at hl 1 rfl) ?_
      refine va_get (D := G.1) (ci := 6) (v := .ref (q 1)) (C := RX6) (T := TX6) (N := 10) hx hb hts hin6 hown hK.1 hP 0 rfl rfl 1 (by decide) f33 (fun _ h9 => h9) rfl dX6_countLackingTo_9 ?_
      refine va_get (D := G.1) (ci := 3) (v := .int (v3 2)) (C := RX3) (T := TX3) (N := 3) hx hb hts hin3 hown hK.1 hP 3 rfl rfl 2 (by decide) f53 (fun _ h9 => h9) rfl dX6_countLackingTo_12 ?_
      refine top_i (y := nI nn) (hn3) ?_
      refine lv_icmp_ge (tgt := 61) hx hb dX6_countLackingTo_15 (by decide) (fun c_15 => ?_) (fun c_15 => ?_)
      · have c_15 : nn ≤ k := (c_le (a := nn) (b := k) rfl rfl (by omega) (by omega)).mp c_15
        exact hret (m1, u_2, ow1, la1) _ _ _ _ (fun i h => hl1 i (by omega)) hP hD hS dX6_countLackingTo_61
      · have c_15 : ¬ nn ≤ k := fun hne => c_15 ((c_le (a := nn) (b := k) rfl rfl (by omega) (by omega)).mpr hne)
        refine lv_aload_n hx hb dX6_countLackingTo_18 rfl (lv_at hl 1 rfl) ?_
        refine va_get (D := G.1) (ci := 6) (v := .ref (q 2)) (C := RX6) (T := TX6) (N := 10) hx hb hts hin6 hown hK.1 hP 0 rfl rfl 2 (by decide) f12 (fun _ h9 => h9) rfl dX6_countLackingTo_19 ?_
        refine lv_aload_n hx hb dX6_countLackingTo_22 rfl (lv_at hl 1 rfl) ?_
        refine va_get (D := G.1) (ci := 6) (v := .ref (q 1)) (C := RX6) (T := TX6) (N := 10) hx hb hts hin6 hown hK.1 hP 0 rfl rfl 1 (by decide) f33 (fun _ h9 => h9) rfl dX6_countLackingTo_23 ?_
        refine va_get (D := G.1) (ci := 3) (v := .int (v3 2)) (C := RX3) (T := TX3) (N := 3) hx hb hts hin3 hown hK.1 hP 3 rfl rfl 2 (by decide) f53 (fun _ h9 => h9) rfl dX6_countLackingTo_26 ?_
        refine top_i (y := nI nn) (hn3) ?_
        refine lv_iload_n hx hb dX6_countLackingTo_29 rfl (lv_at hl 0 rfl) ?_
        refine ca_i (wr := [oB h 6 (oF6 v q), aJ G (q 8) 80 lk, oB (q 0) 1 (oF1 v1 q1), oB (q 1) 3 (oF3 v3 q3), aI G (q 9) 8 la1]) (va_runV (As := [.int (nI nn), .int (nI k)]) (rest := []) ⟨hx, hb, hml, hown, hts⟩ ((c_X2_most l G (q 2) m1 q2 u_2 ow1 (nI k) nn (hnn)) _) (cwV 2 hts gX6_countLackingTo_X2_most rfl rfl rfl (by decide +kernel) ⟨Nat.le_of_ble_eq_true rfl, Nat.le_of_ble_eq_true rfl⟩) (cPre_V hK hP hD [4, 5, 6] (by decide) rfl 0 2 rfl rfl) rfl rfl hl.1 rfl (lv_room (Nat.le_of_ble_eq_true rfl)) dX6_countLackingTo_30 ⟨Nat.zero_le _, Nat.zero_le _⟩) hP hD hS hA [4, 5, 6] [0, 1, 2, 3, 7] rfl rfl (by decide) (by decide) [0, 1, 2, 3, 5, 6, 7, 4] (fun u_30 => [oB h 6 (oF6 v q), aJ G (q 8) 80 lk, oB (q 0) 1 (oF1 v1 q1), oB (q 1) 3 (oF3 v3 q3), oB (q 2) 2 (oF2 u_30.1 q2), aI G (q2 0) 8 u_2, aI G (q2 1) 10 u_30.2, aI G (q 9) 8 la1]) (by decide) (fun _ => rfl) (fun r_30 u_30 H locs q_30 hP hD hS => ?_)
        obtain rfl : r_30 = nI (sc (gm u_2 (nI k)) nn) := q_30
        have hP : va_P G.1 vwCl [oB h 6 (oF6 v q), aJ G (q 8) 80 lk, oB (q 0) 1 (oF1 v1 q1), oB (q 1) 3 (oF3 v3 q3), oB (q 2) 2 (oF2 u_30.1 q2), aI G (q2 0) 8 u_2, aI G (q2 1) 10 u_30.2, aI G (q 9) 8 la1] H := hP
        have hD : va_D A [oB h 6 (oF6 v q), aJ G (q 8) 80 lk, oB (q 0) 1 (oF1 v1 q1), oB (q 1) 3 (oF3 v3 q3), oB (q 2) 2 (oF2 u_30.1 q2), aI G (q2 0) 8 u_2, aI G (q2 1) 10 u_30.2, aI G (q 9) 8 la1] := hD
        have hgw : sc (gm u_2 (nI k)) nn = sc (gwo (fun k p => decide (p < n) && lb (lk (k * 10 + p)) j) k) nn := gm_wo hnn (by omega) (fun i p hi hp => by rw [q_2 i hi, bt_gbits hn (by omega)])
        refine top_i (y := nI (sc (gwo (fun k p => decide (p < n) && lb (lk (k * 10 + p)) j) k) nn)) (by rw [hgw]) ?_
        have hsk := hsc k
        refine lv_aload_n hx hb dX6_countLackingTo_33 rfl (lv_at hl 1 rfl) ?_
        refine va_get (D := G.1) (ci := 6) (v := .ref (q 1)) (C := RX6) (T := TX6) (N := 10) hx hb hts hin6 hown hK.1 hP 0 rfl rfl 1 (by decide) f33 (fun _ h9 => h9) rfl dX6_countLackingTo_34 ?_
        refine va_get (D := G.1) (ci := 3) (v := .int (v3 2)) (C := RX3) (T := TX3) (N := 3) hx hb hts hin3 hown hK.1 hP 3 rfl rfl 2 (by decide) f53 (fun _ h9 => h9) rfl dX6_countLackingTo_37 ?_
        refine top_i (y := nI nn) (hn3) ?_
        refine lv_iconst (v := 1) hx hb dX6_countLackingTo_40 (by decide) ?_
        refine lv_isub hx hb dX6_countLackingTo_41 ?_
        refine top_i (y := nI (nn - 1)) (nn_m1 (by omega)) ?_
        refine lv_icmp_ne (tgt := 55) hx hb dX6_countLackingTo_42 (by decide) (fun c_42 => ?_) (fun c_42 => ?_)
        · have c_42 : ¬ (sc (gwo (fun k p => decide (p < n) && lb (lk (k * 10 + p)) j) k) nn) = (nn - 1) := fun hne => c_42 ((c_eq (a := sc (gwo (fun k p => decide (p < n) && lb (lk (k * 10 + p)) j) k) nn) (b := nn - 1) rfl rfl (by omega) (by omega)).mpr hne)
          refine lv_iinc (v := nI (k + 1)) (lv' := [(2, .int (nI (k + 1))), (0, .ref h), (1, .int (nI j))]) hx hb dX6_countLackingTo_55 hl (k := 0) rfl (inc_nI _ 1) (by decide) rfl (fun ls hl => ?_)
          refine lv_goto (tgt := 7) hx hb dX6_countLackingTo_58 (by decide) ?_
          exact ih7 u_30.1 u_30.2 la1 (k + 1) (by omega) (by omega) (fun i h => if e : i = k then by rw [e, if_neg c_42]; exact hl2 k (Nat.le_refl k) (by omega) else hl1 i (by omega)) (fun i h1 h2 => hl2 i (by omega) h2) _ _ hP hD hS _ (lv_sub hl [0, 1, 2] rfl)
        · have c_42 : (sc (gwo (fun k p => decide (p < n) && lb (lk (k * 10 + p)) j) k) nn) = (nn - 1) := (c_eq (a := sc (gwo (fun k p => decide (p < n) && lb (lk (k * 10 + p)) j) k) nn) (b := nn - 1) rfl rfl (by omega) (by omega)).mp c_42
          refine lv_aload_n hx hb dX6_countLackingTo_45 rfl (lv_at hl 1 rfl) ?_
          refine va_get (D := G.1) (ci := 6) (v := .ref (q 9)) (C := RX6) (T := TX6) (N := 10) hx hb hts hin6 hown hK.1 hP 0 rfl rfl 9 (by decide) f26 (fun _ h9 => h9) rfl dX6_countLackingTo_46 ?_
          refine lv_iload_n hx hb dX6_countLackingTo_49 rfl (lv_at hl 0 rfl) ?_
          refine lv_dup2_11 hx hb dX6_countLackingTo_50 rfl rfl ?_
          refine al_i hx hb hK.1 hP 7 0 rfl rfl (j := k) (by omega) (Nat.le_of_ble_eq_true rfl) dX6_countLackingTo_51 ?_
          refine top_i (y := nI (lc k)) (hl2 k (Nat.le_refl k) (by omega)) ?_
          refine lv_iconst (v := 1) hx hb dX6_countLackingTo_52 (by decide) ?_
          refine lv_iadd hx hb dX6_countLackingTo_53 ?_
          refine as_i hx hb hK.1 hP hD hS 7 0 rfl rfl (j := k) (by omega) (Nat.le_of_ble_eq_true rfl) dX6_countLackingTo_54 (fun H locs hP hD hS => ?_)
          have hP : va_P G.1 vwCl [oB h 6 (oF6 v q), aJ G (q 8) 80 lk, oB (q 0) 1 (oF1 v1 q1), oB (q 1) 3 (oF3 v3 q3), oB (q 2) 2 (oF2 u_30.1 q2), aI G (q2 0) 8 u_2, aI G (q2 1) 10 u_30.2, aI G (q 9) 8 (upd la1 k ((nI (lc k)) + 1))] H := hP
          have hD : va_D A [oB h 6 (oF6 v q), aJ G (q 8) 80 lk, oB (q 0) 1 (oF1 v1 q1), oB (q 1) 3 (oF3 v3 q3), oB (q 2) 2 (oF2 u_30.1 q2), aI G (q2 0) 8 u_2, aI G (q2 1) 10 u_30.2, aI G (q 9) 8 (upd la1 k ((nI (lc k)) + 1))] := hD
          refine lv_iinc (v := nI (k + 1)) (lv' := [(2, .int (nI (k + 1))), (0, .ref h), (1, .int (nI j))]) hx hb dX6_countLackingTo_55 hl (k := 0) rfl (inc_nI _ 1) (by decide) rfl (fun ls hl => ?_)
          refine lv_goto (tgt := 7) hx hb dX6_countLackingTo_58 (by decide) ?_
          exact ih7 u_30.1 u_30.2 (upd la1 k ((nI (lc k)) + 1)) (k + 1) (by omega) (by omega) (fun i h => if e : i = k then by rw [e, pk_us, if_pos c_42]; exact nI_1 _ else by rw [pk_un e]; exact hl1 i (by omega)) (fun i h1 h2 => by rw [pk_un (by omega)]; exact hl2 i (by omega) h2) _ _ hP hD hS _ (lv_sub hl [0, 1, 2] rfl)
  exact loop_7 _ v2 ow la 0 (Nat.lt_succ_self _) (Nat.zero_le _) (fun i h => absurd h (Nat.not_lt_zero i)) (fun i _ h => hla i h) _ _ hP hD hS _ (lv_sub hl [0, 1, 2] rfl)

abbrev rX6_countLacking : Room := { frames := 14, cells := 0, slots := 0, locals := 334 }
set_option maxHeartbeats 4000000 in
set_option maxRecDepth 100000 in
theorem c_X6_countLacking (l : Launch) (G : kG) (h : Nat) (v : Nat → Int32) (q : Nat → Nat) (sco : Nat → Int32) (lk : Nat → Int64) (v1 : Nat → Int32) (q1 : Nat → Nat) (xs : Nat → Int32) (ys : Nat → Int32) (hs : Nat → Int32) (pk : Nat → Int32) (vis : Nat → Int32) (v3 : Nat → Int32) (q3 : Nat → Nat) (bs : Nat → Int32) (zs : Nat → Int32) (v2 : Nat → Int32) (q2 : Nat → Nat) (rw : Nat → Int32) (ow : Nat → Int32) (be : Nat → Nat → Nat) (nb : Nat → Nat) (n : Nat) (nn : Nat) (sl : Nat) (la : Nat → Int32) (hn1 : v1 3 = nI n) (hn : n ≤ 10) (hsl : v1 7 = nI sl) (hsl3 : sl ≤ 3) (hn3 : v3 2 = nI nn) (hnn : nn ≤ 8) (hN : ∀ k, k < nn → bs k = nI (nb k) ∧ nb k < 64) (hB : ∀ pt, pt < 64 → pk pt = 0 → ∀ p, p < n → gbear (gx xs pt p) (gy ys pt p) = nI (be pt p) ∧ be pt p < 64) (hKV : KVs (sV vis pk xs ys hs zs be nb sl n nn (1 <<< (nI n &&& 31) - 1)) nn 4096 v sco) : Cv l G yX6_countLacking wsX6_countLacking rX6_countLacking [.ref h] [oB h 6 (oF6 v q), aI G (q 3) 4096 sco, aJ G (q 8) 80 lk, oB (q 0) 1 (oF1 v1 q1), aI G (q1 0) 10 xs, aI G (q1 1) 10 ys, aI G (q1 2) 10 hs, aZ G (q1 8) 64 pk, aI G (q1 9) 64 vis, oB (q 1) 3 (oF3 v3 q3), aI G (q3 0) 8 bs, aI G (q3 1) 8 zs, oB (q 2) 2 (oF2 v2 q2), aI G (q2 0) 8 rw, aI G (q2 1) 10 ow, aI G (q 9) 8 la] (fun (u : (Nat → Int64) × (Nat → Int32) × (Nat → Int32) × (Nat → Int32) × (Nat → Int32)) => ∀ k, k < nn → u.2.2.2.2 k = nI (fb_ct (lkW vis pk xs ys hs zs be nb sl n nn (1 <<< (nI n &&& 31) - 1) k) 4096)) (fun u => [oB h 6 (oF6 v q), aI G (q 3) 4096 sco, aJ G (q 8) 80 u.1, oB (q 0) 1 (oF1 v1 q1), aI G (q1 0) 10 xs, aI G (q1 1) 10 ys, aI G (q1 2) 10 hs, aZ G (q1 8) 64 pk, aI G (q1 9) 64 vis, oB (q 1) 3 (oF3 v3 q3), aI G (q3 0) 8 bs, aI G (q3 1) 8 zs, oB (q 2) 2 (oF2 u.2.1 q2), aI G (q2 0) 8 u.2.2.1, aI G (q2 1) 10 u.2.2.2.1, aI G (q 9) 8 u.2.2.2.2]) 0 0 := by
  refine Cv.of (cc := cX6_countLacking) (maxL := 4) (by decide) rfl (Nat.le_of_ble_eq_true rfl) ?_
  intro pM eM sM mM bM tM cM Q A hx hb hts hown hml hnm hA hK hP hD hS hret ls hl
  have hown : sM.vm.findClass RX6 = some mM.cls := hown
  have hl : lv_has ls 4 [(0, .ref h)] := hl
  have hin1 : ∀ w ∈ u_ws RX1 TX1 11, w ∈ wsX6_countLacking := by decide +kernel
  have hin3 : ∀ w ∈ u_ws RX3 TX3 3, w ∈ wsX6_countLacking := by decide +kernel
  have hin6 : ∀ w ∈ u_ws RX6 TX6 10, w ∈ wsX6_countLacking := by decide +kernel
  have f33 := hts (.fieldLink RX6 33 "HorizonPeaks$Views" "notches" "LHorizonPeaks$Notches;") (by decide +kernel)
  have f53 := hts (.fieldLink RX6 53 "HorizonPeaks$Notches" "size" "I") (by decide +kernel)
  have f26 := hts (.fieldLink RX6 26 "HorizonPeaks$Views" "lacking" "[I") (by decide +kernel)
  have f29 := hts (.fieldLink RX6 29 "HorizonPeaks$Views" "land" "LHorizonPeaks$Land;") (by decide +kernel)
  have f117 := hts (.fieldLink RX6 117 "HorizonPeaks$Land" "peakAt" "[Z") (by decide +kernel)
  have f18 := hts (.fieldLink RX6 18 "HorizonPeaks$Views" "scores" "[I") (by decide +kernel)
  refine lv_iconst (v := 0) hx hb dX6_countLacking_0 (by decide) ?_
  refine lv_istore_n (lv' := [(1, .int 0), (0, .ref h)]) hx hb dX6_countLacking_1 rfl hl (by decide) rfl (fun ls hl => ?_)
  have loop_2 : ∀ (nF : Nat) (la0 : Nat → Int32) (i0 : Nat), (nn - i0) < nF → (i0 ≤ nn) → (∀ k, k < i0 → la0 k = 0) → ∀ (H : Heap) (locs : List Loc), va_P G.1 vwCl [oB h 6 (oF6 v q), aI G (q 3) 4096 sco, aJ G (q 8) 80 lk, oB (q 0) 1 (oF1 v1 q1), aI G (q1 0) 10 xs, aI G (q1 1) 10 ys, aI G (q1 2) 10 hs, aZ G (q1 8) 64 pk, aI G (q1 9) 64 vis, oB (q 1) 3 (oF3 v3 q3), aI G (q3 0) 8 bs, aI G (q3 1) 8 zs, oB (q 2) 2 (oF2 v2 q2), aI G (q2 0) 8 rw, aI G (q2 1) 10 ow, aI G (q 9) 8 la0] H → va_D A [oB h 6 (oF6 v q), aI G (q 3) 4096 sco, aJ G (q 8) 80 lk, oB (q 0) 1 (oF1 v1 q1), aI G (q1 0) 10 xs, aI G (q1 1) 10 ys, aI G (q1 2) 10 hs, aZ G (q1 8) 64 pk, aI G (q1 9) 64 vis, oB (q 1) 3 (oF3 v3 q3), aI G (q3 0) 8 bs, aI G (q3 1) 8 zs, oB (q 2) 2 (oF2 v2 q2), aI G (q2 0) 8 rw, aI G (q2 1) 10 ow, aI G (q 9) 8 la0] → va_S A sM.heap H locs → ∀ (ls : Array Slot), lv_has ls 4 [(1, .int (nI i0)), (0, .ref h)] → W pM l eM rX6_countLacking sM mM [.ref h].toArray bM tM cM H locs 0 0 Q (F0 mM 2 ls []) := by
    intro nF
    induction nF with
    | zero => intro la0 i0 hmF; exact absurd hmF (Nat.not_lt_zero _)
    | succ nF ih2 =>
      intro la0 i0 hmF hi0 hz0 H locs hP hD hS ls hl
      refine lv_iload_n hx hb dX6_countLacking_2 rfl (lv_at hl 0 rfl) ?_
      refine lv_aload_n hx hb dX6_countLacking_3 rfl (lv_at hl 1 rfl) ?_
      refine va_get (D := G.1) (ci := 6) (v := .ref (q 1)) (C := RX6) (T := TX6) (N := 10) hx hb hts hin6 hown hK.1 hP 0 rfl rfl 1 (by decide) f33 (fun _ h9 => h9) rfl dX6_countLacking_4 ?_
      refine va_get (D := G.1) (ci := 3) (v := .int (v3 2)) (C := RX3) (T := TX3) (N := 3) hx hb hts hin3 hown hK.1 hP 9 rfl rfl 2 (by decide) f53 (fun _ h9 => h9) rfl dX6_countLacking_7 ?_
      refine top_i (y := nI nn) (hn3) ?_
      refine lv_icmp_ge (tgt := 26) hx hb dX6_countLacking_10 (by decide) (fun c_10 => ?_) (fun c_10 => ?_)
      · have c_10 : nn ≤ i0 := (c_le (a := nn) (b := i0) rfl rfl (by omega) (by omega)).mp c_10
        refine lv_iconst (v := 0) hx hb dX6_countLacking_26 (by decide) ?_
        refine lv_istore_n (lv' := [(1, .int 0), (0, .ref h)]) hx hb dX6_countLacking_27 rfl hl (by decide) rfl (fun ls hl => ?_)
        have loop_28 : ∀ (nF : Nat) (lk1 : Nat → Int64) (m1 : Nat → Int32) (rw1 : Nat → Int32) (ow1 : Nat → Int32) (la1 : Nat → Int32) (a : Nat), (64 - a) < nF → (a ≤ 64) → (∀ k, k < nn → la1 k = nI (fb_ct (lkW vis pk xs ys hs zs be nb sl n nn (1 <<< (nI n &&& 31) - 1) k) (a * 64))) → ∀ (H : Heap) (locs : List Loc), va_P G.1 vwCl [oB h 6 (oF6 v q), aI G (q 3) 4096 sco, aJ G (q 8) 80 lk1, oB (q 0) 1 (oF1 v1 q1), aI G (q1 0) 10 xs, aI G (q1 1) 10 ys, aI G (q1 2) 10 hs, aZ G (q1 8) 64 pk, aI G (q1 9) 64 vis, oB (q 1) 3 (oF3 v3 q3), aI G (q3 0) 8 bs, aI G (q3 1) 8 zs, oB (q 2) 2 (oF2 m1 q2), aI G (q2 0) 8 rw1, aI G (q2 1) 10 ow1, aI G (q 9) 8 la1] H → va_D A [oB h 6 (oF6 v q), aI G (q 3) 4096 sco, aJ G (q 8) 80 lk1, oB (q 0) 1 (oF1 v1 q1), aI G (q1 0) 10 xs, aI G (q1 1) 10 ys, aI G (q1 2) 10 hs, aZ G (q1 8) 64 pk, aI G (q1 9) 64 vis, oB (q 1) 3 (oF3 v3 q3), aI G (q3 0) 8 bs, aI G (q3 1) 8 zs, oB (q 2) 2 (oF2 m1 q2), aI G (q2 0) 8 rw1, aI G (q2 1) 10 ow1, aI G (q 9) 8 la1] → va_S A sM.heap H locs → ∀ (ls : Array Slot), lv_has ls 4 [(1, .int (nI a)), (0, .ref h)] → W pM l eM rX6_countLacking sM mM [.ref h].toArray bM tM cM H locs 0 0 Q (F0 mM 28 ls []) := by
          intro nF
          induction nF with
          | zero => intro lk1 m1 rw1 ow1 la1 a hmF; exact absurd hmF (Nat.not_lt_zero _)
          | succ nF ih28 =>
            intro lk1 m1 rw1 ow1 la1 a hmF ha hl1 H locs hP hD hS ls hl
            refine lv_iload_n hx hb dX6_countLacking_28 rfl (lv_at hl 0 rfl) ?_
            refine lv_bipush (v := 64) hx hb dX6_countLacking_29 (by decide) ?_
            refine lv_icmp_ge (tgt := 115) hx hb dX6_countLacking_31 (by decide) (fun c_31 => ?_) (fun c_31 => ?_)
            · have c_31 : 64 ≤ a := (c_le (a := 64) (b := a) rfl rfl (by omega) (by omega)).mp c_31
              exact hret (lk1, m1, rw1, ow1, la1) _ _ _ _ (fun k hk => (hl1 k hk).trans (by rw [show a * 64 = 4096 by omega])) hP hD hS dX6_countLacking_115
            · have c_31 : ¬ 64 ≤ a := fun hne => c_31 ((c_le (a := 64) (b := a) rfl rfl (by omega) (by omega)).mpr hne)
              refine lv_iconst (v := 0) hx hb dX6_countLacking_34 (by decide) ?_
              refine lv_istore_n (lv' := [(2, .int 0), (1, .int (nI a)), (0, .ref h)]) hx hb dX6_countLacking_35 rfl hl (by decide) rfl (fun ls hl => ?_)
              refine lv_iconst (v := 0) hx hb dX6_countLacking_36 (by decide) ?_
              refine lv_istore_n (lv' := [(3, .int 0), (2, .int 0), (1, .int (nI a)), (0, .ref h)]) hx hb dX6_countLacking_37 rfl hl (by decide) rfl (fun ls hl => ?_)
              have loop_38 : ∀ (nF : Nat) (lk2 : Nat → Int64) (m2 : Nat → Int32) (rw2 : Nat → Int32) (ow2 : Nat → Int32) (la2 : Nat → Int32) (sd : Bool) (j : Nat), (64 - j) < nF → (j ≤ 64) → (∀ k, k < nn → la2 k = nI (fb_ct (lkW vis pk xs ys hs zs be nb sl n nn (1 <<< (nI n &&& 31) - 1) k) (a * 64 + j))) → (sd = true → ∀ b, b < 64 → ∀ k p, k < nn → p < n → lb (lk2 (k * 10 + p)) b = fE (shB vis (1 <<< (nI n &&& 31) - 1) a) (gstand xs ys hs a) (be a) zs nb sl k p b) → ∀ (H : Heap) (locs : List Loc), va_P G.1 vwCl [oB h 6 (oF6 v q), aI G (q 3) 4096 sco, aJ G (q 8) 80 lk2, oB (q 0) 1 (oF1 v1 q1), aI G (q1 0) 10 xs, aI G (q1 1) 10 ys, aI G (q1 2) 10 hs, aZ G (q1 8) 64 pk, aI G (q1 9) 64 vis, oB (q 1) 3 (oF3 v3 q3), aI G (q3 0) 8 bs, aI G (q3 1) 8 zs, oB (q 2) 2 (oF2 m2 q2), aI G (q2 0) 8 rw2, aI G (q2 1) 10 ow2, aI G (q 9) 8 la2] H → va_D A [oB h 6 (oF6 v q), aI G (q 3) 4096 sco, aJ G (q 8) 80 lk2, oB (q 0) 1 (oF1 v1 q1), aI G (q1 0) 10 xs, aI G (q1 1) 10 ys, aI G (q1 2) 10 hs, aZ G (q1 8) 64 pk, aI G (q1 9) 64 vis, oB (q 1) 3 (oF3 v3 q3), aI G (q3 0) 8 bs, aI G (q3 1) 8 zs, oB (q 2) 2 (oF2 m2 q2), aI G (q2 0) 8 rw2, aI G (q2 1) 10 ow2, aI G (q 9) 8 la2] → va_S A sM.heap H locs → ∀ (ls : Array Slot), lv_has ls 4 [(3, .int (nI j)), (2, .int (b2i sd)), (1, .int (nI a)), (0, .ref h)] → W pM l eM rX6_countLacking sM mM [.ref h].toArray bM tM cM H locs 0 0 Q (F0 mM 38 ls []) := by
                intro nF
                induction nF with
                | zero => intro lk2 m2 rw2 ow2 la2 sd j hmF; exact absurd hmF (Nat.not_lt_zero _)
                | succ nF ih38 =>
                  intro lk2 m2 rw2 ow2 la2 sd j hmF hj hl2 hsd H locs hP hD hS ls hl
                  refine lv_iload_n hx hb dX6_countLacking_38 rfl (lv_at hl 0 rfl) ?_
                  refine lv_bipush (v := 64) hx hb dX6_countLacking_39 (by decide) ?_
                  refine lv_icmp_ge (tgt := 109) hx hb dX6_countLacking_41 (by decide) (fun c_41 => ?_) (fun c_41 => ?_)
                  · have c_41 : 64 ≤ j := (c_le (a := 64) (b := j) rfl rfl (by omega) (by omega)).mp c_41
                    refine lv_iinc (v := nI (a + 1)) (lv' := [(1, .int (nI (a + 1))), (3, .int (nI j)), (2, .int (b2i sd)), (0, .ref h)]) hx hb dX6_countLacking_109 hl (k := 2) rfl (inc_nI _ 1) (by decide) rfl (fun ls hl => ?_)
                    refine lv_goto (tgt := 28) hx hb dX6_countLacking_112 (by decide) ?_
                    exact ih28 lk2 m2 rw2 ow2 la2 (a + 1) (by omega) (by omega) (fun k hk => by rw [hl2 k hk, cl_end (P := lkW vis pk xs ys hs zs be nb sl n nn (1 <<< (nI n &&& 31) - 1) k) (j := j) (by omega)]) _ _ hP hD hS _ (lv_sub hl [0, 3] rfl)
                  · have c_41 : ¬ 64 ≤ j := fun hne => c_41 ((c_le (a := 64) (b := j) rfl rfl (by omega) (by omega)).mpr hne)
                    refine lv_aload_n hx hb dX6_countLacking_44 rfl (lv_at hl 3 rfl) ?_
                    refine va_get (D := G.1) (ci := 6) (v := .ref (q 0)) (C := RX6) (T := TX6) (N := 10) hx hb hts hin6 hown hK.1 hP 0 rfl rfl 0 (by decide) f29 (fun _ h9 => h9) rfl dX6_countLacking_45 ?_
                    refine va_get (D := G.1) (ci := 1) (v := .ref (q1 8)) (C := RX1) (T := TX1) (N := 11) hx hb hts hin1 hown hK.1 hP 3 rfl rfl 8 (by decide) f117 (fun _ h9 => h9) rfl dX6_countLacking_48 ?_
                    refine lv_iload_n hx hb dX6_countLacking_51 rfl (lv_at hl 2 rfl) ?_
                    refine al_z hx hb hK.1 hP 7 2 rfl rfl (j := a) (by omega) (Nat.le_of_ble_eq_true rfl) dX6_countLacking_52 ?_
                    refine lv_if_ne (tgt := 109) hx hb dX6_countLacking_53 (by decide) (fun c_53 => ?_) (fun c_53 => ?_)
                    · refine lv_iinc (v := nI (a + 1)) (lv' := [(1, .int (nI (a + 1))), (3, .int (nI j)), (2, .int (b2i sd)), (0, .ref h)]) hx hb dX6_countLacking_109 hl (k := 2) rfl (inc_nI _ 1) (by decide) rfl (fun ls hl => ?_)
                      refine lv_goto (tgt := 28) hx hb dX6_countLacking_112 (by decide) ?_
                      exact ih28 lk2 m2 rw2 ow2 la2 (a + 1) (by omega) (by omega) (fun k hk => by rw [hl2 k hk, cl_end (P := lkW vis pk xs ys hs zs be nb sl n nn (1 <<< (nI n &&& 31) - 1) k) (j := j) (by exact Or.inr (fun w h1 h2 => by simp [lkW, show w / 64 = a by omega, c_53]))]) _ _ hP hD hS _ (lv_sub hl [0, 3] rfl)
                    · refine lv_aload_n hx hb dX6_countLacking_56 rfl (lv_at hl 3 rfl) ?_
                      refine va_get (D := G.1) (ci := 6) (v := .ref (q 3)) (C := RX6) (T := TX6) (N := 10) hx hb hts hin6 hown hK.1 hP 0 rfl rfl 3 (by decide) f18 (fun _ h9 => h9) rfl dX6_countLacking_57 ?_
                      refine lv_iload_n hx hb dX6_countLacking_60 rfl (lv_at hl 2 rfl) ?_
                      refine lv_bipush (v := 64) hx hb dX6_countLacking_61 (by decide) ?_
                      refine lv_imul hx hb dX6_countLacking_63 ?_
                      refine lv_iload_n hx hb dX6_countLacking_64 rfl (lv_at hl 0 rfl) ?_
                      refine lv_iadd hx hb dX6_countLacking_65 ?_
                      refine top_i (y := nI (a * 64 + j)) (mul64 a j) ?_
                      refine al_i hx hb hK.1 hP 1 0 rfl rfl (j := a * 64 + j) (by omega) (Nat.le_of_ble_eq_true rfl) dX6_countLacking_66 ?_
                      refine top_i (y := Int32.ofInt (sV vis pk xs ys hs zs be nb sl n nn (1 <<< (nI n &&& 31) - 1) (a * 64 + j))) (hKV.1 _ (by omega)) ?_
                      refine lv_aload_n hx hb dX6_countLacking_67 rfl (lv_at hl 3 rfl) ?_
                      refine va_get (D := G.1) (ci := 6) (v := .ref (q 1)) (C := RX6) (T := TX6) (N := 10) hx hb hts hin6 hown hK.1 hP 0 rfl rfl 1 (by decide) f33 (fun _ h9 => h9) rfl dX6_countLacking_68 ?_
                      refine va_get (D := G.1) (ci := 3) (v := .int (v3 2)) (C := RX3) (T := TX3) (N := 3) hx hb hts hin3 hown hK.1 hP 9 rfl rfl 2 (by decide) f53 (fun _ h9 => h9) rfl dX6_countLacking_71 ?_
                      refine top_i (y := nI nn) (hn3) ?_
                      refine lv_iconst (v := 1) hx hb dX6_countLacking_74 (by decide) ?_
                      refine lv_isub hx hb dX6_countLacking_75 ?_
                      refine lv_icmp_ne (tgt := 103) hx hb dX6_countLacking_76 (by decide) (fun c_76 => ?_) (fun c_76 => ?_)
                      · have hsw : ¬ sV vis pk xs ys hs zs be nb sl n nn (1 <<< (nI n &&& 31) - 1) (a * 64 + j) = (nn : Int) - 1 := fun hz => c_76 ((oI_p1 (sV_rng _ _ _ _ _ _ _ _ _ _ _ _ hnn _).1 (sV_rng _ _ _ _ _ _ _ _ _ _ _ _ hnn _).2 hnn).mpr hz)
                        refine lv_iinc (v := nI (j + 1)) (lv' := [(3, .int (nI (j + 1))), (2, .int (b2i sd)), (1, .int (nI a)), (0, .ref h)]) hx hb dX6_countLacking_103 hl (k := 0) rfl (inc_nI _ 1) (by decide) rfl (fun ls hl => ?_)
                        refine lv_goto (tgt := 38) hx hb dX6_countLacking_106 (by decide) ?_
                        exact ih38 lk2 m2 rw2 ow2 la2 sd (j + 1) (by omega) (by omega) (fun k hk => by rw [← Nat.add_assoc, fb_ct_succ, if_neg (by simp [lkW, hsw, show (a * 64 + j) / 64 = a by omega]), Nat.add_zero]; exact hl2 k hk) (hsd) _ _ hP hD hS _ (lv_sub hl [0, 1, 2, 3] rfl)
                      · have hsw : sV vis pk xs ys hs zs be nb sl n nn (1 <<< (nI n &&& 31) - 1) (a * 64 + j) = (nn : Int) - 1 := (oI_p1 (sV_rng _ _ _ _ _ _ _ _ _ _ _ _ hnn _).1 (sV_rng _ _ _ _ _ _ _ _ _ _ _ _ hnn _).2 hnn).mp c_76
                        refine lv_iload_n hx hb dX6_countLacking_79 rfl (lv_at hl 1 rfl) ?_
                        refine lv_if_ne (tgt := 98) hx hb dX6_countLacking_80 (by decide) (fun c_80 => ?_) (fun c_80 => ?_)
                        · have c_80 : sd = true := b2i_n0.mp c_80
                          refine lv_aload_n hx hb dX6_countLacking_98 rfl (lv_at hl 3 rfl) ?_
                          refine lv_iload_n hx hb dX6_countLacking_99 rfl (lv_at hl 0 rfl) ?_
                          refine ca_v (wr := [aI G (q 3) 4096 sco, aI G (q1 0) 10 xs, aI G (q1 1) 10 ys, aI G (q1 2) 10 hs, aZ G (q1 8) 64 pk, aI G (q1 9) 64 vis, aI G (q3 0) 8 bs, aI G (q3 1) 8 zs]) (va_runV (As := [.int (nI j)]) (rest := []) ⟨hx, hb, hml, hown, hts⟩ ((c_X6_countLackingTo l G h v q lk2 v1 q1 v3 q3 m2 q2 rw2 ow2 la2 (fun k => fb_ct (lkW vis pk xs ys hs zs be nb sl n nn (1 <<< (nI n &&& 31) - 1) k) (a * 64 + j)) n nn j (hn1) (hn) (hn3) (hnn) (by omega) (hl2)) _) (cwV 1 hts gX6_countLacking_X6_countLackingTo rfl rfl rfl (by decide +kernel) ⟨Nat.le_of_ble_eq_true rfl, Nat.le_of_ble_eq_true rfl⟩) (cPre_V hK hP hD [0, 2, 3, 9, 12, 13, 14, 15] (by decide) rfl 0 6 rfl rfl) rfl rfl hl.1 rfl (lv_room (Nat.le_of_ble_eq_true rfl)) dX6_countLacking_100 ⟨Nat.zero_le _, Nat.zero_le _⟩) hP hD hS hA [0, 2, 3, 9, 12, 13, 14, 15] [1, 4, 5, 6, 7, 8, 10, 11] rfl rfl (by decide) (by decide) [8, 0, 9, 10, 1, 2, 3, 4, 5, 11, 6, 7, 12, 13, 14, 15] (fun u_100 => [oB h 6 (oF6 v q), aI G (q 3) 4096 sco, aJ G (q 8) 80 lk2, oB (q 0) 1 (oF1 v1 q1), aI G (q1 0) 10 xs, aI G (q1 1) 10 ys, aI G (q1 2) 10 hs, aZ G (q1 8) 64 pk, aI G (q1 9) 64 vis, oB (q 1) 3 (oF3 v3 q3), aI G (q3 0) 8 bs, aI G (q3 1) 8 zs, oB (q 2) 2 (oF2 u_100.1 q2), aI G (q2 0) 8 u_100.2.1, aI G (q2 1) 10 u_100.2.2.1, aI G (q 9) 8 u_100.2.2.2]) (by decide) (fun _ => rfl) (fun u_100 H locs q_100 hP hD hS => ?_)
                          have q_100 : ∀ k, k < nn → u_100.2.2.2 k = nI ((fun k => fb_ct (lkW vis pk xs ys hs zs be nb sl n nn (1 <<< (nI n &&& 31) - 1) k) (a * 64 + j)) k + (if sc (gwo (fun k p => decide (p < n) && lb (lk2 (k * 10 + p)) j) k) nn = nn - 1 then 1 else 0)) := q_100
                          have hP : va_P G.1 vwCl [oB h 6 (oF6 v q), aI G (q 3) 4096 sco, aJ G (q 8) 80 lk2, oB (q 0) 1 (oF1 v1 q1), aI G (q1 0) 10 xs, aI G (q1 1) 10 ys, aI G (q1 2) 10 hs, aZ G (q1 8) 64 pk, aI G (q1 9) 64 vis, oB (q 1) 3 (oF3 v3 q3), aI G (q3 0) 8 bs, aI G (q3 1) 8 zs, oB (q 2) 2 (oF2 u_100.1 q2), aI G (q2 0) 8 u_100.2.1, aI G (q2 1) 10 u_100.2.2.1, aI G (q 9) 8 u_100.2.2.2] H := hP
                          have hD : va_D A [oB h 6 (oF6 v q), aI G (q 3) 4096 sco, aJ G (q 8) 80 lk2, oB (q 0) 1 (oF1 v1 q1), aI G (q1 0) 10 xs, aI G (q1 1) 10 ys, aI G (q1 2) 10 hs, aZ G (q1 8) 64 pk, aI G (q1 9) 64 vis, oB (q 1) 3 (oF3 v3 q3), aI G (q3 0) 8 bs, aI G (q3 1) 8 zs, oB (q 2) 2 (oF2 u_100.1 q2), aI G (q2 0) 8 u_100.2.1, aI G (q2 1) 10 u_100.2.2.1, aI G (q 9) 8 u_100.2.2.2] := hD
                          refine lv_iinc (v := nI (j + 1)) (lv' := [(3, .int (nI (j + 1))), (2, .int (b2i sd)), (1, .int (nI a)), (0, .ref h)]) hx hb dX6_countLacking_103 hl (k := 0) rfl (inc_nI _ 1) (by decide) rfl (fun ls hl => ?_)
                          refine lv_goto (tgt := 38) hx hb dX6_countLacking_106 (by decide) ?_
                          have hcl : ∀ k, k < nn → (if sc (gwo (fun k p => decide (p < n) && lb (lk2 (k * 10 + p)) j) k) nn = nn - 1 then 1 else 0) = (if lkW vis pk xs ys hs zs be nb sl n nn (1 <<< (nI n &&& 31) - 1) k (a * 64 + j) = true then 1 else 0) := by
                            intro k hk
                            have e1 : sc (gwo (fun k p => decide (p < n) && lb (lk2 (k * 10 + p)) j) k) nn = sc (gwo (gV vis xs ys hs zs be nb sl n (1 <<< (nI n &&& 31) - 1) (a * 64 + j)) k) nn := sc_cong (fun i p hi hp => by
                              unfold gwo gV
                              rw [show (a * 64 + j) / 64 = a by omega, show (a * 64 + j) % 64 = j by omega]
                              by_cases cp : p < n
                              · have hbq := (hsd c_80 j (by omega)) i p hi cp
                                simp only [hbq]
                              · simp [cp])
                            rw [e1]
                            congr 1
                            simp [lkW, hsw, c_53, show (a * 64 + j) / 64 = a by omega]
                          exact ih38 lk2 u_100.1 u_100.2.1 u_100.2.2.1 u_100.2.2.2 sd (j + 1) (by omega) (by omega) (fun k hk => (q_100 k hk).trans (by rw [← Nat.add_assoc, fb_ct_succ]; exact congrArg nI (congrArg _ (hcl k hk)))) (fun _ => hsd c_80) _ _ hP hD hS _ (lv_sub hl [0, 1, 2, 3] rfl)
                        · have c_80 : sd = false := b2i_0.mp c_80
                          refine lv_aload_n hx hb dX6_countLacking_83 rfl (lv_at hl 3 rfl) ?_
                          refine lv_iload_n hx hb dX6_countLacking_84 rfl (lv_at hl 2 rfl) ?_
                          refine lv_aload_n hx hb dX6_countLacking_85 rfl (lv_at hl 3 rfl) ?_
                          refine va_get (D := G.1) (ci := 6) (v := .ref (q 0)) (C := RX6) (T := TX6) (N := 10) hx hb hts hin6 hown hK.1 hP 0 rfl rfl 0 (by decide) f29 (fun _ h9 => h9) rfl dX6_countLacking_86 ?_
                          refine rd_i (va_runV (As := []) (rest := [.int (nI a), .ref h]) ⟨hx, hb, hml, hown, hts⟩ (c_X1_allPeaks l G (q 0) v1 q1) (cwV 0 hts gX6_countLacking_X1_allPeaks rfl rfl rfl (by decide +kernel) ⟨Nat.le_of_ble_eq_true rfl, Nat.le_of_ble_eq_true rfl⟩) (rPre_V hK hP [3] rfl 0 1 rfl rfl) rfl rfl hl.1 rfl (lv_room (Nat.le_of_ble_eq_true rfl)) dX6_countLacking_89 ⟨Nat.zero_le _, Nat.zero_le _⟩) (fun r_89 q_89 => ?_)
                          obtain rfl : r_89 = 1 <<< (v1 3 &&& 31) - 1 := q_89
                          refine top_i (y := 1 <<< (nI n &&& 31) - 1) (by rw [hn1]) ?_
                          refine ca_l (wr := [aI G (q 3) 4096 sco, aZ G (q1 8) 64 pk, oB (q 2) 2 (oF2 m2 q2), aI G (q2 0) 8 rw2, aI G (q2 1) 10 ow2, aI G (q 9) 8 la2]) (va_runV (As := [.int (nI a), .int (1 <<< (nI n &&& 31) - 1)]) (rest := []) ⟨hx, hb, hml, hown, hts⟩ ((c_X6_standAt l G h v q lk2 v1 q1 xs ys hs vis v3 q3 bs zs (be a) nb n nn sl a (1 <<< (nI n &&& 31) - 1) (by omega) (hn1) (hn) (hsl) (hsl3) (hn3) (hnn) (hN) (hB a (by omega) c_53)) _) (cwV 2 hts gX6_countLacking_X6_standAt rfl rfl rfl (by decide +kernel) ⟨Nat.le_of_ble_eq_true rfl, Nat.le_of_ble_eq_true rfl⟩) (cPre_V hK hP hD [0, 2, 3, 4, 5, 6, 8, 9, 10, 11] (by decide) rfl 0 6 rfl rfl) rfl rfl hl.1 rfl (lv_room (Nat.le_of_ble_eq_true rfl)) dX6_countLacking_92 ⟨Nat.zero_le _, Nat.zero_le _⟩) hP hD hS hA [0, 2, 3, 4, 5, 6, 8, 9, 10, 11] [1, 7, 12, 13, 14, 15] rfl rfl (by decide) (by decide) [6, 0, 7, 8, 9, 10, 11, 1, 12, 13, 14, 15, 2, 3, 4, 5] (fun u_92 => [oB h 6 (oF6 v q), aI G (q 3) 4096 sco, aJ G (q 8) 80 u_92, oB (q 0) 1 (oF1 v1 q1), aI G (q1 0) 10 xs, aI G (q1 1) 10 ys, aI G (q1 2) 10 hs, aZ G (q1 8) 64 pk, aI G (q1 9) 64 vis, oB (q 1) 3 (oF3 v3 q3), aI G (q3 0) 8 bs, aI G (q3 1) 8 zs, oB (q 2) 2 (oF2 m2 q2), aI G (q2 0) 8 rw2, aI G (q2 1) 10 ow2, aI G (q 9) 8 la2]) (by decide) (fun _ => rfl) (fun r_92 u_92 H locs q_92 hP hD hS => ?_)
                          have q_92 : ∀ j, j < 64 → lb r_92 j = anyB (fun p => anyB (fun k => fE (shB vis (1 <<< (nI n &&& 31) - 1) a) (gstand xs ys hs a) (be a) zs nb sl k p j) nn) n ∧ ∀ k p, k < nn → p < n → lb (u_92 (k * 10 + p)) j = fE (shB vis (1 <<< (nI n &&& 31) - 1) a) (gstand xs ys hs a) (be a) zs nb sl k p j := q_92
                          have hP : va_P G.1 vwCl [oB h 6 (oF6 v q), aI G (q 3) 4096 sco, aJ G (q 8) 80 u_92, oB (q 0) 1 (oF1 v1 q1), aI G (q1 0) 10 xs, aI G (q1 1) 10 ys, aI G (q1 2) 10 hs, aZ G (q1 8) 64 pk, aI G (q1 9) 64 vis, oB (q 1) 3 (oF3 v3 q3), aI G (q3 0) 8 bs, aI G (q3 1) 8 zs, oB (q 2) 2 (oF2 m2 q2), aI G (q2 0) 8 rw2, aI G (q2 1) 10 ow2, aI G (q 9) 8 la2] H := hP
                          have hD : va_D A [oB h 6 (oF6 v q), aI G (q 3) 4096 sco, aJ G (q 8) 80 u_92, oB (q 0) 1 (oF1 v1 q1), aI G (q1 0) 10 xs, aI G (q1 1) 10 ys, aI G (q1 2) 10 hs, aZ G (q1 8) 64 pk, aI G (q1 9) 64 vis, oB (q 1) 3 (oF3 v3 q3), aI G (q3 0) 8 bs, aI G (q3 1) 8 zs, oB (q 2) 2 (oF2 m2 q2), aI G (q2 0) 8 rw2, aI G (q2 1) 10 ow2, aI G (q 9) 8 la2] := hD
                          refine lv_pop2_2 hx hb dX6_countLacking_95 rfl ?_
                          refine lv_iconst (v := 1) hx hb dX6_countLacking_96 (by decide) ?_
                          refine lv_istore_n (lv' := [(2, .int 1), (3, .int (nI j)), (1, .int (nI a)), (0, .ref h)]) hx hb dX6_countLacking_97 rfl hl (by decide) rfl (fun ls hl => ?_)
                          refine lv_aload_n hx hb dX6_countLacking_98 rfl (lv_at hl 3 rfl) ?_
                          refine lv_iload_n hx hb dX6_countLacking_99 rfl (lv_at hl 1 rfl) ?_
                          refine ca_v (wr := [aI G (q 3) 4096 sco, aI G (q1 0) 10 xs, aI G (q1 1) 10 ys, aI G (q1 2) 10 hs, aZ G (q1 8) 64 pk, aI G (q1 9) 64 vis, aI G (q3 0) 8 bs, aI G (q3 1) 8 zs]) (va_runV (As := [.int (nI j)]) (rest := []) ⟨hx, hb, hml, hown, hts⟩ ((c_X6_countLackingTo l G h v q u_92 v1 q1 v3 q3 m2 q2 rw2 ow2 la2 (fun k => fb_ct (lkW vis pk xs ys hs zs be nb sl n nn (1 <<< (nI n &&& 31) - 1) k) (a * 64 + j)) n nn j (hn1) (hn) (hn3) (hnn) (by omega) (hl2)) _) (cwV 1 hts gX6_countLacking_X6_countLackingTo rfl rfl rfl (by decide +kernel) ⟨Nat.le_of_ble_eq_true rfl, Nat.le_of_ble_eq_true rfl⟩) (cPre_V hK hP hD [0, 2, 3, 9, 12, 13, 14, 15] (by decide) rfl 0 6 rfl rfl) rfl rfl hl.1 rfl (lv_room (Nat.le_of_ble_eq_true rfl)) dX6_countLacking_100 ⟨Nat.zero_le _, Nat.zero_le _⟩) hP hD hS hA [0, 2, 3, 9, 12, 13, 14, 15] [1, 4, 5, 6, 7, 8, 10, 11] rfl rfl (by decide) (by decide) [8, 0, 9, 10, 1, 2, 3, 4, 5, 11, 6, 7, 12, 13, 14, 15] (fun u_100 => [oB h 6 (oF6 v q), aI G (q 3) 4096 sco, aJ G (q 8) 80 u_92, oB (q 0) 1 (oF1 v1 q1), aI G (q1 0) 10 xs, aI G (q1 1) 10 ys, aI G (q1 2) 10 hs, aZ G (q1 8) 64 pk, aI G (q1 9) 64 vis, oB (q 1) 3 (oF3 v3 q3), aI G (q3 0) 8 bs, aI G (q3 1) 8 zs, oB (q 2) 2 (oF2 u_100.1 q2), aI G (q2 0) 8 u_100.2.1, aI G (q2 1) 10 u_100.2.2.1, aI G (q 9) 8 u_100.2.2.2]) (by decide) (fun _ => rfl) (fun u_100 H locs q_100 hP hD hS => ?_)
                          have q_100 : ∀ k, k < nn → u_100.2.2.2 k = nI ((fun k => fb_ct (lkW vis pk xs ys hs zs be nb sl n nn (1 <<< (nI n &&& 31) - 1) k) (a * 64 + j)) k + (if sc (gwo (fun k p => decide (p < n) && lb (u_92 (k * 10 + p)) j) k) nn = nn - 1 then 1 else 0)) := q_100
                          have hP : va_P G.1 vwCl [oB h 6 (oF6 v q), aI G (q 3) 4096 sco, aJ G (q 8) 80 u_92, oB (q 0) 1 (oF1 v1 q1), aI G (q1 0) 10 xs, aI G (q1 1) 10 ys, aI G (q1 2) 10 hs, aZ G (q1 8) 64 pk, aI G (q1 9) 64 vis, oB (q 1) 3 (oF3 v3 q3), aI G (q3 0) 8 bs, aI G (q3 1) 8 zs, oB (q 2) 2 (oF2 u_100.1 q2), aI G (q2 0) 8 u_100.2.1, aI G (q2 1) 10 u_100.2.2.1, aI G (q 9) 8 u_100.2.2.2] H := hP
                          have hD : va_D A [oB h 6 (oF6 v q), aI G (q 3) 4096 sco, aJ G (q 8) 80 u_92, oB (q 0) 1 (oF1 v1 q1), aI G (q1 0) 10 xs, aI G (q1 1) 10 ys, aI G (q1 2) 10 hs, aZ G (q1 8) 64 pk, aI G (q1 9) 64 vis, oB (q 1) 3 (oF3 v3 q3), aI G (q3 0) 8 bs, aI G (q3 1) 8 zs, oB (q 2) 2 (oF2 u_100.1 q2), aI G (q2 0) 8 u_100.2.1, aI G (q2 1) 10 u_100.2.2.1, aI G (q 9) 8 u_100.2.2.2] := hD
                          refine lv_iinc (v := nI (j + 1)) (lv' := [(3, .int (nI (j + 1))), (2, .int 1), (1, .int (nI a)), (0, .ref h)]) hx hb dX6_countLacking_103 hl (k := 1) rfl (inc_nI _ 1) (by decide) rfl (fun ls hl => ?_)
                          refine lv_goto (tgt := 38) hx hb dX6_countLacking_106 (by decide) ?_
                          have hcl : ∀ k, k < nn → (if sc (gwo (fun k p => decide (p < n) && lb (u_92 (k * 10 + p)) j) k) nn = nn - 1 then 1 else 0) = (if lkW vis pk xs ys hs zs be nb sl n nn (1 <<< (nI n &&& 31) - 1) k (a * 64 + j) = true then 1 else 0) := by
                            intro k hk
                            have e1 : sc (gwo (fun k p => decide (p < n) && lb (u_92 (k * 10 + p)) j) k) nn = sc (gwo (gV vis xs ys hs zs be nb sl n (1 <<< (nI n &&& 31) - 1) (a * 64 + j)) k) nn := sc_cong (fun i p hi hp => by
                              unfold gwo gV
                              rw [show (a * 64 + j) / 64 = a by omega, show (a * 64 + j) % 64 = j by omega]
                              by_cases cp : p < n
                              · have hbq := (q_92 j (by omega)).2 i p hi cp
                                simp only [hbq]
                              · simp [cp])
                            rw [e1]
                            congr 1
                            simp [lkW, hsw, c_53, show (a * 64 + j) / 64 = a by omega]
                          exact ih38 u_92 u_100.1 u_100.2.1 u_100.2.2.1 u_100.2.2.2 true (j + 1) (by omega) (by omega) (fun k hk => (q_100 k hk).trans (by rw [← Nat.add_assoc, fb_ct_succ]; exact congrArg nI (congrArg _ (hcl k hk)))) (fun _ b hb => (q_92 b hb).2) _ _ hP hD hS _ (lv_sub hl [0, 1, 2, 3] rfl)
              exact loop_38 _ lk1 m1 rw1 ow1 la1 false 0 (Nat.lt_succ_self _) (Nat.zero_le _) (hl1) (fun h => by cases h) _ _ hP hD hS _ (lv_sub hl [0, 1, 2, 3] rfl)
        exact loop_28 _ lk v2 rw ow la0 0 (Nat.lt_succ_self _) (Nat.zero_le _) (fun k hk => by rw [hz0 k (by omega)]; rfl) _ _ hP hD hS _ (lv_sub hl [0, 1] rfl)
      · have c_10 : ¬ nn ≤ i0 := fun hne => c_10 ((c_le (a := nn) (b := i0) rfl rfl (by omega) (by omega)).mpr hne)
        refine lv_aload_n hx hb dX6_countLacking_13 rfl (lv_at hl 1 rfl) ?_
        refine va_get (D := G.1) (ci := 6) (v := .ref (q 9)) (C := RX6) (T := TX6) (N := 10) hx hb hts hin6 hown hK.1 hP 0 rfl rfl 9 (by decide) f26 (fun _ h9 => h9) rfl dX6_countLacking_14 ?_
        refine lv_iload_n hx hb dX6_countLacking_17 rfl (lv_at hl 0 rfl) ?_
        refine lv_iconst (v := 0) hx hb dX6_countLacking_18 (by decide) ?_
        refine as_i hx hb hK.1 hP hD hS 15 0 rfl rfl (j := i0) (by omega) (Nat.le_of_ble_eq_true rfl) dX6_countLacking_19 (fun H locs hP hD hS => ?_)
        have hP : va_P G.1 vwCl [oB h 6 (oF6 v q), aI G (q 3) 4096 sco, aJ G (q 8) 80 lk, oB (q 0) 1 (oF1 v1 q1), aI G (q1 0) 10 xs, aI G (q1 1) 10 ys, aI G (q1 2) 10 hs, aZ G (q1 8) 64 pk, aI G (q1 9) 64 vis, oB (q 1) 3 (oF3 v3 q3), aI G (q3 0) 8 bs, aI G (q3 1) 8 zs, oB (q 2) 2 (oF2 v2 q2), aI G (q2 0) 8 rw, aI G (q2 1) 10 ow, aI G (q 9) 8 (upd la0 i0 0)] H := hP
        have hD : va_D A [oB h 6 (oF6 v q), aI G (q 3) 4096 sco, aJ G (q 8) 80 lk, oB (q 0) 1 (oF1 v1 q1), aI G (q1 0) 10 xs, aI G (q1 1) 10 ys, aI G (q1 2) 10 hs, aZ G (q1 8) 64 pk, aI G (q1 9) 64 vis, oB (q 1) 3 (oF3 v3 q3), aI G (q3 0) 8 bs, aI G (q3 1) 8 zs, oB (q 2) 2 (oF2 v2 q2), aI G (q2 0) 8 rw, aI G (q2 1) 10 ow, aI G (q 9) 8 (upd la0 i0 0)] := hD
        refine lv_iinc (v := nI (i0 + 1)) (lv' := [(1, .int (nI (i0 + 1))), (0, .ref h)]) hx hb dX6_countLacking_20 hl (k := 0) rfl (inc_nI _ 1) (by decide) rfl (fun ls hl => ?_)
        refine lv_goto (tgt := 2) hx hb dX6_countLacking_23 (by decide) ?_
        exact ih2 (upd la0 i0 0) (i0 + 1) (by omega) (by omega) (fun i h => if e : i = i0 then by rw [e, pk_us] else by rw [pk_un e]; exact hz0 i (by omega)) _ _ hP hD hS _ (lv_sub hl [0, 1] rfl)
  exact loop_2 _ la 0 (Nat.lt_succ_self _) (Nat.zero_le _) (fun i h => absurd h (Nat.not_lt_zero i)) _ _ hP hD hS _ (lv_sub hl [0, 1] rfl)

abbrev rX6_oddNotch : Room := { frames := 15, cells := 0, slots := 0, locals := 359 }
set_option maxHeartbeats 4000000 in
set_option maxRecDepth 100000 in
theorem c_X6_oddNotch (l : Launch) (G : kG) (h : Nat) (v : Nat → Int32) (q : Nat → Nat) (sco : Nat → Int32) (lk : Nat → Int64) (v1 : Nat → Int32) (q1 : Nat → Nat) (xs : Nat → Int32) (ys : Nat → Int32) (hs : Nat → Int32) (pk : Nat → Int32) (vis : Nat → Int32) (v3 : Nat → Int32) (q3 : Nat → Nat) (bs : Nat → Int32) (zs : Nat → Int32) (v2 : Nat → Int32) (q2 : Nat → Nat) (rw : Nat → Int32) (ow : Nat → Int32) (be : Nat → Nat → Nat) (nb : Nat → Nat) (n : Nat) (nn : Nat) (sl : Nat) (la : Nat → Int32) (hn1 : v1 3 = nI n) (hn : n ≤ 10) (hsl : v1 7 = nI sl) (hsl3 : sl ≤ 3) (hn3 : v3 2 = nI nn) (hnn : nn ≤ 8) (hN : ∀ k, k < nn → bs k = nI (nb k) ∧ nb k < 64) (hB : ∀ pt, pt < 64 → pk pt = 0 → ∀ p, p < n → gbear (gx xs pt p) (gy ys pt p) = nI (be pt p) ∧ be pt p < 64) (hkn : v 4 = 0 ∨ (v 4 = 1 ∧ KVs (sV vis pk xs ys hs zs be nb sl n nn (1 <<< (nI n &&& 31) - 1)) nn 4096 v sco)) : Ci l G yX6_oddNotch wsX6_oddNotch rX6_oddNotch [.ref h] [oB h 6 (oF6 v q), aI G (q 3) 4096 sco, aJ G (q 8) 80 lk, oB (q 0) 1 (oF1 v1 q1), aI G (q1 0) 10 xs, aI G (q1 1) 10 ys, aI G (q1 2) 10 hs, aZ G (q1 8) 64 pk, aI G (q1 9) 64 vis, oB (q 1) 3 (oF3 v3 q3), aI G (q3 0) 8 bs, aI G (q3 1) 8 zs, oB (q 2) 2 (oF2 v2 q2), aI G (q2 0) 8 rw, aI G (q2 1) 10 ow, aI G (q 9) 8 la] (fun r (u : (Nat → Int32) × (Nat → Int32) × (Nat → Int64) × (Nat → Int32) × (Nat → Int32) × (Nat → Int32) × (Nat → Int32)) => ((nn = 0 ∧ r = -9) ∨ ∃ b, b < nn ∧ r = nI b ∧ ∀ k, k < nn → fb_ct (lkW vis pk xs ys hs zs be nb sl n nn (1 <<< (nI n &&& 31) - 1) k) 4096 ≤ fb_ct (lkW vis pk xs ys hs zs be nb sl n nn (1 <<< (nI n &&& 31) - 1) b) 4096 ∧ (k < b → fb_ct (lkW vis pk xs ys hs zs be nb sl n nn (1 <<< (nI n &&& 31) - 1) k) 4096 < fb_ct (lkW vis pk xs ys hs zs be nb sl n nn (1 <<< (nI n &&& 31) - 1) b) 4096)) ∧ u.1 4 = 1 ∧ KVs (sV vis pk xs ys hs zs be nb sl n nn (1 <<< (nI n &&& 31) - 1)) nn 4096 u.1 u.2.1) (fun u => [oB h 6 (oF6 u.1 q), aI G (q 3) 4096 u.2.1, aJ G (q 8) 80 u.2.2.1, oB (q 0) 1 (oF1 v1 q1), aI G (q1 0) 10 xs, aI G (q1 1) 10 ys, aI G (q1 2) 10 hs, aZ G (q1 8) 64 pk, aI G (q1 9) 64 vis, oB (q 1) 3 (oF3 v3 q3), aI G (q3 0) 8 bs, aI G (q3 1) 8 zs, oB (q 2) 2 (oF2 u.2.2.2.1 q2), aI G (q2 0) 8 u.2.2.2.2.1, aI G (q2 1) 10 u.2.2.2.2.2.1, aI G (q 9) 8 u.2.2.2.2.2.2]) := by
  refine Ci.of (cc := cX6_oddNotch) (maxL := 3) (by decide) rfl (Nat.le_of_ble_eq_true rfl) ?_
  intro pM eM sM mM bM tM cM Q A hx hb hts hown hml hA hK hP hD hS hret ls hl
  have hown : sM.vm.findClass RX6 = some mM.cls := hown
  have hl : lv_has ls 3 [(0, .ref h)] := hl
  have hin3 : ∀ w ∈ u_ws RX3 TX3 3, w ∈ wsX6_oddNotch := by decide +kernel
  have hin6 : ∀ w ∈ u_ws RX6 TX6 10, w ∈ wsX6_oddNotch := by decide +kernel
  have f33 := hts (.fieldLink RX6 33 "HorizonPeaks$Views" "notches" "LHorizonPeaks$Notches;") (by decide +kernel)
  have f53 := hts (.fieldLink RX6 53 "HorizonPeaks$Notches" "size" "I") (by decide +kernel)
  have f26 := hts (.fieldLink RX6 26 "HorizonPeaks$Views" "lacking" "[I") (by decide +kernel)
  have hLl := fun k => fb_ct_le (lkW vis pk xs ys hs zs be nb sl n nn (1 <<< (nI n &&& 31) - 1) k) 4096
  refine lv_aload_n hx hb dX6_oddNotch_0 rfl (lv_at hl 0 rfl) ?_
  refine ca_v (wr := [aI G (q 9) 8 la]) (va_runV (As := []) (rest := []) ⟨hx, hb, hml, hown, hts⟩ ((c_X6_know l G h v q sco lk v1 q1 xs ys hs pk vis v3 q3 bs zs v2 q2 rw ow be nb n nn sl (hn1) (hn) (hsl) (hsl3) (hn3) (hnn) (hN) (hB) (hkn)) _) (cwV 0 hts gX6_oddNotch_X6_know rfl rfl rfl (by decide +kernel) ⟨Nat.le_of_ble_eq_true rfl, Nat.le_of_ble_eq_true rfl⟩) (cPre_V hK hP hD [0, 1, 2, 3, 4, 5, 6, 7, 8, 9, 10, 11, 12, 13, 14] (by decide) rfl 0 6 rfl rfl) rfl rfl hl.1 rfl (lv_room (Nat.le_of_ble_eq_true rfl)) dX6_oddNotch_1 ⟨Nat.zero_le _, Nat.zero_le _⟩) hP hD hS hA [0, 1, 2, 3, 4, 5, 6, 7, 8, 9, 10, 11, 12, 13, 14] [15] rfl rfl (by decide) (by decide) [1, 2, 3, 4, 5, 6, 7, 8, 9, 10, 11, 12, 13, 14, 15, 0] (fun u_1 => [oB h 6 (oF6 u_1.1 q), aI G (q 3) 4096 u_1.2.1, aJ G (q 8) 80 u_1.2.2.1, oB (q 0) 1 (oF1 v1 q1), aI G (q1 0) 10 xs, aI G (q1 1) 10 ys, aI G (q1 2) 10 hs, aZ G (q1 8) 64 pk, aI G (q1 9) 64 vis, oB (q 1) 3 (oF3 v3 q3), aI G (q3 0) 8 bs, aI G (q3 1) 8 zs, oB (q 2) 2 (oF2 u_1.2.2.2.1 q2), aI G (q2 0) 8 u_1.2.2.2.2.1, aI G (q2 1) 10 u_1.2.2.2.2.2, aI G (q 9) 8 la]) (by decide) (fun _ => rfl) (fun u_1 H locs q_1 hP hD hS => ?_)
  have q_1 : u_1.1 4 = 1 ∧ KVs (sV vis pk xs ys hs zs be nb sl n nn (1 <<< (nI n &&& 31) - 1)) nn 4096 u_1.1 u_1.2.1 := q_1
  have hP : va_P G.1 vwCl [oB h 6 (oF6 u_1.1 q), aI G (q 3) 4096 u_1.2.1, aJ G (q 8) 80 u_1.2.2.1, oB (q 0) 1 (oF1 v1 q1), aI G (q1 0) 10 xs, aI G (q1 1) 10 ys, aI G (q1 2) 10 hs, aZ G (q1 8) 64 pk, aI G (q1 9) 64 vis, oB (q 1) 3 (oF3 v3 q3), aI G (q3 0) 8 bs, aI G (q3 1) 8 zs, oB (q 2) 2 (oF2 u_1.2.2.2.1 q2), aI G (q2 0) 8 u_1.2.2.2.2.1, aI G (q2 1) 10 u_1.2.2.2.2.2, aI G (q 9) 8 la] H := hP
  have hD : va_D A [oB h 6 (oF6 u_1.1 q), aI G (q 3) 4096 u_1.2.1, aJ G (q 8) 80 u_1.2.2.1, oB (q 0) 1 (oF1 v1 q1), aI G (q1 0) 10 xs, aI G (q1 1) 10 ys, aI G (q1 2) 10 hs, aZ G (q1 8) 64 pk, aI G (q1 9) 64 vis, oB (q 1) 3 (oF3 v3 q3), aI G (q3 0) 8 bs, aI G (q3 1) 8 zs, oB (q 2) 2 (oF2 u_1.2.2.2.1 q2), aI G (q2 0) 8 u_1.2.2.2.2.1, aI G (q2 1) 10 u_1.2.2.2.2.2, aI G (q 9) 8 la] := hD
  refine lv_aload_n hx hb dX6_oddNotch_4 rfl (lv_at hl 0 rfl) ?_
  refine ca_v (wr := []) (va_runV (As := []) (rest := []) ⟨hx, hb, hml, hown, hts⟩ ((c_X6_countLacking l G h u_1.1 q u_1.2.1 u_1.2.2.1 v1 q1 xs ys hs pk vis v3 q3 bs zs u_1.2.2.2.1 q2 u_1.2.2.2.2.1 u_1.2.2.2.2.2 be nb n nn sl la (hn1) (hn) (hsl) (hsl3) (hn3) (hnn) (hN) (hB) (q_1.2)) _) (cwV 0 hts gX6_oddNotch_X6_countLacking rfl rfl rfl (by decide +kernel) ⟨Nat.le_of_ble_eq_true rfl, Nat.le_of_ble_eq_true rfl⟩) (cPre_V hK hP hD [0, 1, 2, 3, 4, 5, 6, 7, 8, 9, 10, 11, 12, 13, 14, 15] (by decide) rfl 0 6 rfl rfl) rfl rfl hl.1 rfl (lv_room (Nat.le_of_ble_eq_true rfl)) dX6_oddNotch_5 ⟨Nat.zero_le _, Nat.zero_le _⟩) hP hD hS hA [0, 1, 2, 3, 4, 5, 6, 7, 8, 9, 10, 11, 12, 13, 14, 15] [] rfl rfl (by decide) (by decide) [0, 1, 2, 3, 4, 5, 6, 7, 8, 9, 10, 11, 12, 13, 14, 15] (fun u_5 => [oB h 6 (oF6 u_1.1 q), aI G (q 3) 4096 u_1.2.1, aJ G (q 8) 80 u_5.1, oB (q 0) 1 (oF1 v1 q1), aI G (q1 0) 10 xs, aI G (q1 1) 10 ys, aI G (q1 2) 10 hs, aZ G (q1 8) 64 pk, aI G (q1 9) 64 vis, oB (q 1) 3 (oF3 v3 q3), aI G (q3 0) 8 bs, aI G (q3 1) 8 zs, oB (q 2) 2 (oF2 u_5.2.1 q2), aI G (q2 0) 8 u_5.2.2.1, aI G (q2 1) 10 u_5.2.2.2.1, aI G (q 9) 8 u_5.2.2.2.2]) (by decide) (fun _ => rfl) (fun u_5 H locs q_5 hP hD hS => ?_)
  have q_5 : ∀ k, k < nn → u_5.2.2.2.2 k = nI (fb_ct (lkW vis pk xs ys hs zs be nb sl n nn (1 <<< (nI n &&& 31) - 1) k) 4096) := q_5
  have hP : va_P G.1 vwCl [oB h 6 (oF6 u_1.1 q), aI G (q 3) 4096 u_1.2.1, aJ G (q 8) 80 u_5.1, oB (q 0) 1 (oF1 v1 q1), aI G (q1 0) 10 xs, aI G (q1 1) 10 ys, aI G (q1 2) 10 hs, aZ G (q1 8) 64 pk, aI G (q1 9) 64 vis, oB (q 1) 3 (oF3 v3 q3), aI G (q3 0) 8 bs, aI G (q3 1) 8 zs, oB (q 2) 2 (oF2 u_5.2.1 q2), aI G (q2 0) 8 u_5.2.2.1, aI G (q2 1) 10 u_5.2.2.2.1, aI G (q 9) 8 u_5.2.2.2.2] H := hP
  have hD : va_D A [oB h 6 (oF6 u_1.1 q), aI G (q 3) 4096 u_1.2.1, aJ G (q 8) 80 u_5.1, oB (q 0) 1 (oF1 v1 q1), aI G (q1 0) 10 xs, aI G (q1 1) 10 ys, aI G (q1 2) 10 hs, aZ G (q1 8) 64 pk, aI G (q1 9) 64 vis, oB (q 1) 3 (oF3 v3 q3), aI G (q3 0) 8 bs, aI G (q3 1) 8 zs, oB (q 2) 2 (oF2 u_5.2.1 q2), aI G (q2 0) 8 u_5.2.2.1, aI G (q2 1) 10 u_5.2.2.2.1, aI G (q 9) 8 u_5.2.2.2.2] := hD
  refine lv_bipush (v := -9) hx hb dX6_oddNotch_8 (by decide) ?_
  refine lv_istore_n (lv' := [(1, .int (-9)), (0, .ref h)]) hx hb dX6_oddNotch_10 rfl hl (by decide) rfl (fun ls hl => ?_)
  refine lv_iconst (v := 0) hx hb dX6_oddNotch_11 (by decide) ?_
  refine lv_istore_n (lv' := [(2, .int 0), (1, .int (-9)), (0, .ref h)]) hx hb dX6_oddNotch_12 rfl hl (by decide) rfl (fun ls hl => ?_)
  have loop_13 : ∀ (nF : Nat) (o : Int32) (k : Nat), (nn - k) < nF → (k ≤ nn) → ((k = 0 ∧ o = -9) ∨ ∃ b, b < k ∧ o = nI b ∧ ∀ i, i < k → fb_ct (lkW vis pk xs ys hs zs be nb sl n nn (1 <<< (nI n &&& 31) - 1) i) 4096 ≤ fb_ct (lkW vis pk xs ys hs zs be nb sl n nn (1 <<< (nI n &&& 31) - 1) b) 4096 ∧ (i < b → fb_ct (lkW vis pk xs ys hs zs be nb sl n nn (1 <<< (nI n &&& 31) - 1) i) 4096 < fb_ct (lkW vis pk xs ys hs zs be nb sl n nn (1 <<< (nI n &&& 31) - 1) b) 4096)) → ∀ (H : Heap) (locs : List Loc), va_P G.1 vwCl [oB h 6 (oF6 u_1.1 q), aI G (q 3) 4096 u_1.2.1, aJ G (q 8) 80 u_5.1, oB (q 0) 1 (oF1 v1 q1), aI G (q1 0) 10 xs, aI G (q1 1) 10 ys, aI G (q1 2) 10 hs, aZ G (q1 8) 64 pk, aI G (q1 9) 64 vis, oB (q 1) 3 (oF3 v3 q3), aI G (q3 0) 8 bs, aI G (q3 1) 8 zs, oB (q 2) 2 (oF2 u_5.2.1 q2), aI G (q2 0) 8 u_5.2.2.1, aI G (q2 1) 10 u_5.2.2.2.1, aI G (q 9) 8 u_5.2.2.2.2] H → va_D A [oB h 6 (oF6 u_1.1 q), aI G (q 3) 4096 u_1.2.1, aJ G (q 8) 80 u_5.1, oB (q 0) 1 (oF1 v1 q1), aI G (q1 0) 10 xs, aI G (q1 1) 10 ys, aI G (q1 2) 10 hs, aZ G (q1 8) 64 pk, aI G (q1 9) 64 vis, oB (q 1) 3 (oF3 v3 q3), aI G (q3 0) 8 bs, aI G (q3 1) 8 zs, oB (q 2) 2 (oF2 u_5.2.1 q2), aI G (q2 0) 8 u_5.2.2.1, aI G (q2 1) 10 u_5.2.2.2.1, aI G (q 9) 8 u_5.2.2.2.2] → va_S A sM.heap H locs → ∀ (ls : Array Slot), lv_has ls 3 [(2, .int (nI k)), (1, .int o), (0, .ref h)] → W pM l eM rX6_oddNotch sM mM [.ref h].toArray bM tM cM H locs 0 0 Q (F0 mM 13 ls []) := by
    intro nF
    induction nF with
    | zero => intro o k hmF; exact absurd hmF (Nat.not_lt_zero _)
    | succ nF ih13 =>
      intro o k hmF hk ho H locs hP hD hS ls hl
      refine lv_iload_n hx hb dX6_oddNotch_13 rfl (lv_at hl 0 rfl) ?_
      refine lv_aload_n hx hb dX6_oddNotch_14 rfl (lv_at hl 2 rfl) ?_
      refine va_get (D := G.1) (ci := 6) (v := .ref (q 1)) (C := RX6) (T := TX6) (N := 10) hx hb hts hin6 hown hK.1 hP 0 rfl rfl 1 (by decide) f33 (fun _ h9 => h9) rfl dX6_oddNotch_15 ?_
      refine va_get (D := G.1) (ci := 3) (v := .int (v3 2)) (C := RX3) (T := TX3) (N := 3) hx hb hts hin3 hown hK.1 hP 9 rfl rfl 2 (by decide) f53 (fun _ h9 => h9) rfl dX6_oddNotch_18 ?_
      refine top_i (y := nI nn) (hn3) ?_
      refine lv_icmp_ge (tgt := 53) hx hb dX6_oddNotch_21 (by decide) (fun c_21 => ?_) (fun c_21 => ?_)
      · have c_21 : nn ≤ k := (c_le (a := nn) (b := k) rfl rfl (by omega) (by omega)).mp c_21
        refine lv_iload_n hx hb dX6_oddNotch_53 rfl (lv_at hl 1 rfl) ?_
        have hpost : ((nn = 0 ∧ o = -9) ∨ ∃ b, b < nn ∧ o = nI b ∧ ∀ k, k < nn → fb_ct (lkW vis pk xs ys hs zs be nb sl n nn (1 <<< (nI n &&& 31) - 1) k) 4096 ≤ fb_ct (lkW vis pk xs ys hs zs be nb sl n nn (1 <<< (nI n &&& 31) - 1) b) 4096 ∧ (k < b → fb_ct (lkW vis pk xs ys hs zs be nb sl n nn (1 <<< (nI n &&& 31) - 1) k) 4096 < fb_ct (lkW vis pk xs ys hs zs be nb sl n nn (1 <<< (nI n &&& 31) - 1) b) 4096)) ∧ (u_1.1, u_1.2.1, u_5.1, u_5.2.1, u_5.2.2.1, u_5.2.2.2.1, u_5.2.2.2.2).1 4 = 1 ∧ KVs (sV vis pk xs ys hs zs be nb sl n nn (1 <<< (nI n &&& 31) - 1)) nn 4096 (u_1.1, u_1.2.1, u_5.1, u_5.2.1, u_5.2.2.1, u_5.2.2.2.1, u_5.2.2.2.2).1 (u_1.1, u_1.2.1, u_5.1, u_5.2.1, u_5.2.2.1, u_5.2.2.2.1, u_5.2.2.2.2).2.1 := by
          refine ⟨?_, q_1⟩
          have e : k = nn := by omega
          subst e
          exact ho
        exact hret _ (u_1.1, u_1.2.1, u_5.1, u_5.2.1, u_5.2.2.1, u_5.2.2.2.1, u_5.2.2.2.2) _ _ _ _ (hpost) (rfl) hP hD hS dX6_oddNotch_54
      · have c_21 : ¬ nn ≤ k := fun hne => c_21 ((c_le (a := nn) (b := k) rfl rfl (by omega) (by omega)).mpr hne)
        refine lv_iload_n hx hb dX6_oddNotch_24 rfl (lv_at hl 1 rfl) ?_
        refine lv_bipush (v := -9) hx hb dX6_oddNotch_25 (by decide) ?_
        refine lv_icmp_eq (tgt := 45) hx hb dX6_oddNotch_27 (by decide) (fun c_27 => ?_) (fun c_27 => ?_)
        · have ho0 : k = 0 ∧ o = -9 := ho.resolve_right (fun ⟨b, hb1, hb2, _⟩ => by rw [hb2, m9_ne (by omega)] at c_27; exact c_27)
          refine lv_iload_n hx hb dX6_oddNotch_45 rfl (lv_at hl 0 rfl) ?_
          refine lv_istore_n (lv' := [(1, .int (nI k)), (2, .int (nI k)), (0, .ref h)]) hx hb dX6_oddNotch_46 rfl hl (by decide) rfl (fun ls hl => ?_)
          refine lv_iinc (v := nI (k + 1)) (lv' := [(2, .int (nI (k + 1))), (1, .int (nI k)), (0, .ref h)]) hx hb dX6_oddNotch_47 hl (k := 1) rfl (inc_nI _ 1) (by decide) rfl (fun ls hl => ?_)
          refine lv_goto (tgt := 13) hx hb dX6_oddNotch_50 (by decide) ?_
          exact ih13 (nI k) (k + 1) (by omega) (by omega) (Or.inr ⟨0, by omega, by rw [ho0.1], fun i hi => ⟨by rw [show i = 0 by omega]; exact Nat.le_refl _, fun h => absurd h (Nat.not_lt_zero i)⟩⟩) _ _ hP hD hS _ (lv_sub hl [0, 1, 2] rfl)
        · obtain ⟨b, hbk, rfl, hbm⟩ := ho.resolve_left (fun hz => c_27 hz.2)
          have hL1 := hLl k
          have hL2 := hLl b
          refine lv_aload_n hx hb dX6_oddNotch_30 rfl (lv_at hl 2 rfl) ?_
          refine va_get (D := G.1) (ci := 6) (v := .ref (q 9)) (C := RX6) (T := TX6) (N := 10) hx hb hts hin6 hown hK.1 hP 0 rfl rfl 9 (by decide) f26 (fun _ h9 => h9) rfl dX6_oddNotch_31 ?_
          refine lv_iload_n hx hb dX6_oddNotch_34 rfl (lv_at hl 0 rfl) ?_
          refine al_i hx hb hK.1 hP 15 0 rfl rfl (j := k) (by omega) (Nat.le_of_ble_eq_true rfl) dX6_oddNotch_35 ?_
          refine top_i (y := nI (fb_ct (lkW vis pk xs ys hs zs be nb sl n nn (1 <<< (nI n &&& 31) - 1) k) 4096)) (q_5 k (by omega)) ?_
          refine lv_aload_n hx hb dX6_oddNotch_36 rfl (lv_at hl 2 rfl) ?_
          refine va_get (D := G.1) (ci := 6) (v := .ref (q 9)) (C := RX6) (T := TX6) (N := 10) hx hb hts hin6 hown hK.1 hP 0 rfl rfl 9 (by decide) f26 (fun _ h9 => h9) rfl dX6_oddNotch_37 ?_
          refine lv_iload_n hx hb dX6_oddNotch_40 rfl (lv_at hl 1 rfl) ?_
          refine al_i hx hb hK.1 hP 15 0 rfl rfl (j := b) (by omega) (Nat.le_of_ble_eq_true rfl) dX6_oddNotch_41 ?_
          refine top_i (y := nI (fb_ct (lkW vis pk xs ys hs zs be nb sl n nn (1 <<< (nI n &&& 31) - 1) b) 4096)) (q_5 b (by omega)) ?_
          refine lv_icmp_le (tgt := 47) hx hb dX6_oddNotch_42 (by decide) (fun c_42 => ?_) (fun c_42 => ?_)
          · have c_42 : (fb_ct (lkW vis pk xs ys hs zs be nb sl n nn (1 <<< (nI n &&& 31) - 1) k) 4096) ≤ (fb_ct (lkW vis pk xs ys hs zs be nb sl n nn (1 <<< (nI n &&& 31) - 1) b) 4096) := (c_le (a := fb_ct (lkW vis pk xs ys hs zs be nb sl n nn (1 <<< (nI n &&& 31) - 1) k) 4096) (b := fb_ct (lkW vis pk xs ys hs zs be nb sl n nn (1 <<< (nI n &&& 31) - 1) b) 4096) rfl rfl (by omega) (by omega)).mp c_42
            refine lv_iinc (v := nI (k + 1)) (lv' := [(2, .int (nI (k + 1))), (1, .int (nI b)), (0, .ref h)]) hx hb dX6_oddNotch_47 hl (k := 0) rfl (inc_nI _ 1) (by decide) rfl (fun ls hl => ?_)
            refine lv_goto (tgt := 13) hx hb dX6_oddNotch_50 (by decide) ?_
            exact ih13 (nI b) (k + 1) (by omega) (by omega) (Or.inr ⟨b, by omega, rfl, fun i hi => (Nat.lt_succ_iff_lt_or_eq.mp hi).elim (fun c => hbm i c) (fun c => by rw [c]; exact ⟨by omega, fun h => by omega⟩)⟩) _ _ hP hD hS _ (lv_sub hl [0, 1, 2] rfl)
          · have c_42 : ¬ (fb_ct (lkW vis pk xs ys hs zs be nb sl n nn (1 <<< (nI n &&& 31) - 1) k) 4096) ≤ (fb_ct (lkW vis pk xs ys hs zs be nb sl n nn (1 <<< (nI n &&& 31) - 1) b) 4096) := fun hne => c_42 ((c_le (a := fb_ct (lkW vis pk xs ys hs zs be nb sl n nn (1 <<< (nI n &&& 31) - 1) k) 4096) (b := fb_ct (lkW vis pk xs ys hs zs be nb sl n nn (1 <<< (nI n &&& 31) - 1) b) 4096) rfl rfl (by omega) (by omega)).mpr hne)
            refine lv_iload_n hx hb dX6_oddNotch_45 rfl (lv_at hl 0 rfl) ?_
            refine lv_istore_n (lv' := [(1, .int (nI k)), (2, .int (nI k)), (0, .ref h)]) hx hb dX6_oddNotch_46 rfl hl (by decide) rfl (fun ls hl => ?_)
            refine lv_iinc (v := nI (k + 1)) (lv' := [(2, .int (nI (k + 1))), (1, .int (nI k)), (0, .ref h)]) hx hb dX6_oddNotch_47 hl (k := 1) rfl (inc_nI _ 1) (by decide) rfl (fun ls hl => ?_)
            refine lv_goto (tgt := 13) hx hb dX6_oddNotch_50 (by decide) ?_
            exact ih13 (nI k) (k + 1) (by omega) (by omega) (Or.inr ⟨k, by omega, rfl, fun i hi => (Nat.lt_succ_iff_lt_or_eq.mp hi).elim (fun c => ⟨by have := (hbm i c).1; omega, fun _ => by have := (hbm i c).1; omega⟩) (fun c => by rw [c]; exact ⟨Nat.le_refl _, fun h => absurd h (Nat.lt_irrefl _)⟩)⟩) _ _ hP hD hS _ (lv_sub hl [0, 1, 2] rfl)
  exact loop_13 _ (-9) 0 (Nat.lt_succ_self _) (Nat.zero_le _) (Or.inl ⟨rfl, rfl⟩) _ _ hP hD hS _ (lv_sub hl [0, 1, 2] rfl)
