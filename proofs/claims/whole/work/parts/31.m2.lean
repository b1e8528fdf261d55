def mtok (tx : Nat → Int32) (len i : Nat) : Int32 := if len ≤ tsk tx len i then -1 else if pFig (tx (tsk tx len i)) = true then (if tkn tx len (tsk tx len i) = -3 then 2000 else nI (1000 + tkV tx len i)) else tx (tsk tx len i)
theorem fig_val2 {x : Int32} {a : Nat} (h : pFig x = true) : 10 * nI a + x - 48 = nI (a * 10 + dg x) := by
  obtain ⟨d, hd, rfl⟩ := pFig_of h
  rw [dg_of hd, show (10 : Int32) = nI 10 from rfl, show (48 : Int32) = nI 48 from rfl, pk_mul, nI_add, pk_sub (by omega)]
  congr 1
  omega
theorem dg_le {x : Int32} (h : pFig x = true) : dg x ≤ 9 := by
  obtain ⟨d, hd, rfl⟩ := pFig_of h
  rw [dg_of hd]; exact hd
theorem m1000 (a : Nat) : 1000 + nI a = nI (1000 + a) := nI_add 1000 a
theorem mt_num {tx : Nat → Int32} {len i : Nat} (hT : ∀ k, k < len → ∃ c : Nat, c ≤ 255 ∧ tx k = nI c) {lo hi : Nat} (hlo : lo < 2147483648) (hhi : hi ≤ 99) : pIn (mtok tx len i - 1000) (nI lo) (nI hi) = tN tx len i (nI lo) (nI hi) ∧ (tN tx len i (nI lo) (nI hi) = true → mtok tx len i - 1000 = nI (tkV tx len i)) := by
  have hV := tkV_le tx len i
  have key : ∀ z : Int, -2147480000 < z → z < 2147480000 → (z < 0 ∨ 99 < z) → (mtok tx len i - 1000).toInt = z → ¬ tkK tx len i = -2 → pIn (mtok tx len i - 1000) (nI lo) (nI hi) = tN tx len i (nI lo) (nI hi) ∧ (tN tx len i (nI lo) (nI hi) = true → mtok tx len i - 1000 = nI (tkV tx len i)) := by
    intro z z1 z2 z3 z4 z5
    have h2 : tN tx len i (nI lo) (nI hi) = false := by simp [tN, z5]
    rw [h2]
    refine ⟨?_, fun h => by cases h⟩
    have h3 : (mtok tx len i - 1000 < nI lo) ∨ (nI hi < mtok tx len i - 1000) := by
      rw [Int32.lt_iff_toInt_lt, Int32.lt_iff_toInt_lt, z4, nI_toInt hlo, nI_toInt (by omega)]
      omega
    rcases h3 with h3 | h3 <;> simp [pIn, h3]
  have sub1000 : ∀ c : Nat, c < 1000000 → (nI c - 1000).toInt = (c : Int) - 1000 := fun c hc => off_eq c 1000 (by omega) (by omega)
  by_cases h1 : len ≤ tsk tx len i
  · have e : mtok tx len i = -1 := by rw [mtok, if_pos h1]
    have k : tkK tx len i = -1 := by rw [tkK, if_pos h1]
    exact key (-1001) (by omega) (by omega) (by omega) (by rw [e]; decide) (by rw [k]; decide)
  · by_cases h2 : pFig (tx (tsk tx len i)) = true
    · have k : tkK tx len i = tkn tx len (tsk tx len i) := by rw [tkK, if_neg h1, if_pos h2]
      by_cases h3 : tkn tx len (tsk tx len i) = -3
      · have e : mtok tx len i = 2000 := by rw [mtok, if_neg h1, if_pos h2, if_pos h3]
        exact key 1000 (by omega) (by omega) (by omega) (by rw [e]; decide) (by rw [k, h3]; decide)
      · have e : mtok tx len i = nI (1000 + tkV tx len i) := by rw [mtok, if_neg h1, if_pos h2, if_neg h3]
        have e2 : mtok tx len i - 1000 = nI (tkV tx len i) := by
          rw [e, show (1000 : Int32) = nI 1000 from rfl, pk_sub (by omega), show 1000 + tkV tx len i - 1000 = tkV tx len i by omega]
        have k2 : tkK tx len i = -2 := by
          rw [k]
          unfold tkn at h3 ⊢
          split
          · rename_i hh; rw [if_pos hh] at h3; exact absurd rfl h3
          · rfl
        refine ⟨?_, fun _ => e2⟩
        rw [e2]
        simp [pIn, tN, k2]
    · have h2' := eq_false_of_ne_true h2
      have e : mtok tx len i = tx (tsk tx len i) := by rw [mtok, if_neg h1, if_neg h2]
      obtain ⟨c, hc, hcx⟩ := hT _ (show tsk tx len i < len by omega)
      have k : ¬ tkK tx len i = -2 := by
        rw [tkK, if_neg h1, if_neg h2, hcx]
        split
        · intro q
          have := congrArg Int32.toInt q
          rw [nI_toInt (by omega)] at this
          have h9 : (-2 : Int32).toInt = -2 := by decide
          omega
        · decide
      exact key ((c : Int) - 1000) (by omega) (by omega) (by omega) (by rw [e, hcx]; exact sub1000 c (by omega)) k
theorem mt_num0 {tx : Nat → Int32} {len i : Nat} : pIn (mtok tx len i - 1000) 0 (nI 0 - 1) = false ∧ tN tx len i 0 (nI 0 - 1) = false := by
  have h : ∀ x : Int32, pIn x 0 (nI 0 - 1) = false := by
    intro x
    rw [pIn_has (by omega), pHas]
    by_cases c : x < 0
    · simp [c]
    · have : nI 0 ≤ x := le_of_nlt c
      simp [this]
  refine ⟨h _, ?_⟩
  have h2 := h (nI (tkV tx len i))
  simp only [pIn] at h2
  simp [tN, h2]
abbrev rX8_takes : Room := { frames := 2, cells := 0, slots := 0, locals := 43 }
set_option maxHeartbeats 4000000 in
set_option maxRecDepth 100000 in
theorem c_X8_takes (l : Launch) (G : kG) (h : Nat) (v : Nat → Int32) (q : Nat → Nat) (tx : Nat → Int32) (len : Nat) (i : Nat) (hl22 : v 22 = nI len) (hlen : len ≤ 140) (hn : v 24 = nI i) (hi : i ≤ len) : Cv l G yX8_takes wsX8_takes rX8_takes [.ref h] [oB h 8 (oF8 v q), aI G (q 23) 140 tx] (fun (u : Nat → Int32) => u 24 = nI (tkE tx len i) ∧ u 25 = nI (tkS tx len i) ∧ u 26 = mtok tx len i ∧ (∀ k, ¬ k = 24 → ¬ k = 25 → ¬ k = 26 → u k = v k)) (fun u => [oB h 8 (oF8 u q), aI G (q 23) 140 tx]) 0 0 := by
  refine Cv.of (cc := cX8_takes) (maxL := 2) (by decide) rfl (Nat.le_of_ble_eq_true rfl) ?_
  intro pM eM sM mM bM tM cM Q A hx hb hts hown hml hnm hA hK hP hD hS hret ls hl
  have hown : sM.vm.findClass RX8 = some mM.cls := hown
  have hl : lv_has ls 2 [(0, .ref h)] := hl
  have hin8 : ∀ w ∈ u_ws RX8 TX8 44, w ∈ wsX8_takes := by decide +kernel
  have f112 := hts (.fieldLink RX8 112 "HorizonPeaksModel" "next" "I") (by decide +kernel)
  have f109 := hts (.fieldLink RX8 109 "HorizonPeaksModel" "letters" "I") (by decide +kernel)
  have f59 := hts (.fieldLink RX8 59 "HorizonPeaksModel" "text" "[I") (by decide +kernel)
  have f115 := hts (.fieldLink RX8 115 "HorizonPeaksModel" "begin" "I") (by decide +kernel)
  have f118 := hts (.fieldLink RX8 118 "HorizonPeaksModel" "token" "I") (by decide +kernel)
  have loop_0 : ∀ (nF : Nat) (w : Nat → Int32) (j : Nat), (len - j) < nF → (i ≤ j ∧ j ≤ len) → (tsk tx len j = tsk tx len i) → (w 24 = nI j) → (∀ k, ¬ k = 24 → w k = v k) → ∀ (H : Heap) (locs : List Loc), va_P G.1 vwCl [oB h 8 (oF8 w q), aI G (q 23) 140 tx] H → va_D A [oB h 8 (oF8 w q), aI G (q 23) 140 tx] → va_S A sM.heap H locs → ∀ (ls : Array Slot), lv_has ls 2 [(0, .ref h)] → W pM l eM rX8_takes sM mM [.ref h].toArray bM tM cM H locs 0 0 Q (F0 mM 0 ls []) := by
    intro nF
    induction nF with
    | zero => intro w j hmF; exact absurd hmF (Nat.not_lt_zero _)
    | succ nF ih0 =>
      intro w j hmF hj hj2 hw24 hw H locs hP hD hS ls hl
      refine lv_aload_n hx hb dX8_takes_0 rfl (lv_at hl 0 rfl) ?_
      refine va_get (D := G.1) (ci := 8) (v := .int (w 24)) (C := RX8) (T := TX8) (N := 44) hx hb hts hin8 hown hK.1 hP 0 rfl rfl 24 (by decide) f112 (fun _ h9 => h9) rfl dX8_takes_1 ?_
      refine top_i (y := nI j) (hw24) ?_
      refine lv_aload_n hx hb dX8_takes_4 rfl (lv_at hl 0 rfl) ?_
      refine va_get (D := G.1) (ci := 8) (v := .int (w 22)) (C := RX8) (T := TX8) (N := 44) hx hb hts hin8 hown hK.1 hP 0 rfl rfl 22 (by decide) f109 (fun _ h9 => h9) rfl dX8_takes_5 ?_
      refine top_i (y := nI len) ((hw 22 (by decide)).trans hl22) ?_
      refine lv_icmp_ge (tgt := 38) hx hb dX8_takes_8 (by decide) (fun c_8 => ?_) (fun c_8 => ?_)
      · have c_8 : len ≤ j := (c_le (a := len) (b := j) rfl rfl (by omega) (by omega)).mp c_8
        refine lv_aload_n hx hb dX8_takes_38 rfl (lv_at hl 0 rfl) ?_
        refine lv_aload_n hx hb dX8_takes_39 rfl (lv_at hl 0 rfl) ?_
        refine va_get (D := G.1) (ci := 8) (v := .int (w 24)) (C := RX8) (T := TX8) (N := 44) hx hb hts hin8 hown hK.1 hP 0 rfl rfl 24 (by decide) f112 (fun _ h9 => h9) rfl dX8_takes_40 ?_
        refine top_i (y := nI j) (hw24) ?_
        refine va_put (D := G.1) (ci := 8) (v := .int (nI j)) (ty := .int) (C := RX8) (T := TX8) (N := 44) hx hb hts hin8 tyX8 tyX8_ok nmX8 hown hK.1 hP hD hS 0 rfl rfl 25 (by decide) f115 (fun _ h9 => h9) rfl (by decide +kernel) rfl rfl (Nat.le_of_ble_eq_true rfl) dX8_takes_43 (fun H locs hP hD hS => ?_)
        have hP : va_P G.1 vwCl [oB h 8 (oF8 (upd w 25 (nI j)) q), aI G (q 23) 140 tx] H := hP
        have hD : va_D A [oB h 8 (oF8 (upd w 25 (nI j)) q), aI G (q 23) 140 tx] := hD
        refine lv_aload_n hx hb dX8_takes_46 rfl (lv_at hl 0 rfl) ?_
        refine lv_aload_n hx hb dX8_takes_47 rfl (lv_at hl 0 rfl) ?_
        refine va_get (D := G.1) (ci := 8) (v := .int (w 24)) (C := RX8) (T := TX8) (N := 44) hx hb hts hin8 hown hK.1 hP 0 rfl rfl 24 (by decide) f112 (fun _ h9 => h9) rfl dX8_takes_48 ?_
        refine top_i (y := nI j) (hw24) ?_
        refine lv_aload_n hx hb dX8_takes_51 rfl (lv_at hl 0 rfl) ?_
        refine va_get (D := G.1) (ci := 8) (v := .int (w 22)) (C := RX8) (T := TX8) (N := 44) hx hb hts hin8 hown hK.1 hP 0 rfl rfl 22 (by decide) f109 (fun _ h9 => h9) rfl dX8_takes_52 ?_
        refine top_i (y := nI len) ((hw 22 (by decide)).trans hl22) ?_
        refine lv_icmp_ge (tgt := 70) hx hb dX8_takes_55 (by decide) (fun c_55 => ?_) (fun c_55 => ?_)
        · have c_55 : len ≤ j := (c_le (a := len) (b := j) rfl rfl (by omega) (by omega)).mp c_55
          refine lv_iconst (v := -1) hx hb dX8_takes_70 (by decide) ?_
          refine va_put (D := G.1) (ci := 8) (v := .int (-1)) (ty := .int) (C := RX8) (T := TX8) (N := 44) hx hb hts hin8 tyX8 tyX8_ok nmX8 hown hK.1 hP hD hS 0 rfl rfl 26 (by decide) f118 (fun _ h9 => h9) rfl (by decide +kernel) rfl rfl (Nat.le_of_ble_eq_true rfl) dX8_takes_71 (fun H locs hP hD hS => ?_)
          have hP : va_P G.1 vwCl [oB h 8 (oF8 (upd (upd w 25 (nI j)) 26 (-1)) q), aI G (q 23) 140 tx] H := hP
          have hD : va_D A [oB h 8 (oF8 (upd (upd w 25 (nI j)) 26 (-1)) q), aI G (q 23) 140 tx] := hD
          refine lv_aload_n hx hb dX8_takes_74 rfl (lv_at hl 0 rfl) ?_
          refine lv_aload_n hx hb dX8_takes_75 rfl (lv_at hl 0 rfl) ?_
          refine va_get (D := G.1) (ci := 8) (v := .int (w 24)) (C := RX8) (T := TX8) (N := 44) hx hb hts hin8 hown hK.1 hP 0 rfl rfl 24 (by decide) f112 (fun _ h9 => h9) rfl dX8_takes_76 ?_
          refine top_i (y := nI j) (hw24) ?_
          refine rd_i (va_runV (As := [.int (nI j)]) (rest := []) ⟨hx, hb, hml, hown, hts⟩ (c_X8_isFigure l G h (upd (upd w 25 (nI j)) 26 (-1)) q tx j len ((hw 22 (by decide)).trans hl22) (hlen) (by omega)) (cwV 1 hts gX8_takes_X8_isFigure rfl rfl rfl (by decide +kernel) ⟨Nat.le_of_ble_eq_true rfl, Nat.le_of_ble_eq_true rfl⟩) (rPre_V hK hP [0, 1] rfl 0 8 rfl rfl) rfl rfl hl.1 rfl (lv_room (Nat.le_of_ble_eq_true rfl)) dX8_takes_79 ⟨Nat.zero_le _, Nat.zero_le _⟩) (fun r_79 q_79 => ?_)
          obtain rfl : r_79 = b2i (decide (j < len) && pFig (tx j)) := q_79
          refine lv_if_ne (tgt := 111) hx hb dX8_takes_82 (by decide) (fun c_82 => ?_) (fun c_82 => ?_)
          · have c_82 : (decide (j < len) && pFig (tx j)) = true := b2i_n0.mp c_82
            have hfj : j < len ∧ pFig (tx j) = true := by simpa using c_82
            have hjl := hfj.1
            refine lv_iconst (v := 0) hx hb dX8_takes_111 (by decide) ?_
            refine lv_istore_n (lv' := [(1, .int 0), (0, .ref h)]) hx hb dX8_takes_112 rfl hl (by decide) rfl (fun ls hl => ?_)
            have loop_113 : ∀ (nF : Nat) (w2 : Nat → Int32) (e : Nat) (a : Nat), (len - e) < nF → (j ≤ e ∧ e ≤ len) → (a ≤ 999) → (te tx len e = te tx len j) → (tv tx len e (min a 100) = tv tx len j 0) → (w2 24 = nI e) → (w2 25 = nI j) → (∀ k, ¬ k = 24 → ¬ k = 25 → ¬ k = 26 → w2 k = v k) → ∀ (H : Heap) (locs : List Loc), va_P G.1 vwCl [oB h 8 (oF8 w2 q), aI G (q 23) 140 tx] H → va_D A [oB h 8 (oF8 w2 q), aI G (q 23) 140 tx] → va_S A sM.heap H locs → ∀ (ls : Array Slot), lv_has ls 2 [(1, .int (nI a)), (0, .ref h)] → W pM l eM rX8_takes sM mM [.ref h].toArray bM tM cM H locs 0 0 Q (F0 mM 113 ls []) := by
              intro nF
              induction nF with
              | zero => intro w2 e a hmF; exact absurd hmF (Nat.not_lt_zero _)
              | succ nF ih113 =>
                intro w2 e a hmF he ha hte htv hn24 hn25 hw2 H locs hP hD hS ls hl
                refine lv_aload_n hx hb dX8_takes_113 rfl (lv_at hl 1 rfl) ?_
                refine lv_aload_n hx hb dX8_takes_114 rfl (lv_at hl 1 rfl) ?_
                refine va_get (D := G.1) (ci := 8) (v := .int (w2 24)) (C := RX8) (T := TX8) (N := 44) hx hb hts hin8 hown hK.1 hP 0 rfl rfl 24 (by decide) f112 (fun _ h9 => h9) rfl dX8_takes_115 ?_
                refine top_i (y := nI e) (hn24) ?_
                refine rd_i (va_runV (As := [.int (nI e)]) (rest := []) ⟨hx, hb, hml, hown, hts⟩ (c_X8_isFigure l G h w2 q tx e len ((hw2 22 (by decide) (by decide) (by decide)).trans hl22) (hlen) (by omega)) (cwV 1 hts gX8_takes_X8_isFigure rfl rfl rfl (by decide +kernel) ⟨Nat.le_of_ble_eq_true rfl, Nat.le_of_ble_eq_true rfl⟩) (rPre_V hK hP [0, 1] rfl 0 8 rfl rfl) rfl rfl hl.1 rfl (lv_room (Nat.le_of_ble_eq_true rfl)) dX8_takes_118 ⟨Nat.zero_le _, Nat.zero_le _⟩) (fun r_118 q_118 => ?_)
                obtain rfl : r_118 = b2i (decide (e < len) && pFig (tx e)) := q_118
                refine lv_if_eq (tgt := 165) hx hb dX8_takes_121 (by decide) (fun c_121 => ?_) (fun c_121 => ?_)
                · have c_121 : (decide (e < len) && pFig (tx e)) = false := b2i_0.mp c_121
                  refine lv_aload_n hx hb dX8_takes_165 rfl (lv_at hl 1 rfl) ?_
                  refine lv_iload_n hx hb dX8_takes_166 rfl (lv_at hl 0 rfl) ?_
                  refine lv_bipush (v := 99) hx hb dX8_takes_167 (by decide) ?_
                  refine lv_icmp_gt (tgt := 199) hx hb dX8_takes_169 (by decide) (fun c_169 => ?_) (fun c_169 => ?_)
                  · have c_169 : 99 < a := (c_lt (a := 99) (b := a) rfl rfl (by omega) (by omega)).mp c_169
                    refine lv_sipush (v := 2000) hx hb dX8_takes_199 (by decide) ?_
                    refine lv_goto (tgt := 210) hx hb dX8_takes_202 (by decide) ?_
                    refine va_put (D := G.1) (ci := 8) (v := .int 2000) (ty := .int) (C := RX8) (T := TX8) (N := 44) hx hb hts hin8 tyX8 tyX8_ok nmX8 hown hK.1 hP hD hS 0 rfl rfl 26 (by decide) f118 (fun _ h9 => h9) rfl (by decide +kernel) rfl rfl (Nat.le_of_ble_eq_true rfl) dX8_takes_210 (fun H locs hP hD hS => ?_)
                    have hP : va_P G.1 vwCl [oB h 8 (oF8 (upd w2 26 2000) q), aI G (q 23) 140 tx] H := hP
                    have hD : va_D A [oB h 8 (oF8 (upd w2 26 2000) q), aI G (q 23) 140 tx] := hD
                    have hpost : (upd w2 26 2000) 24 = nI (tkE tx len i) ∧ (upd w2 26 2000) 25 = nI (tkS tx len i) ∧ (upd w2 26 2000) 26 = mtok tx len i ∧ (∀ k, ¬ k = 24 → ¬ k = 25 → ¬ k = 26 → (upd w2 26 2000) k = v k) := by
                      have hts2 : tsk tx len i = j := by rw [← hj2, tsk_stop (fun h => absurd h.1 (by omega))]
                      obtain ⟨e1, e2, e3, e4⟩ := tk_fig hts2 hfj.1 hfj.2
                      have hnf : ¬ (e < len ∧ pFig (tx e) = true) := by intro hq; simp [hq.1, hq.2] at c_121
                      rw [te_stop hnf] at hte
                      rw [tv_stop hnf] at htv
                      have hV : tkV tx len i = min a 100 := by rw [e4, ← htv]
                      have htk : tkn tx len j = (if (tx j = 48 ∧ 1 < e - j) ∨ 99 < min a 100 then -3 else -2) := by rw [tkn, ← hte, ← htv]
                      refine ⟨?_, ?_, ?_, fun k h24 h25 h26 => by simp [upd, h24, h25, h26]; exact hw2 k h24 h25 h26⟩
                      · rw [e2, ← hte]; exact hn24
                      · rw [e1]; exact hn25
                      · rw [mtok, hts2, if_neg (by omega), if_pos hfj.2, htk, hV]
                        first
                        | (rw [if_pos (Or.inr (by omega)), if_pos rfl]; rfl)
                        | (rw [if_pos (Or.inl ⟨c_183, by omega⟩), if_pos rfl]; rfl)
                        | (rw [if_neg (fun h => Or.elim h (fun q => absurd q.1 c_183) (fun q => by omega)), if_neg (by decide), Nat.min_eq_left (by omega)]; rfl)
                        | (rw [if_neg (fun h => Or.elim h (fun q => absurd q.2 (by omega)) (fun q => by omega)), if_neg (by decide), Nat.min_eq_left (by omega)]; rfl)
                    exact hret (upd w2 26 2000) _ _ _ _ (hpost) hP hD hS dX8_takes_213
                  · have c_169 : ¬ 99 < a := fun hne => c_169 ((c_lt (a := 99) (b := a) rfl rfl (by omega) (by omega)).mpr hne)
                    refine lv_aload_n hx hb dX8_takes_172 rfl (lv_at hl 1 rfl) ?_
                    refine va_get (D := G.1) (ci := 8) (v := .ref (q 23)) (C := RX8) (T := TX8) (N := 44) hx hb hts hin8 hown hK.1 hP 0 rfl rfl 23 (by decide) f59 (fun _ h9 => h9) rfl dX8_takes_173 ?_
                    refine lv_aload_n hx hb dX8_takes_176 rfl (lv_at hl 1 rfl) ?_
                    refine va_get (D := G.1) (ci := 8) (v := .int (w2 25)) (C := RX8) (T := TX8) (N := 44) hx hb hts hin8 hown hK.1 hP 0 rfl rfl 25 (by decide) f115 (fun _ h9 => h9) rfl dX8_takes_177 ?_
                    refine top_i (y := nI j) (hn25) ?_
                    refine al_i hx hb hK.1 hP 1 0 rfl rfl (j := j) (by omega) (Nat.le_of_ble_eq_true rfl) dX8_takes_180 ?_
                    refine lv_bipush (v := 48) hx hb dX8_takes_181 (by decide) ?_
                    refine lv_icmp_ne (tgt := 205) hx hb dX8_takes_183 (by decide) (fun c_183 => ?_) (fun c_183 => ?_)
                    · refine lv_sipush (v := 1000) hx hb dX8_takes_205 (by decide) ?_
                      refine lv_iload_n hx hb dX8_takes_208 rfl (lv_at hl 0 rfl) ?_
                      refine lv_iadd hx hb dX8_takes_209 ?_
                      refine top_i (y := nI (1000 + a)) (m1000 a) ?_
                      refine va_put (D := G.1) (ci := 8) (v := .int (nI (1000 + a))) (ty := .int) (C := RX8) (T := TX8) (N := 44) hx hb hts hin8 tyX8 tyX8_ok nmX8 hown hK.1 hP hD hS 0 rfl rfl 26 (by decide) f118 (fun _ h9 => h9) rfl (by decide +kernel) rfl rfl (Nat.le_of_ble_eq_true rfl) dX8_takes_210 (fun H locs hP hD hS => ?_)
                      have hP : va_P G.1 vwCl [oB h 8 (oF8 (upd w2 26 (nI (1000 + a))) q), aI G (q 23) 140 tx] H := hP
                      have hD : va_D A [oB h 8 (oF8 (upd w2 26 (nI (1000 + a))) q), aI G (q 23) 140 tx] := hD
                      have hpost : (upd w2 26 (nI (1000 + a))) 24 = nI (tkE tx len i) ∧ (upd w2 26 (nI (1000 + a))) 25 = nI (tkS tx len i) ∧ (upd w2 26 (nI (1000 + a))) 26 = mtok tx len i ∧ (∀ k, ¬ k = 24 → ¬ k = 25 → ¬ k = 26 → (upd w2 26 (nI (1000 + a))) k = v k) := by
                        have hts2 : tsk tx len i = j := by rw [← hj2, tsk_stop (fun h => absurd h.1 (by omega))]
                        obtain ⟨e1, e2, e3, e4⟩ := tk_fig hts2 hfj.1 hfj.2
                        have hnf : ¬ (e < len ∧ pFig (tx e) = true) := by intro hq; simp [hq.1, hq.2] at c_121
                        rw [te_stop hnf] at hte
                        rw [tv_stop hnf] at htv
                        have hV : tkV tx len i = min a 100 := by rw [e4, ← htv]
                        have htk : tkn tx len j = (if (tx j = 48 ∧ 1 < e - j) ∨ 99 < min a 100 then -3 else -2) := by rw [tkn, ← hte, ← htv]
                        refine ⟨?_, ?_, ?_, fun k h24 h25 h26 => by simp [upd, h24, h25, h26]; exact hw2 k h24 h25 h26⟩
                        · rw [e2, ← hte]; exact hn24
                        · rw [e1]; exact hn25
                        · rw [mtok, hts2, if_neg (by omega), if_pos hfj.2, htk, hV]
                          first
                          | (rw [if_pos (Or.inr (by omega)), if_pos rfl]; rfl)
                          | (rw [if_pos (Or.inl ⟨c_183, by omega⟩), if_pos rfl]; rfl)
                          | (rw [if_neg (fun h => Or.elim h (fun q => absurd q.1 c_183) (fun q => by omega)), if_neg (by decide), Nat.min_eq_left (by omega)]; rfl)
                          | (rw [if_neg (fun h => Or.elim h (fun q => absurd q.2 (by omega)) (fun q => by omega)), if_neg (by decide), Nat.min_eq_left (by omega)]; rfl)
                      exact hret (upd w2 26 (nI (1000 + a))) _ _ _ _ (hpost) hP hD hS dX8_takes_213
                    · refine lv_aload_n hx hb dX8_takes_186 rfl (lv_at hl 1 rfl) ?_
                      refine va_get (D := G.1) (ci := 8) (v := .int (w2 24)) (C := RX8) (T := TX8) (N := 44) hx hb hts hin8 hown hK.1 hP 0 rfl rfl 24 (by decide) f112 (fun _ h9 => h9) rfl dX8_takes_187 ?_
                      refine top_i (y := nI e) (hn24) ?_
                      refine lv_aload_n hx hb dX8_takes_190 rfl (lv_at hl 1 rfl) ?_
                      refine va_get (D := G.1) (ci := 8) (v := .int (w2 25)) (C := RX8) (T := TX8) (N := 44) hx hb hts hin8 hown hK.1 hP 0 rfl rfl 25 (by decide) f115 (fun _ h9 => h9) rfl dX8_takes_191 ?_
                      refine top_i (y := nI j) (hn25) ?_
                      refine lv_iconst (v := 1) hx hb dX8_takes_194 (by decide) ?_
                      refine lv_iadd hx hb dX8_takes_195 ?_
                      refine top_i (y := nI (j + 1)) (nI_1 j) ?_
                      refine lv_icmp_le (tgt := 205) hx hb dX8_takes_196 (by decide) (fun c_196 => ?_) (fun c_196 => ?_)
                      · have c_196 : e ≤ (j + 1) := (c_le (a := e) (b := j + 1) rfl rfl (by omega) (by omega)).mp c_196
                        refine lv_sipush (v := 1000) hx hb dX8_takes_205 (by decide) ?_
                        refine lv_iload_n hx hb dX8_takes_208 rfl (lv_at hl 0 rfl) ?_
                        refine lv_iadd hx hb dX8_takes_209 ?_
                        refine top_i (y := nI (1000 + a)) (m1000 a) ?_
                        refine va_put (D := G.1) (ci := 8) (v := .int (nI (1000 + a))) (ty := .int) (C := RX8) (T := TX8) (N := 44) hx hb hts hin8 tyX8 tyX8_ok nmX8 hown hK.1 hP hD hS 0 rfl rfl 26 (by decide) f118 (fun _ h9 => h9) rfl (by decide +kernel) rfl rfl (Nat.le_of_ble_eq_true rfl) dX8_takes_210 (fun H locs hP hD hS => ?_)
                        have hP : va_P G.1 vwCl [oB h 8 (oF8 (upd w2 26 (nI (1000 + a))) q), aI G (q 23) 140 tx] H := hP
                        have hD : va_D A [oB h 8 (oF8 (upd w2 26 (nI (1000 + a))) q), aI G (q 23) 140 tx] := hD
                        have hpost : (upd w2 26 (nI (1000 + a))) 24 = nI (tkE tx len i) ∧ (upd w2 26 (nI (1000 + a))) 25 = nI (tkS tx len i) ∧ (upd w2 26 (nI (1000 + a))) 26 = mtok tx len i ∧ (∀ k, ¬ k = 24 → ¬ k = 25 → ¬ k = 26 → (upd w2 26 (nI (1000 + a))) k = v k) := by
                          have hts2 : tsk tx len i = j := by rw [← hj2, tsk_stop (fun h => absurd h.1 (by omega))]
                          obtain ⟨e1, e2, e3, e4⟩ := tk_fig hts2 hfj.1 hfj.2
                          have hnf : ¬ (e < len ∧ pFig (tx e) = true) := by intro hq; simp [hq.1, hq.2] at c_121
                          rw [te_stop hnf] at hte
                          rw [tv_stop hnf] at htv
                          have hV : tkV tx len i = min a 100 := by rw [e4, ← htv]
                          have htk : tkn tx len j = (if (tx j = 48 ∧ 1 < e - j) ∨ 99 < min a 100 then -3 else -2) := by rw [tkn, ← hte, ← htv]
                          refine ⟨?_, ?_, ?_, fun k h24 h25 h26 => by simp [upd, h24, h25, h26]; exact hw2 k h24 h25 h26⟩
                          · rw [e2, ← hte]; exact hn24
                          · rw [e1]; exact hn25
                          · rw [mtok, hts2, if_neg (by omega), if_pos hfj.2, htk, hV]
                            first
                            | (rw [if_pos (Or.inr (by omega)), if_pos rfl]; rfl)
                            | (rw [if_pos (Or.inl ⟨c_183, by omega⟩), if_pos rfl]; rfl)
                            | (rw [if_neg (fun h => Or.elim h (fun q => absurd q.1 c_183) (fun q => by omega)), if_neg (by decide), Nat.min_eq_left (by omega)]; rfl)
                            | (rw [if_neg (fun h => Or.elim h (fun q => absurd q.2 (by omega)) (fun q => by omega)), if_neg (by decide), Nat.min_eq_left (by omega)]; rfl)
                        exact hret (upd w2 26 (nI (1000 + a))) _ _ _ _ (hpost) hP hD hS dX8_takes_213
                      · have c_196 : ¬ e ≤ (j + 1) := fun hne => c_196 ((c_le (a := e) (b := j + 1) rfl rfl (by omega) (by omega)).mpr hne)
                        refine lv_sipush (v := 2000) hx hb dX8_takes_199 (by decide) ?_
                        refine lv_goto (tgt := 210) hx hb dX8_takes_202 (by decide) ?_
                        refine va_put (D := G.1) (ci := 8) (v := .int 2000) (ty := .int) (C := RX8) (T := TX8) (N := 44) hx hb hts hin8 tyX8 tyX8_ok nmX8 hown hK.1 hP hD hS 0 rfl rfl 26 (by decide) f118 (fun _ h9 => h9) rfl (by decide +kernel) rfl rfl (Nat.le_of_ble_eq_true rfl) dX8_takes_210 (fun H locs hP hD hS => ?_)
                        have hP : va_P G.1 vwCl [oB h 8 (oF8 (upd w2 26 2000) q), aI G (q 23) 140 tx] H := hP
                        have hD : va_D A [oB h 8 (oF8 (upd w2 26 2000) q), aI G (q 23) 140 tx] := hD
                        have hpost : (upd w2 26 2000) 24 = nI (tkE tx len i) ∧ (upd w2 26 2000) 25 = nI (tkS tx len i) ∧ (upd w2 26 2000) 26 = mtok tx len i ∧ (∀ k, ¬ k = 24 → ¬ k = 25 → ¬ k = 26 → (upd w2 26 2000) k = v k) := by
                          have hts2 : tsk tx len i = j := by rw [← hj2, tsk_stop (fun h => absurd h.1 (by omega))]
                          obtain ⟨e1, e2, e3, e4⟩ := tk_fig hts2 hfj.1 hfj.2
                          have hnf : ¬ (e < len ∧ pFig (tx e) = true) := by intro hq; simp [hq.1, hq.2] at c_121
                          rw [te_stop hnf] at hte
                          rw [tv_stop hnf] at htv
                          have hV : tkV tx len i = min a 100 := by rw [e4, ← htv]
                          have htk : tkn tx len j = (if (tx j = 48 ∧ 1 < e - j) ∨ 99 < min a 100 then -3 else -2) := by rw [tkn, ← hte, ← htv]
                          refine ⟨?_, ?_, ?_, fun k h24 h25 h26 => by simp [upd, h24, h25, h26]; exact hw2 k h24 h25 h26⟩
                          · rw [e2, ← hte]; exact hn24
                          · rw [e1]; exact hn25
                          · rw [mtok, hts2, if_neg (by omega), if_pos hfj.2, htk, hV]
                            first
                            | (rw [if_pos (Or.inr (by omega)), if_pos rfl]; rfl)
                            | (rw [if_pos (Or.inl ⟨c_183, by omega⟩), if_pos rfl]; rfl)
                            | (rw [if_neg (fun h => Or.elim h (fun q => absurd q.1 c_183) (fun q => by omega)), if_neg (by decide), Nat.min_eq_left (by omega)]; rfl)
                            | (rw [if_neg (fun h => Or.elim h (fun q => absurd q.2 (by omega)) (fun q => by omega)), if_neg (by decide), Nat.min_eq_left (by omega)]; rfl)
                        exact hret (upd w2 26 2000) _ _ _ _ (hpost) hP hD hS dX8_takes_213
                · have c_121 : (decide (e < len) && pFig (tx e)) = true := b2i_n0.mp c_121
                  have hef : e < len ∧ pFig (tx e) = true := by simpa using c_121
                  have hdg := dg_le hef.2
                  refine lv_iload_n hx hb dX8_takes_124 rfl (lv_at hl 0 rfl) ?_
                  refine lv_bipush (v := 99) hx hb dX8_takes_125 (by decide) ?_
                  refine lv_icmp_le (tgt := 134) hx hb dX8_takes_127 (by decide) (fun c_127 => ?_) (fun c_127 => ?_)
                  · have c_127 : a ≤ 99 := (c_le (a := a) (b := 99) rfl rfl (by omega) (by omega)).mp c_127
                    refine lv_bipush (v := 10) hx hb dX8_takes_134 (by decide) ?_
                    refine lv_iload_n hx hb dX8_takes_136 rfl (lv_at hl 0 rfl) ?_
                    refine lv_imul hx hb dX8_takes_137 ?_
                    refine lv_aload_n hx hb dX8_takes_138 rfl (lv_at hl 1 rfl) ?_
                    refine va_get (D := G.1) (ci := 8) (v := .ref (q 23)) (C := RX8) (T := TX8) (N := 44) hx hb hts hin8 hown hK.1 hP 0 rfl rfl 23 (by decide) f59 (fun _ h9 => h9) rfl dX8_takes_139 ?_
                    refine lv_aload_n hx hb dX8_takes_142 rfl (lv_at hl 1 rfl) ?_
                    refine va_get (D := G.1) (ci := 8) (v := .int (w2 24)) (C := RX8) (T := TX8) (N := 44) hx hb hts hin8 hown hK.1 hP 0 rfl rfl 24 (by decide) f112 (fun _ h9 => h9) rfl dX8_takes_143 ?_
                    refine top_i (y := nI e) (hn24) ?_
                    refine al_i hx hb hK.1 hP 1 0 rfl rfl (j := e) (by omega) (Nat.le_of_ble_eq_true rfl) dX8_takes_146 ?_
                    refine lv_iadd hx hb dX8_takes_147 ?_
                    refine lv_bipush (v := 48) hx hb dX8_takes_148 (by decide) ?_
                    refine lv_isub hx hb dX8_takes_150 ?_
                    refine top_i (y := nI (a * 10 + dg (tx e))) (fig_val2 hef.2) ?_
                    refine lv_istore_n (lv' := [(1, .int (nI (a * 10 + dg (tx e)))), (0, .ref h)]) hx hb dX8_takes_151 rfl hl (by decide) rfl (fun ls hl => ?_)
                    refine lv_aload_n hx hb dX8_takes_152 rfl (lv_at hl 1 rfl) ?_
                    refine lv_dup hx hb dX8_takes_153 rfl ?_
                    refine va_get (D := G.1) (ci := 8) (v := .int (w2 24)) (C := RX8) (T := TX8) (N := 44) hx hb hts hin8 hown hK.1 hP 0 rfl rfl 24 (by decide) f112 (fun _ h9 => h9) rfl dX8_takes_154 ?_
                    refine top_i (y := nI e) (hn24) ?_
                    refine lv_iconst (v := 1) hx hb dX8_takes_157 (by decide) ?_
                    refine lv_iadd hx hb dX8_takes_158 ?_
                    refine top_i (y := nI (e + 1)) (nI_1 e) ?_
                    refine va_put (D := G.1) (ci := 8) (v := .int (nI (e + 1))) (ty := .int) (C := RX8) (T := TX8) (N := 44) hx hb hts hin8 tyX8 tyX8_ok nmX8 hown hK.1 hP hD hS 0 rfl rfl 24 (by decide) f112 (fun _ h9 => h9) rfl (by decide +kernel) rfl rfl (Nat.le_of_ble_eq_true rfl) dX8_takes_159 (fun H locs hP hD hS => ?_)
                    have hP : va_P G.1 vwCl [oB h 8 (oF8 (upd w2 24 (nI (e + 1))) q), aI G (q 23) 140 tx] H := hP
                    have hD : va_D A [oB h 8 (oF8 (upd w2 24 (nI (e + 1))) q), aI G (q 23) 140 tx] := hD
                    refine lv_goto (tgt := 113) hx hb dX8_takes_162 (by decide) ?_
                    exact ih113 (upd w2 24 (nI (e + 1))) (e + 1) (a * 10 + dg (tx e)) (by omega) (by omega) (by first | omega | (have := dg_le hef.2; omega)) (by rw [← te_step hef.1 hef.2]; exact hte) (by rw [← htv, tv_step hef.1 hef.2]; congr 1; omega) (rfl) (hn25) (fun k h24 h25 h26 => by simp [upd, h24]; exact hw2 k h24 h25 h26) _ _ hP hD hS _ (lv_sub hl [0, 1] rfl)
                  · have c_127 : ¬ a ≤ 99 := fun hne => c_127 ((c_le (a := a) (b := 99) rfl rfl (by omega) (by omega)).mpr hne)
                    refine lv_iload_n hx hb dX8_takes_130 rfl (lv_at hl 0 rfl) ?_
                    refine lv_goto (tgt := 151) hx hb dX8_takes_131 (by decide) ?_
                    refine lv_istore_n (lv' := [(1, .int (nI a)), (0, .ref h)]) hx hb dX8_takes_151 rfl hl (by decide) rfl (fun ls hl => ?_)
                    refine lv_aload_n hx hb dX8_takes_152 rfl (lv_at hl 1 rfl) ?_
                    refine lv_dup hx hb dX8_takes_153 rfl ?_
                    refine va_get (D := G.1) (ci := 8) (v := .int (w2 24)) (C := RX8) (T := TX8) (N := 44) hx hb hts hin8 hown hK.1 hP 0 rfl rfl 24 (by decide) f112 (fun _ h9 => h9) rfl dX8_takes_154 ?_
                    refine top_i (y := nI e) (hn24) ?_
                    refine lv_iconst (v := 1) hx hb dX8_takes_157 (by decide) ?_
                    refine lv_iadd hx hb dX8_takes_158 ?_
                    refine top_i (y := nI (e + 1)) (nI_1 e) ?_
                    refine va_put (D := G.1) (ci := 8) (v := .int (nI (e + 1))) (ty := .int) (C := RX8) (T := TX8) (N := 44) hx hb hts hin8 tyX8 tyX8_ok nmX8 hown hK.1 hP hD hS 0 rfl rfl 24 (by decide) f112 (fun _ h9 => h9) rfl (by decide +kernel) rfl rfl (Nat.le_of_ble_eq_true rfl) dX8_takes_159 (fun H locs hP hD hS => ?_)
                    have hP : va_P G.1 vwCl [oB h 8 (oF8 (upd w2 24 (nI (e + 1))) q), aI G (q 23) 140 tx] H := hP
                    have hD : va_D A [oB h 8 (oF8 (upd w2 24 (nI (e + 1))) q), aI G (q 23) 140 tx] := hD
                    refine lv_goto (tgt := 113) hx hb dX8_takes_162 (by decide) ?_
                    exact ih113 (upd w2 24 (nI (e + 1))) (e + 1) a (by omega) (by omega) (by first | omega | (have := dg_le hef.2; omega)) (by rw [← te_step hef.1 hef.2]; exact hte) (by rw [← htv, tv_step hef.1 hef.2]; congr 1; omega) (rfl) (hn25) (fun k h24 h25 h26 => by simp [upd, h24]; exact hw2 k h24 h25 h26) _ _ hP hD hS _ (lv_sub hl [0, 1] rfl)
            exact loop_113 _ (upd (upd w 25 (nI j)) 26 (-1)) j 0 (Nat.lt_succ_self _) (by omega) (by omega) (rfl) (rfl) (hw24) (rfl) (fun k h24 h25 h26 => by simp [upd, h25, h26]; exact hw k h24) _ _ hP hD hS _ (lv_sub hl [0, 1] rfl)
          · have c_82 : (decide (j < len) && pFig (tx j)) = false := b2i_0.mp c_82
            refine lv_aload_n hx hb dX8_takes_85 rfl (lv_at hl 0 rfl) ?_
            refine lv_dup hx hb dX8_takes_86 rfl ?_
            refine va_get (D := G.1) (ci := 8) (v := .int (w 24)) (C := RX8) (T := TX8) (N := 44) hx hb hts hin8 hown hK.1 hP 0 rfl rfl 24 (by decide) f112 (fun _ h9 => h9) rfl dX8_takes_87 ?_
            refine top_i (y := nI j) (hw24) ?_
            refine lv_aload_n hx hb dX8_takes_90 rfl (lv_at hl 0 rfl) ?_
            refine va_get (D := G.1) (ci := 8) (v := .int (w 24)) (C := RX8) (T := TX8) (N := 44) hx hb hts hin8 hown hK.1 hP 0 rfl rfl 24 (by decide) f112 (fun _ h9 => h9) rfl dX8_takes_91 ?_
            refine top_i (y := nI j) (hw24) ?_
            refine lv_aload_n hx hb dX8_takes_94 rfl (lv_at hl 0 rfl) ?_
            refine va_get (D := G.1) (ci := 8) (v := .int (w 22)) (C := RX8) (T := TX8) (N := 44) hx hb hts hin8 hown hK.1 hP 0 rfl rfl 22 (by decide) f109 (fun _ h9 => h9) rfl dX8_takes_95 ?_
            refine top_i (y := nI len) ((hw 22 (by decide)).trans hl22) ?_
            refine lv_icmp_ge (tgt := 105) hx hb dX8_takes_98 (by decide) (fun c_98 => ?_) (fun c_98 => ?_)
            · have c_98 : len ≤ j := (c_le (a := len) (b := j) rfl rfl (by omega) (by omega)).mp c_98
              refine lv_iconst (v := 0) hx hb dX8_takes_105 (by decide) ?_
              refine lv_iadd hx hb dX8_takes_106 ?_
              refine top_i (y := nI j) (Int32.add_zero _) ?_
              refine va_put (D := G.1) (ci := 8) (v := .int (nI j)) (ty := .int) (C := RX8) (T := TX8) (N := 44) hx hb hts hin8 tyX8 tyX8_ok nmX8 hown hK.1 hP hD hS 0 rfl rfl 24 (by decide) f112 (fun _ h9 => h9) rfl (by decide +kernel) rfl rfl (Nat.le_of_ble_eq_true rfl) dX8_takes_107 (fun H locs hP hD hS => ?_)
              have hP : va_P G.1 vwCl [oB h 8 (oF8 (upd (upd (upd w 25 (nI j)) 26 (-1)) 24 (nI j)) q), aI G (q 23) 140 tx] H := hP
              have hD : va_D A [oB h 8 (oF8 (upd (upd (upd w 25 (nI j)) 26 (-1)) 24 (nI j)) q), aI G (q 23) 140 tx] := hD
              have hpost : (upd (upd (upd w 25 (nI j)) 26 (-1)) 24 (nI j)) 24 = nI (tkE tx len i) ∧ (upd (upd (upd w 25 (nI j)) 26 (-1)) 24 (nI j)) 25 = nI (tkS tx len i) ∧ (upd (upd (upd w 25 (nI j)) 26 (-1)) 24 (nI j)) 26 = mtok tx len i ∧ (∀ k, ¬ k = 24 → ¬ k = 25 → ¬ k = 26 → (upd (upd (upd w 25 (nI j)) 26 (-1)) 24 (nI j)) k = v k) := by
                have hts2 : tsk tx len i = j := by rw [← hj2, tsk_stop (fun h => absurd h.1 (by omega))]
                by_cases hjl : j < len
                · have hf : pFig (tx j) = false := by
                    have h1 := c_82
                    simpa [hjl] using h1
                  obtain ⟨e1, e2, e3⟩ := tk_let hts2 hjl hf
                  refine ⟨?_, ?_, ?_, fun k h24 h25 h26 => by simp [upd, h24, h25, h26]; exact hw k h24⟩
                  · rw [e2]; first | rfl | exact absurd hjl (by omega)
                  · rw [e1]; rfl
                  · rw [mtok, hts2, if_neg (by omega), if_neg (by rw [hf]; decide)]; first | rfl | exact absurd hjl (by omega)
                · obtain ⟨e1, e2, e3⟩ := tk_end hts2 (by omega)
                  refine ⟨?_, ?_, ?_, fun k h24 h25 h26 => by simp [upd, h24, h25, h26]; exact hw k h24⟩
                  · rw [e2]; first | rfl | exact absurd (show j < len by omega) hjl
                  · rw [e1]; rfl
                  · rw [mtok, hts2, if_pos (by omega)]; first | rfl | exact absurd (show j < len by omega) hjl
              exact hret (upd (upd (upd w 25 (nI j)) 26 (-1)) 24 (nI j)) _ _ _ _ (hpost) hP hD hS dX8_takes_110
            · have c_98 : ¬ len ≤ j := fun hne => c_98 ((c_le (a := len) (b := j) rfl rfl (by omega) (by omega)).mpr hne)
              refine lv_iconst (v := 1) hx hb dX8_takes_101 (by decide) ?_
              refine lv_goto (tgt := 106) hx hb dX8_takes_102 (by decide) ?_
              refine lv_iadd hx hb dX8_takes_106 ?_
              refine top_i (y := nI (j + 1)) (nI_1 j) ?_
              refine va_put (D := G.1) (ci := 8) (v := .int (nI (j + 1))) (ty := .int) (C := RX8) (T := TX8) (N := 44) hx hb hts hin8 tyX8 tyX8_ok nmX8 hown hK.1 hP hD hS 0 rfl rfl 24 (by decide) f112 (fun _ h9 => h9) rfl (by decide +kernel) rfl rfl (Nat.le_of_ble_eq_true rfl) dX8_takes_107 (fun H locs hP hD hS => ?_)
              have hP : va_P G.1 vwCl [oB h 8 (oF8 (upd (upd (upd w 25 (nI j)) 26 (-1)) 24 (nI (j + 1))) q), aI G (q 23) 140 tx] H := hP
              have hD : va_D A [oB h 8 (oF8 (upd (upd (upd w 25 (nI j)) 26 (-1)) 24 (nI (j + 1))) q), aI G (q 23) 140 tx] := hD
              have hpost : (upd (upd (upd w 25 (nI j)) 26 (-1)) 24 (nI (j + 1))) 24 = nI (tkE tx len i) ∧ (upd (upd (upd w 25 (nI j)) 26 (-1)) 24 (nI (j + 1))) 25 = nI (tkS tx len i) ∧ (upd (upd (upd w 25 (nI j)) 26 (-1)) 24 (nI (j + 1))) 26 = mtok tx len i ∧ (∀ k, ¬ k = 24 → ¬ k = 25 → ¬ k = 26 → (upd (upd (upd w 25 (nI j)) 26 (-1)) 24 (nI (j + 1))) k = v k) := by
                have hts2 : tsk tx len i = j := by rw [← hj2, tsk_stop (fun h => absurd h.1 (by omega))]
                by_cases hjl : j < len
                · have hf : pFig (tx j) = false := by
                    have h1 := c_82
                    simpa [hjl] using h1
                  obtain ⟨e1, e2, e3⟩ := tk_let hts2 hjl hf
                  refine ⟨?_, ?_, ?_, fun k h24 h25 h26 => by simp [upd, h24, h25, h26]; exact hw k h24⟩
                  · rw [e2]; first | rfl | exact absurd hjl (by omega)
                  · rw [e1]; rfl
                  · rw [mtok, hts2, if_neg (by omega), if_neg (by rw [hf]; decide)]; first | rfl | exact absurd hjl (by omega)
                · obtain ⟨e1, e2, e3⟩ := tk_end hts2 (by omega)
                  refine ⟨?_, ?_, ?_, fun k h24 h25 h26 => by simp [upd, h24, h25, h26]; exact hw k h24⟩
                  · rw [e2]; first | rfl | exact absurd (show j < len by omega) hjl
                  · rw [e1]; rfl
                  · rw [mtok, hts2, if_pos (by omega)]; first | rfl | exact absurd (show j < len by omega) hjl
              exact hret (upd (upd (upd w 25 (nI j)) 26 (-1)) 24 (nI (j + 1))) _ _ _ _ (hpost) hP hD hS dX8_takes_110
        · have c_55 : ¬ len ≤ j := fun hne => c_55 ((c_le (a := len) (b := j) rfl rfl (by omega) (by omega)).mpr hne)
          refine lv_aload_n hx hb dX8_takes_58 rfl (lv_at hl 0 rfl) ?_
          refine va_get (D := G.1) (ci := 8) (v := .ref (q 23)) (C := RX8) (T := TX8) (N := 44) hx hb hts hin8 hown hK.1 hP 0 rfl rfl 23 (by decide) f59 (fun _ h9 => h9) rfl dX8_takes_59 ?_
          refine lv_aload_n hx hb dX8_takes_62 rfl (lv_at hl 0 rfl) ?_
          refine va_get (D := G.1) (ci := 8) (v := .int (w 24)) (C := RX8) (T := TX8) (N := 44) hx hb hts hin8 hown hK.1 hP 0 rfl rfl 24 (by decide) f112 (fun _ h9 => h9) rfl dX8_takes_63 ?_
          refine top_i (y := nI j) (hw24) ?_
          refine al_i hx hb hK.1 hP 1 0 rfl rfl (j := j) (by omega) (Nat.le_of_ble_eq_true rfl) dX8_takes_66 ?_
          refine lv_goto (tgt := 71) hx hb dX8_takes_67 (by decide) ?_
          refine va_put (D := G.1) (ci := 8) (v := .int (tx j)) (ty := .int) (C := RX8) (T := TX8) (N := 44) hx hb hts hin8 tyX8 tyX8_ok nmX8 hown hK.1 hP hD hS 0 rfl rfl 26 (by decide) f118 (fun _ h9 => h9) rfl (by decide +kernel) rfl rfl (Nat.le_of_ble_eq_true rfl) dX8_takes_71 (fun H locs hP hD hS => ?_)
          have hP : va_P G.1 vwCl [oB h 8 (oF8 (upd (upd w 25 (nI j)) 26 (tx j)) q), aI G (q 23) 140 tx] H := hP
          have hD : va_D A [oB h 8 (oF8 (upd (upd w 25 (nI j)) 26 (tx j)) q), aI G (q 23) 140 tx] := hD
          refine lv_aload_n hx hb dX8_takes_74 rfl (lv_at hl 0 rfl) ?_
          refine lv_aload_n hx hb dX8_takes_75 rfl (lv_at hl 0 rfl) ?_
          refine va_get (D := G.1) (ci := 8) (v := .int (w 24)) (C := RX8) (T := TX8) (N := 44) hx hb hts hin8 hown hK.1 hP 0 rfl rfl 24 (by decide) f112 (fun _ h9 => h9) rfl dX8_takes_76 ?_
          refine top_i (y := nI j) (hw24) ?_
          refine rd_i (va_runV (As := [.int (nI j)]) (rest := []) ⟨hx, hb, hml, hown, hts⟩ (c_X8_isFigure l G h (upd (upd w 25 (nI j)) 26 (tx j)) q tx j len ((hw 22 (by decide)).trans hl22) (hlen) (by omega)) (cwV 1 hts gX8_takes_X8_isFigure rfl rfl rfl (by decide +kernel) ⟨Nat.le_of_ble_eq_true rfl, Nat.le_of_ble_eq_true rfl⟩) (rPre_V hK hP [0, 1] rfl 0 8 rfl rfl) rfl rfl hl.1 rfl (lv_room (Nat.le_of_ble_eq_true rfl)) dX8_takes_79 ⟨Nat.zero_le _, Nat.zero_le _⟩) (fun r_79 q_79 => ?_)
          obtain rfl : r_79 = b2i (decide (j < len) && pFig (tx j)) := q_79
          refine lv_if_ne (tgt := 111) hx hb dX8_takes_82 (by decide) (fun c_82 => ?_) (fun c_82 => ?_)
          · have c_82 : (decide (j < len) && pFig (tx j)) = true := b2i_n0.mp c_82
            have hfj : j < len ∧ pFig (tx j) = true := by simpa using c_82
            have hjl := hfj.1
            refine lv_iconst (v := 0) hx hb dX8_takes_111 (by decide) ?_
            refine lv_istore_n (lv' := [(1, .int 0), (0, .ref h)]) hx hb dX8_takes_112 rfl hl (by decide) rfl (fun ls hl => ?_)
            have loop_113 : ∀ (nF : Nat) (w2 : Nat → Int32) (e : Nat) (a : Nat), (len - e) < nF → (j ≤ e ∧ e ≤ len) → (a ≤ 999) → (te tx len e = te tx len j) → (tv tx len e (min a 100) = tv tx len j 0) → (w2 24 = nI e) → (w2 25 = nI j) → (∀ k, ¬ k = 24 → ¬ k = 25 → ¬ k = 26 → w2 k = v k) → ∀ (H : Heap) (locs : List Loc), va_P G.1 vwCl [oB h 8 (oF8 w2 q), aI G (q 23) 140 tx] H → va_D A [oB h 8 (oF8 w2 q), aI G (q 23) 140 tx] → va_S A sM.heap H locs → ∀ (ls : Array Slot), lv_has ls 2 [(1, .int (nI a)), (0, .ref h)] → W pM l eM rX8_takes sM mM [.ref h].toArray bM tM cM H locs 0 0 Q (F0 mM 113 ls []) := by
              intro nF
              induction nF with
              | zero => intro w2 e a hmF; exact absurd hmF (Nat.not_lt_zero _)
              | succ nF ih113 =>
                intro w2 e a hmF he ha hte htv hn24 hn25 hw2 H locs hP hD hS ls hl
                refine lv_aload_n hx hb dX8_takes_113 rfl (lv_at hl 1 rfl) ?_
                refine lv_aload_n hx hb dX8_takes_114 rfl (lv_at hl 1 rfl) ?_
                refine va_get (D := G.1) (ci := 8) (v := .int (w2 24)) (C := RX8) (T := TX8) (N := 44) hx hb hts hin8 hown hK.1 hP 0 rfl rfl 24 (by decide) f112 (fun _ h9 => h9) rfl dX8_takes_115 ?_
                refine top_i (y := nI e) (hn24) ?_
                refine rd_i (va_runV (As := [.int (nI e)]) (rest := []) ⟨hx, hb, hml, hown, hts⟩ (c_X8_isFigure l G h w2 q tx e len ((hw2 22 (by decide) (by decide) (by decide)).trans hl22) (hlen) (by omega)) (cwV 1 hts gX8_takes_X8_isFigure rfl rfl rfl (by decide +kernel) ⟨Nat.le_of_ble_eq_true rfl, Nat.le_of_ble_eq_true rfl⟩) (rPre_V hK hP [0, 1] rfl 0 8 rfl rfl) rfl rfl hl.1 rfl (lv_room (Nat.le_of_ble_eq_true rfl)) dX8_takes_118 ⟨Nat.zero_le _, Nat.zero_le _⟩) (fun r_118 q_118 => ?_)
                obtain rfl : r_118 = b2i (decide (e < len) && pFig (tx e)) := q_118
                refine lv_if_eq (tgt := 165) hx hb dX8_takes_121 (by decide) (fun c_121 => ?_) (fun c_121 => ?_)
                · have c_121 : (decide (e < len) && pFig (tx e)) = false := b2i_0.mp c_121
                  refine lv_aload_n hx hb dX8_takes_165 rfl (lv_at hl 1 rfl) ?_
                  refine lv_iload_n hx hb dX8_takes_166 rfl (lv_at hl 0 rfl) ?_
                  refine lv_bipush (v := 99) hx hb dX8_takes_167 (by decide) ?_
                  refine lv_icmp_gt (tgt := 199) hx hb dX8_takes_169 (by decide) (fun c_169 => ?_) (fun c_169 => ?_)
                  · have c_169 : 99 < a := (c_lt (a := 99) (b := a) rfl rfl (by omega) (by omega)).mp c_169
                    refine lv_sipush (v := 2000) hx hb dX8_takes_199 (by decide) ?_
                    refine lv_goto (tgt := 210) hx hb dX8_takes_202 (by decide) ?_
                    refine va_put (D := G.1) (ci := 8) (v := .int 2000) (ty := .int) (C := RX8) (T := TX8) (N := 44) hx hb hts hin8 tyX8 tyX8_ok nmX8 hown hK.1 hP hD hS 0 rfl rfl 26 (by decide) f118 (fun _ h9 => h9) rfl (by decide +kernel) rfl rfl (Nat.le_of_ble_eq_true rfl) dX8_takes_210 (fun H locs hP hD hS => ?_)
                    have hP : va_P G.1 vwCl [oB h 8 (oF8 (upd w2 26 2000) q), aI G (q 23) 140 tx] H := hP
                    have hD : va_D A [oB h 8 (oF8 (upd w2 26 2000) q), aI G (q 23) 140 tx] := hD
                    have hpost : (upd w2 26 2000) 24 = nI (tkE tx len i) ∧ (upd w2 26 2000) 25 = nI (tkS tx len i) ∧ (upd w2 26 2000) 26 = mtok tx len i ∧ (∀ k, ¬ k = 24 → ¬ k = 25 → ¬ k = 26 → (upd w2 26 2000) k = v k) := by
                      have hts2 : tsk tx len i = j := by rw [← hj2, tsk_stop (fun h => absurd h.1 (by omega))]
                      obtain ⟨e1, e2, e3, e4⟩ := tk_fig hts2 hfj.1 hfj.2
                      have hnf : ¬ (e < len ∧ pFig (tx e) = true) := by intro hq; simp [hq.1, hq.2] at c_121
                      rw [te_stop hnf] at hte
                      rw [tv_stop hnf] at htv
                      have hV : tkV tx len i = min a 100 := by rw [e4, ← htv]
                      have htk : tkn tx len j = (if (tx j = 48 ∧ 1 < e - j) ∨ 99 < min a 100 then -3 else -2) := by rw [tkn, ← hte, ← htv]
                      refine ⟨?_, ?_, ?_, fun k h24 h25 h26 => by simp [upd, h24, h25, h26]; exact hw2 k h24 h25 h26⟩
                      · rw [e2, ← hte]; exact hn24
                      · rw [e1]; exact hn25
                      · rw [mtok, hts2, if_neg (by omega), if_pos hfj.2, htk, hV]
                        first
                        | (rw [if_pos (Or.inr (by omega)), if_pos rfl]; rfl)
                        | (rw [if_pos (Or.inl ⟨c_183, by omega⟩), if_pos rfl]; rfl)
                        | (rw [if_neg (fun h => Or.elim h (fun q => absurd q.1 c_183) (fun q => by omega)), if_neg (by decide), Nat.min_eq_left (by omega)]; rfl)
                        | (rw [if_neg (fun h => Or.elim h (fun q => absurd q.2 (by omega)) (fun q => by omega)), if_neg (by decide), Nat.min_eq_left (by omega)]; rfl)
                    exact hret (upd w2 26 2000) _ _ _ _ (hpost) hP hD hS dX8_takes_213
                  · have c_169 : ¬ 99 < a := fun hne => c_169 ((c_lt (a := 99) (b := a) rfl rfl (by omega) (by omega)).mpr hne)
                    refine lv_aload_n hx hb dX8_takes_172 rfl (lv_at hl 1 rfl) ?_
                    refine va_get (D := G.1) (ci := 8) (v := .ref (q 23)) (C := RX8) (T := TX8) (N := 44) hx hb hts hin8 hown hK.1 hP 0 rfl rfl 23 (by decide) f59 (fun _ h9 => h9) rfl dX8_takes_173 ?_
                    refine lv_aload_n hx hb dX8_takes_176 rfl (lv_at hl 1 rfl) ?_
                    refine va_get (D := G.1) (ci := 8) (v := .int (w2 25)) (C := RX8) (T := TX8) (N := 44) hx hb hts hin8 hown hK.1 hP 0 rfl rfl 25 (by decide) f115 (fun _ h9 => h9) rfl dX8_takes_177 ?_
                    refine top_i (y := nI j) (hn25) ?_
                    refine al_i hx hb hK.1 hP 1 0 rfl rfl (j := j) (by omega) (Nat.le_of_ble_eq_true rfl) dX8_takes_180 ?_
                    refine lv_bipush (v := 48) hx hb dX8_takes_181 (by decide) ?_
                    refine lv_icmp_ne (tgt := 205) hx hb dX8_takes_183 (by decide) (fun c_183 => ?_) (fun c_183 => ?_)
                    · refine lv_sipush (v := 1000) hx hb dX8_takes_205 (by decide) ?_
                      refine lv_iload_n hx hb dX8_takes_208 rfl (lv_at hl 0 rfl) ?_
                      refine lv_iadd hx hb dX8_takes_209 ?_
                      refine top_i (y := nI (1000 + a)) (m1000 a) ?_
                      refine va_put (D := G.1) (ci := 8) (v := .int (nI (1000 + a))) (ty := .int) (C := RX8) (T := TX8) (N := 44) hx hb hts hin8 tyX8 tyX8_ok nmX8 hown hK.1 hP hD hS 0 rfl rfl 26 (by decide) f118 (fun _ h9 => h9) rfl (by decide +kernel) rfl rfl (Nat.le_of_ble_eq_true rfl) dX8_takes_210 (fun H locs hP hD hS => ?_)
                      have hP : va_P G.1 vwCl [oB h 8 (oF8 (upd w2 26 (nI (1000 + a))) q), aI G (q 23) 140 tx] H := hP
                      have hD : va_D A [oB h 8 (oF8 (upd w2 26 (nI (1000 + a))) q), aI G (q 23) 140 tx] := hD
                      have hpost : (upd w2 26 (nI (1000 + a))) 24 = nI (tkE tx len i) ∧ (upd w2 26 (nI (1000 + a))) 25 = nI (tkS tx len i) ∧ (upd w2 26 (nI (1000 + a))) 26 = mtok tx len i ∧ (∀ k, ¬ k = 24 → ¬ k = 25 → ¬ k = 26 → (upd w2 26 (nI (1000 + a))) k = v k) := by
                        have hts2 : tsk tx len i = j := by rw [← hj2, tsk_stop (fun h => absurd h.1 (by omega))]
                        obtain ⟨e1, e2, e3, e4⟩ := tk_fig hts2 hfj.1 hfj.2
                        have hnf : ¬ (e < len ∧ pFig (tx e) = true) := by intro hq; simp [hq.1, hq.2] at c_121
                        rw [te_stop hnf] at hte
                        rw [tv_stop hnf] at htv
                        have hV : tkV tx len i = min a 100 := by rw [e4, ← htv]
                        have htk : tkn tx len j = (if (tx j = 48 ∧ 1 < e - j) ∨ 99 < min a 100 then -3 else -2) := by rw [tkn, ← hte, ← htv]
                        refine ⟨?_, ?_, ?_, fun k h24 h25 h26 => by simp [upd, h24, h25, h26]; exact hw2 k h24 h25 h26⟩
                        · rw [e2, ← hte]; exact hn24
                        · rw [e1]; exact hn25
                        · rw [mtok, hts2, if_neg (by omega), if_pos hfj.2, htk, hV]
                          first
                          | (rw [if_pos (Or.inr (by omega)), if_pos rfl]; rfl)
                          | (rw [if_pos (Or.inl ⟨c_183, by omega⟩), if_pos rfl]; rfl)
                          | (rw [if_neg (fun h => Or.elim h (fun q => absurd q.1 c_183) (fun q => by omega)), if_neg (by decide), Nat.min_eq_left (by omega)]; rfl)
                          | (rw [if_neg (fun h => Or.elim h (fun q => absurd q.2 (by omega)) (fun q => by omega)), if_neg (by decide), Nat.min_eq_left (by omega)]; rfl)
                      exact hret (upd w2 26 (nI (1000 + a))) _ _ _ _ (hpost) hP hD hS dX8_takes_213
                    · refine lv_aload_n hx hb dX8_takes_186 rfl (lv_at hl 1 rfl) ?_
                      refine va_get (D := G.1) (ci := 8) (v := .int (w2 24)) (C := RX8) (T := TX8) (N := 44) hx hb hts hin8 hown hK.1 hP 0 rfl rfl 24 (by decide) f112 (fun _ h9 => h9) rfl dX8_takes_187 ?_
                      refine top_i (y := nI e) (hn24) ?_
                      refine lv_aload_n hx hb dX8_takes_190 rfl (lv_at hl 1 rfl) ?_
                      refine va_get (D := G.1) (ci := 8) (v := .int (w2 25)) (C := RX8) (T := TX8) (N := 44) hx hb hts hin8 hown hK.1 hP 0 rfl rfl 25 (by decide) f115 (fun _ h9 => h9) rfl dX8_takes_191 ?_
                      refine top_i (y := nI j) (hn25) ?_
                      refine lv_iconst (v := 1) hx hb dX8_takes_194 (by decide) ?_
                      refine lv_iadd hx hb dX8_takes_195 ?_
                      refine top_i (y := nI (j + 1)) (nI_1 j) ?_
                      refine lv_icmp_le (tgt := 205) hx hb dX8_takes_196 (by decide) (fun c_196 => ?_) (fun c_196 => ?_)
                      · have c_196 : e ≤ (j + 1) := (c_le (a := e) (b := j + 1) rfl rfl (by omega) (by omega)).mp c_196
                        refine lv_sipush (v := 1000) hx hb dX8_takes_205 (by decide) ?_
                        refine lv_iload_n hx hb dX8_takes_208 rfl (lv_at hl 0 rfl) ?_
                        refine lv_iadd hx hb dX8_takes_209 ?_
                        refine top_i (y := nI (1000 + a)) (m1000 a) ?_
                        refine va_put (D := G.1) (ci := 8) (v := .int (nI (1000 + a))) (ty := .int) (C := RX8) (T := TX8) (N := 44) hx hb hts hin8 tyX8 tyX8_ok nmX8 hown hK.1 hP hD hS 0 rfl rfl 26 (by decide) f118 (fun _ h9 => h9) rfl (by decide +kernel) rfl rfl (Nat.le_of_ble_eq_true rfl) dX8_takes_210 (fun H locs hP hD hS => ?_)
                        have hP : va_P G.1 vwCl [oB h 8 (oF8 (upd w2 26 (nI (1000 + a))) q), aI G (q 23) 140 tx] H := hP
                        have hD : va_D A [oB h 8 (oF8 (upd w2 26 (nI (1000 + a))) q), aI G (q 23) 140 tx] := hD
                        have hpost : (upd w2 26 (nI (1000 + a))) 24 = nI (tkE tx len i) ∧ (upd w2 26 (nI (1000 + a))) 25 = nI (tkS tx len i) ∧ (upd w2 26 (nI (1000 + a))) 26 = mtok tx len i ∧ (∀ k, ¬ k = 24 → ¬ k = 25 → ¬ k = 26 → (upd w2 26 (nI (1000 + a))) k = v k) := by
                          have hts2 : tsk tx len i = j := by rw [← hj2, tsk_stop (fun h => absurd h.1 (by omega))]
                          obtain ⟨e1, e2, e3, e4⟩ := tk_fig hts2 hfj.1 hfj.2
                          have hnf : ¬ (e < len ∧ pFig (tx e) = true) := by intro hq; simp [hq.1, hq.2] at c_121
                          rw [te_stop hnf] at hte
                          rw [tv_stop hnf] at htv
                          have hV : tkV tx len i = min a 100 := by rw [e4, ← htv]
                          have htk : tkn tx len j = (if (tx j = 48 ∧ 1 < e - j) ∨ 99 < min a 100 then -3 else -2) := by rw [tkn, ← hte, ← htv]
                          refine ⟨?_, ?_, ?_, fun k h24 h25 h26 => by simp [upd, h24, h25, h26]; exact hw2 k h24 h25 h26⟩
                          · rw [e2, ← hte]; exact hn24
                          · rw [e1]; exact hn25
                          · rw [mtok, hts2, if_neg (by omega), if_pos hfj.2, htk, hV]
                            first
                            | (rw [if_pos (Or.inr (by omega)), if_pos rfl]; rfl)
                            | (rw [if_pos (Or.inl ⟨c_183, by omega⟩), if_pos rfl]; rfl)
                            | (rw [if_neg (fun h => Or.elim h (fun q => absurd q.1 c_183) (fun q => by omega)), if_neg (by decide), Nat.min_eq_left (by omega)]; rfl)
                            | (rw [if_neg (fun h => Or.elim h (fun q => absurd q.2 (by omega)) (fun q => by omega)), if_neg (by decide), Nat.min_eq_left (by omega)]; rfl)
                        exact hret (upd w2 26 (nI (1000 + a))) _ _ _ _ (hpost) hP hD hS dX8_takes_213
                      · have c_196 : ¬ e ≤ (j + 1) := fun hne => c_196 ((c_le (a := e) (b := j + 1) rfl rfl (by omega) (by omega)).mpr hne)
                        refine lv_sipush (v := 2000) hx hb dX8_takes_199 (by decide) ?_
                        refine lv_goto (tgt := 210) hx hb dX8_takes_202 (by decide) ?_
                        refine va_put (D := G.1) (ci := 8) (v := .int 2000) (ty := .int) (C := RX8) (T := TX8) (N := 44) hx hb hts hin8 tyX8 tyX8_ok nmX8 hown hK.1 hP hD hS 0 rfl rfl 26 (by decide) f118 (fun _ h9 => h9) rfl (by decide +kernel) rfl rfl (Nat.le_of_ble_eq_true rfl) dX8_takes_210 (fun H locs hP hD hS => ?_)
                        have hP : va_P G.1 vwCl [oB h 8 (oF8 (upd w2 26 2000) q), aI G (q 23) 140 tx] H := hP
                        have hD : va_D A [oB h 8 (oF8 (upd w2 26 2000) q), aI G (q 23) 140 tx] := hD
                        have hpost : (upd w2 26 2000) 24 = nI (tkE tx len i) ∧ (upd w2 26 2000) 25 = nI (tkS tx len i) ∧ (upd w2 26 2000) 26 = mtok tx len i ∧ (∀ k, ¬ k = 24 → ¬ k = 25 → ¬ k = 26 → (upd w2 26 2000) k = v k) := by
                          have hts2 : tsk tx len i = j := by rw [← hj2, tsk_stop (fun h => absurd h.1 (by omega))]
                          obtain ⟨e1, e2, e3, e4⟩ := tk_fig hts2 hfj.1 hfj.2
                          have hnf : ¬ (e < len ∧ pFig (tx e) = true) := by intro hq; simp [hq.1, hq.2] at c_121
                          rw [te_stop hnf] at hte
                          rw [tv_stop hnf] at htv
                          have hV : tkV tx len i = min a 100 := by rw [e4, ← htv]
                          have htk : tkn tx len j = (if (tx j = 48 ∧ 1 < e - j) ∨ 99 < min a 100 then -3 else -2) := by rw [tkn, ← hte, ← htv]
                          refine ⟨?_, ?_, ?_, fun k h24 h25 h26 => by simp [upd, h24, h25, h26]; exact hw2 k h24 h25 h26⟩
                          · rw [e2, ← hte]; exact hn24
                          · rw [e1]; exact hn25
                          · rw [mtok, hts2, if_neg (by omega), if_pos hfj.2, htk, hV]
                            first
                            | (rw [if_pos (Or.inr (by omega)), if_pos rfl]; rfl)
                            | (rw [if_pos (Or.inl ⟨c_183, by omega⟩), if_pos rfl]; rfl)
                            | (rw [if_neg (fun h => Or.elim h (fun q => absurd q.1 c_183) (fun q => by omega)), if_neg (by decide), Nat.min_eq_left (by omega)]; rfl)
                            | (rw [if_neg (fun h => Or.elim h (fun q => absurd q.2 (by omega)) (fun q => by omega)), if_neg (by decide), Nat.min_eq_left (by omega)]; rfl)
                        exact hret (upd w2 26 2000) _ _ _ _ (hpost) hP hD hS dX8_takes_213
                · have c_121 : (decide (e < len) && pFig (tx e)) = true := b2i_n0.mp c_121
                  have hef : e < len ∧ pFig (tx e) = true := by simpa using c_121
                  have hdg := dg_le hef.2
                  refine lv_iload_n hx hb dX8_takes_124 rfl (lv_at hl 0 rfl) ?_
                  refine lv_bipush (v := 99) hx hb dX8_takes_125 (by decide) ?_
                  refine lv_icmp_le (tgt := 134) hx hb dX8_takes_127 (by decide) (fun c_127 => ?_) (fun c_127 => ?_)
                  · have c_127 : a ≤ 99 := (c_le (a := a) (b := 99) rfl rfl (by omega) (by omega)).mp c_127
                    refine lv_bipush (v := 10) hx hb dX8_takes_134 (by decide) ?_
                    refine lv_iload_n hx hb dX8_takes_136 rfl (lv_at hl 0 rfl) ?_
                    refine lv_imul hx hb dX8_takes_137 ?_
                    refine lv_aload_n hx hb dX8_takes_138 rfl (lv_at hl 1 rfl) ?_
                    refine va_get (D := G.1) (ci := 8) (v := .ref (q 23)) (C := RX8) (T := TX8) (N := 44) hx hb hts hin8 hown hK.1 hP 0 rfl rfl 23 (by decide) f59 (fun _ h9 => h9) rfl dX8_takes_139 ?_
                    refine lv_aload_n hx hb dX8_takes_142 rfl (lv_at hl 1 rfl) ?_
                    refine va_get (D := G.1) (ci := 8) (v := .int (w2 24)) (C := RX8) (T := TX8) (N := 44) hx hb hts hin8 hown hK.1 hP 0 rfl rfl 24 (by decide) f112 (fun _ h9 => h9) rfl dX8_takes_143 ?_
                    refine top_i (y := nI e) (hn24) ?_
                    refine al_i hx hb hK.1 hP 1 0 rfl rfl (j := e) (by omega) (Nat.le_of_ble_eq_true rfl) dX8_takes_146 ?_
                    refine lv_iadd hx hb dX8_takes_147 ?_
                    refine lv_bipush (v := 48) hx hb dX8_takes_148 (by decide) ?_
                    refine lv_isub hx hb dX8_takes_150 ?_
                    refine top_i (y := nI (a * 10 + dg (tx e))) (fig_val2 hef.2) ?_
                    refine lv_istore_n (lv' := [(1, .int (nI (a * 10 + dg (tx e)))), (0, .ref h)]) hx hb dX8_takes_151 rfl hl (by decide) rfl (fun ls hl => ?_)
                    refine lv_aload_n hx hb dX8_takes_152 rfl (lv_at hl 1 rfl) ?_
                    refine lv_dup hx hb dX8_takes_153 rfl ?_
                    refine va_get (D := G.1) (ci := 8) (v := .int (w2 24)) (C := RX8) (T := TX8) (N := 44) hx hb hts hin8 hown hK.1 hP 0 rfl rfl 24 (by decide) f112 (fun _ h9 => h9) rfl dX8_takes_154 ?_
                    refine top_i (y := nI e) (hn24) ?_
                    refine lv_iconst (v := 1) hx hb dX8_takes_157 (by decide) ?_
                    refine lv_iadd hx hb dX8_takes_158 ?_
                    refine top_i (y := nI (e + 1)) (nI_1 e) ?_
                    refine va_put (D := G.1) (ci := 8) (v := .int (nI (e + 1))) (ty := .int) (C := RX8) (T := TX8) (N := 44) hx hb hts hin8 tyX8 tyX8_ok nmX8 hown hK.1 hP hD hS 0 rfl rfl 24 (by decide) f112 (fun _ h9 => h9) rfl (by decide +kernel) rfl rfl (Nat.le_of_ble_eq_true rfl) dX8_takes_159 (fun H locs hP hD hS => ?_)
                    have hP : va_P G.1 vwCl [oB h 8 (oF8 (upd w2 24 (nI (e + 1))) q), aI G (q 23) 140 tx] H := hP
                    have hD : va_D A [oB h 8 (oF8 (upd w2 24 (nI (e + 1))) q), aI G (q 23) 140 tx] := hD
                    refine lv_goto (tgt := 113) hx hb dX8_takes_162 (by decide) ?_
                    exact ih113 (upd w2 24 (nI (e + 1))) (e + 1) (a * 10 + dg (tx e)) (by omega) (by omega) (by first | omega | (have := dg_le hef.2; omega)) (by rw [← te_step hef.1 hef.2]; exact hte) (by rw [← htv, tv_step hef.1 hef.2]; congr 1; omega) (rfl) (hn25) (fun k h24 h25 h26 => by simp [upd, h24]; exact hw2 k h24 h25 h26) _ _ hP hD hS _ (lv_sub hl [0, 1] rfl)
                  · have c_127 : ¬ a ≤ 99 := fun hne => c_127 ((c_le (a := a) (b := 99) rfl rfl (by omega) (by omega)).mpr hne)
                    refine lv_iload_n hx hb dX8_takes_130 rfl (lv_at hl 0 rfl) ?_
                    refine lv_goto (tgt := 151) hx hb dX8_takes_131 (by decide) ?_
                    refine lv_istore_n (lv' := [(1, .int (nI a)), (0, .ref h)]) hx hb dX8_takes_151 rfl hl (by decide) rfl (fun ls hl => ?_)
                    refine lv_aload_n hx hb dX8_takes_152 rfl (lv_at hl 1 rfl) ?_
                    refine lv_dup hx hb dX8_takes_153 rfl ?_
                    refine va_get (D := G.1) (ci := 8) (v := .int (w2 24)) (C := RX8) (T := TX8) (N := 44) hx hb hts hin8 hown hK.1 hP 0 rfl rfl 24 (by decide) f112 (fun _ h9 => h9) rfl dX8_takes_154 ?_
                    refine top_i (y := nI e) (hn24) ?_
                    refine lv_iconst (v := 1) hx hb dX8_takes_157 (by decide) ?_
                    refine lv_iadd hx hb dX8_takes_158 ?_
                    refine top_i (y := nI (e + 1)) (nI_1 e) ?_
                    refine va_put (D := G.1) (ci := 8) (v := .int (nI (e + 1))) (ty := .int) (C := RX8) (T := TX8) (N := 44) hx hb hts hin8 tyX8 tyX8_ok nmX8 hown hK.1 hP hD hS 0 rfl rfl 24 (by decide) f112 (fun _ h9 => h9) rfl (by decide +kernel) rfl rfl (Nat.le_of_ble_eq_true rfl) dX8_takes_159 (fun H locs hP hD hS => ?_)
                    have hP : va_P G.1 vwCl [oB h 8 (oF8 (upd w2 24 (nI (e + 1))) q), aI G (q 23) 140 tx] H := hP
                    have hD : va_D A [oB h 8 (oF8 (upd w2 24 (nI (e + 1))) q), aI G (q 23) 140 tx] := hD
                    refine lv_goto (tgt := 113) hx hb dX8_takes_162 (by decide) ?_
                    exact ih113 (upd w2 24 (nI (e + 1))) (e + 1) a (by omega) (by omega) (by first | omega | (have := dg_le hef.2; omega)) (by rw [← te_step hef.1 hef.2]; exact hte) (by rw [← htv, tv_step hef.1 hef.2]; congr 1; omega) (rfl) (hn25) (fun k h24 h25 h26 => by simp [upd, h24]; exact hw2 k h24 h25 h26) _ _ hP hD hS _ (lv_sub hl [0, 1] rfl)
            exact loop_113 _ (upd (upd w 25 (nI j)) 26 (tx j)) j 0 (Nat.lt_succ_self _) (by omega) (by omega) (rfl) (rfl) (hw24) (rfl) (fun k h24 h25 h26 => by simp [upd, h25, h26]; exact hw k h24) _ _ hP hD hS _ (lv_sub hl [0, 1] rfl)
          · have c_82 : (decide (j < len) && pFig (tx j)) = false := b2i_0.mp c_82
            refine lv_aload_n hx hb dX8_takes_85 rfl (lv_at hl 0 rfl) ?_
            refine lv_dup hx hb dX8_takes_86 rfl ?_
            refine va_get (D := G.1) (ci := 8) (v := .int (w 24)) (C := RX8) (T := TX8) (N := 44) hx hb hts hin8 hown hK.1 hP 0 rfl rfl 24 (by decide) f112 (fun _ h9 => h9) rfl dX8_takes_87 ?_
            refine top_i (y := nI j) (hw24) ?_
            refine lv_aload_n hx hb dX8_takes_90 rfl (lv_at hl 0 rfl) ?_
            refine va_get (D := G.1) (ci := 8) (v := .int (w 24)) (C := RX8) (T := TX8) (N := 44) hx hb hts hin8 hown hK.1 hP 0 rfl rfl 24 (by decide) f112 (fun _ h9 => h9) rfl dX8_takes_91 ?_
            refine top_i (y := nI j) (hw24) ?_
            refine lv_aload_n hx hb dX8_takes_94 rfl (lv_at hl 0 rfl) ?_
            refine va_get (D := G.1) (ci := 8) (v := .int (w 22)) (C := RX8) (T := TX8) (N := 44) hx hb hts hin8 hown hK.1 hP 0 rfl rfl 22 (by decide) f109 (fun _ h9 => h9) rfl dX8_takes_95 ?_
            refine top_i (y := nI len) ((hw 22 (by decide)).trans hl22) ?_
            refine lv_icmp_ge (tgt := 105) hx hb dX8_takes_98 (by decide) (fun c_98 => ?_) (fun c_98 => ?_)
            · have c_98 : len ≤ j := (c_le (a := len) (b := j) rfl rfl (by omega) (by omega)).mp c_98
              refine lv_iconst (v := 0) hx hb dX8_takes_105 (by decide) ?_
              refine lv_iadd hx hb dX8_takes_106 ?_
              refine top_i (y := nI j) (Int32.add_zero _) ?_
              refine va_put (D := G.1) (ci := 8) (v := .int (nI j)) (ty := .int) (C := RX8) (T := TX8) (N := 44) hx hb hts hin8 tyX8 tyX8_ok nmX8 hown hK.1 hP hD hS 0 rfl rfl 24 (by decide) f112 (fun _ h9 => h9) rfl (by decide +kernel) rfl rfl (Nat.le_of_ble_eq_true rfl) dX8_takes_107 (fun H locs hP hD hS => ?_)
              have hP : va_P G.1 vwCl [oB h 8 (oF8 (upd (upd (upd w 25 (nI j)) 26 (tx j)) 24 (nI j)) q), aI G (q 23) 140 tx] H := hP
              have hD : va_D A [oB h 8 (oF8 (upd (upd (upd w 25 (nI j)) 26 (tx j)) 24 (nI j)) q), aI G (q 23) 140 tx] := hD
              have hpost : (upd (upd (upd w 25 (nI j)) 26 (tx j)) 24 (nI j)) 24 = nI (tkE tx len i) ∧ (upd (upd (upd w 25 (nI j)) 26 (tx j)) 24 (nI j)) 25 = nI (tkS tx len i) ∧ (upd (upd (upd w 25 (nI j)) 26 (tx j)) 24 (nI j)) 26 = mtok tx len i ∧ (∀ k, ¬ k = 24 → ¬ k = 25 → ¬ k = 26 → (upd (upd (upd w 25 (nI j)) 26 (tx j)) 24 (nI j)) k = v k) := by
                have hts2 : tsk tx len i = j := by rw [← hj2, tsk_stop (fun h => absurd h.1 (by omega))]
                by_cases hjl : j < len
                · have hf : pFig (tx j) = false := by
                    have h1 := c_82
                    simpa [hjl] using h1
                  obtain ⟨e1, e2, e3⟩ := tk_let hts2 hjl hf
                  refine ⟨?_, ?_, ?_, fun k h24 h25 h26 => by simp [upd, h24, h25, h26]; exact hw k h24⟩
                  · rw [e2]; first | rfl | exact absurd hjl (by omega)
                  · rw [e1]; rfl
                  · rw [mtok, hts2, if_neg (by omega), if_neg (by rw [hf]; decide)]; first | rfl | exact absurd hjl (by omega)
                · obtain ⟨e1, e2, e3⟩ := tk_end hts2 (by omega)
                  refine ⟨?_, ?_, ?_, fun k h24 h25 h26 => by simp [upd, h24, h25, h26]; exact hw k h24⟩
                  · rw [e2]; first | rfl | exact absurd (show j < len by omega) hjl
                  · rw [e1]; rfl
                  · rw [mtok, hts2, if_pos (by omega)]; first | rfl | exact absurd (show j < len by omega) hjl
              exact hret (upd (upd (upd w 25 (nI j)) 26 (tx j)) 24 (nI j)) _ _ _ _ (hpost) hP hD hS dX8_takes_110
            · have c_98 : ¬ len ≤ j := fun hne => c_98 ((c_le (a := len) (b := j) rfl rfl (by omega) (by omega)).mpr hne)
              refine lv_iconst (v := 1) hx hb dX8_takes_101 (by decide) ?_
              refine lv_goto (tgt := 106) hx hb dX8_takes_102 (by decide) ?_
              refine lv_iadd hx hb dX8_takes_106 ?_
              refine top_i (y := nI (j + 1)) (nI_1 j) ?_
              refine va_put (D := G.1) (ci := 8) (v := .int (nI (j + 1))) (ty := .int) (C := RX8) (T := TX8) (N := 44) hx hb hts hin8 tyX8 tyX8_ok nmX8 hown hK.1 hP hD hS 0 rfl rfl 24 (by decide) f112 (fun _ h9 => h9) rfl (by decide +kernel) rfl rfl (Nat.le_of_ble_eq_true rfl) dX8_takes_107 (fun H locs hP hD hS => ?_)
              have hP : va_P G.1 vwCl [oB h 8 (oF8 (upd (upd (upd w 25 (nI j)) 26 (tx j)) 24 (nI (j + 1))) q), aI G (q 23) 140 tx] H := hP
              have hD : va_D A [oB h 8 (oF8 (upd (upd (upd w 25 (nI j)) 26 (tx j)) 24 (nI (j + 1))) q), aI G (q 23) 140 tx] := hD
              have hpost : (upd (upd (upd w 25 (nI j)) 26 (tx j)) 24 (nI (j + 1))) 24 = nI (tkE tx len i) ∧ (upd (upd (upd w 25 (nI j)) 26 (tx j)) 24 (nI (j + 1))) 25 = nI (tkS tx len i) ∧ (upd (upd (upd w 25 (nI j)) 26 (tx j)) 24 (nI (j + 1))) 26 = mtok tx len i ∧ (∀ k, ¬ k = 24 → ¬ k = 25 → ¬ k = 26 → (upd (upd (upd w 25 (nI j)) 26 (tx j)) 24 (nI (j + 1))) k = v k) := by
                have hts2 : tsk tx len i = j := by rw [← hj2, tsk_stop (fun h => absurd h.1 (by omega))]
                by_cases hjl : j < len
                · have hf : pFig (tx j) = false := by
                    have h1 := c_82
                    simpa [hjl] using h1
                  obtain ⟨e1, e2, e3⟩ := tk_let hts2 hjl hf
                  refine ⟨?_, ?_, ?_, fun k h24 h25 h26 => by simp [upd, h24, h25, h26]; exact hw k h24⟩
                  · rw [e2]; first | rfl | exact absurd hjl (by omega)
                  · rw [e1]; rfl
                  · rw [mtok, hts2, if_neg (by omega), if_neg (by rw [hf]; decide)]; first | rfl | exact absurd hjl (by omega)
                · obtain ⟨e1, e2, e3⟩ := tk_end hts2 (by omega)
                  refine ⟨?_, ?_, ?_, fun k h24 h25 h26 => by simp [upd, h24, h25, h26]; exact hw k h24⟩
                  · rw [e2]; first | rfl | exact absurd (show j < len by omega) hjl
                  · rw [e1]; rfl
                  · rw [mtok, hts2, if_pos (by omega)]; first | rfl | exact absurd (show j < len by omega) hjl
              exact hret (upd (upd (upd w 25 (nI j)) 26 (tx j)) 24 (nI (j + 1))) _ _ _ _ (hpost) hP hD hS dX8_takes_110
      · have c_8 : ¬ len ≤ j := fun hne => c_8 ((c_le (a := len) (b := j) rfl rfl (by omega) (by omega)).mpr hne)
        refine lv_aload_n hx hb dX8_takes_11 rfl (lv_at hl 0 rfl) ?_
        refine va_get (D := G.1) (ci := 8) (v := .ref (q 23)) (C := RX8) (T := TX8) (N := 44) hx hb hts hin8 hown hK.1 hP 0 rfl rfl 23 (by decide) f59 (fun _ h9 => h9) rfl dX8_takes_12 ?_
        refine lv_aload_n hx hb dX8_takes_15 rfl (lv_at hl 0 rfl) ?_
        refine va_get (D := G.1) (ci := 8) (v := .int (w 24)) (C := RX8) (T := TX8) (N := 44) hx hb hts hin8 hown hK.1 hP 0 rfl rfl 24 (by decide) f112 (fun _ h9 => h9) rfl dX8_takes_16 ?_
        refine top_i (y := nI j) (hw24) ?_
        refine al_i hx hb hK.1 hP 1 0 rfl rfl (j := j) (by omega) (Nat.le_of_ble_eq_true rfl) dX8_takes_19 ?_
        refine lv_bipush (v := 32) hx hb dX8_takes_20 (by decide) ?_
        refine lv_icmp_ne (tgt := 38) hx hb dX8_takes_22 (by decide) (fun c_22 => ?_) (fun c_22 => ?_)
        · refine lv_aload_n hx hb dX8_takes_38 rfl (lv_at hl 0 rfl) ?_
          refine lv_aload_n hx hb dX8_takes_39 rfl (lv_at hl 0 rfl) ?_
          refine va_get (D := G.1) (ci := 8) (v := .int (w 24)) (C := RX8) (T := TX8) (N := 44) hx hb hts hin8 hown hK.1 hP 0 rfl rfl 24 (by decide) f112 (fun _ h9 => h9) rfl dX8_takes_40 ?_
          refine top_i (y := nI j) (hw24) ?_
          refine va_put (D := G.1) (ci := 8) (v := .int (nI j)) (ty := .int) (C := RX8) (T := TX8) (N := 44) hx hb hts hin8 tyX8 tyX8_ok nmX8 hown hK.1 hP hD hS 0 rfl rfl 25 (by decide) f115 (fun _ h9 => h9) rfl (by decide +kernel) rfl rfl (Nat.le_of_ble_eq_true rfl) dX8_takes_43 (fun H locs hP hD hS => ?_)
          have hP : va_P G.1 vwCl [oB h 8 (oF8 (upd w 25 (nI j)) q), aI G (q 23) 140 tx] H := hP
          have hD : va_D A [oB h 8 (oF8 (upd w 25 (nI j)) q), aI G (q 23) 140 tx] := hD
          refine lv_aload_n hx hb dX8_takes_46 rfl (lv_at hl 0 rfl) ?_
          refine lv_aload_n hx hb dX8_takes_47 rfl (lv_at hl 0 rfl) ?_
          refine va_get (D := G.1) (ci := 8) (v := .int (w 24)) (C := RX8) (T := TX8) (N := 44) hx hb hts hin8 hown hK.1 hP 0 rfl rfl 24 (by decide) f112 (fun _ h9 => h9) rfl dX8_takes_48 ?_
          refine top_i (y := nI j) (hw24) ?_
          refine lv_aload_n hx hb dX8_takes_51 rfl (lv_at hl 0 rfl) ?_
          refine va_get (D := G.1) (ci := 8) (v := .int (w 22)) (C := RX8) (T := TX8) (N := 44) hx hb hts hin8 hown hK.1 hP 0 rfl rfl 22 (by decide) f109 (fun _ h9 => h9) rfl dX8_takes_52 ?_
          refine top_i (y := nI len) ((hw 22 (by decide)).trans hl22) ?_
          refine lv_icmp_ge (tgt := 70) hx hb dX8_takes_55 (by decide) (fun c_55 => ?_) (fun c_55 => ?_)
          · have c_55 : len ≤ j := (c_le (a := len) (b := j) rfl rfl (by omega) (by omega)).mp c_55
            refine lv_iconst (v := -1) hx hb dX8_takes_70 (by decide) ?_
            refine va_put (D := G.1) (ci := 8) (v := .int (-1)) (ty := .int) (C := RX8) (T := TX8) (N := 44) hx hb hts hin8 tyX8 tyX8_ok nmX8 hown hK.1 hP hD hS 0 rfl rfl 26 (by decide) f118 (fun _ h9 => h9) rfl (by decide +kernel) rfl rfl (Nat.le_of_ble_eq_true rfl) dX8_takes_71 (fun H locs hP hD hS => ?_)
            have hP : va_P G.1 vwCl [oB h 8 (oF8 (upd (upd w 25 (nI j)) 26 (-1)) q), aI G (q 23) 140 tx] H := hP
            have hD : va_D A [oB h 8 (oF8 (upd (upd w 25 (nI j)) 26 (-1)) q), aI G (q 23) 140 tx] := hD
            refine lv_aload_n hx hb dX8_takes_74 rfl (lv_at hl 0 rfl) ?_
            refine lv_aload_n hx hb dX8_takes_75 rfl (lv_at hl 0 rfl) ?_
            refine va_get (D := G.1) (ci := 8) (v := .int (w 24)) (C := RX8) (T := TX8) (N := 44) hx hb hts hin8 hown hK.1 hP 0 rfl rfl 24 (by decide) f112 (fun _ h9 => h9) rfl dX8_takes_76 ?_
            refine top_i (y := nI j) (hw24) ?_
            refine rd_i (va_runV (As := [.int (nI j)]) (rest := []) ⟨hx, hb, hml, hown, hts⟩ (c_X8_isFigure l G h (upd (upd w 25 (nI j)) 26 (-1)) q tx j len ((hw 22 (by decide)).trans hl22) (hlen) (by omega)) (cwV 1 hts gX8_takes_X8_isFigure rfl rfl rfl (by decide +kernel) ⟨Nat.le_of_ble_eq_true rfl, Nat.le_of_ble_eq_true rfl⟩) (rPre_V hK hP [0, 1] rfl 0 8 rfl rfl) rfl rfl hl.1 rfl (lv_room (Nat.le_of_ble_eq_true rfl)) dX8_takes_79 ⟨Nat.zero_le _, Nat.zero_le _⟩) (fun r_79 q_79 => ?_)
            obtain rfl : r_79 = b2i (decide (j < len) && pFig (tx j)) := q_79
            refine lv_if_ne (tgt := 111) hx hb dX8_takes_82 (by decide) (fun c_82 => ?_) (fun c_82 => ?_)
            · have c_82 : (decide (j < len) && pFig (tx j)) = true := b2i_n0.mp c_82
              have hfj : j < len ∧ pFig (tx j) = true := by simpa using c_82
              have hjl := hfj.1
              refine lv_iconst (v := 0) hx hb dX8_takes_111 (by decide) ?_
              refine lv_istore_n (lv' := [(1, .int 0), (0, .ref h)]) hx hb dX8_takes_112 rfl hl (by decide) rfl (fun ls hl => ?_)
              have loop_113 : ∀ (nF : Nat) (w2 : Nat → Int32) (e : Nat) (a : Nat), (len - e) < nF → (j ≤ e ∧ e ≤ len) → (a ≤ 999) → (te tx len e = te tx len j) → (tv tx len e (min a 100) = tv tx len j 0) → (w2 24 = nI e) → (w2 25 = nI j) → (∀ k, ¬ k = 24 → ¬ k = 25 → ¬ k = 26 → w2 k = v k) → ∀ (H : Heap) (locs : List Loc), va_P G.1 vwCl [oB h 8 (oF8 w2 q), aI G (q 23) 140 tx] H → va_D A [oB h 8 (oF8 w2 q), aI G (q 23) 140 tx] → va_S A sM.heap H locs → ∀ (ls : Array Slot), lv_has ls 2 [(1, .int (nI a)), (0, .ref h)] → W pM l eM rX8_takes sM mM [.ref h].toArray bM tM cM H locs 0 0 Q (F0 mM 113 ls []) := by
                intro nF
                induction nF with
                | zero => intro w2 e a hmF; exact absurd hmF (Nat.not_lt_zero _)
                | succ nF ih113 =>
                  intro w2 e a hmF he ha hte htv hn24 hn25 hw2 H locs hP hD hS ls hl
                  refine lv_aload_n hx hb dX8_takes_113 rfl (lv_at hl 1 rfl) ?_
                  refine lv_aload_n hx hb dX8_takes_114 rfl (lv_at hl 1 rfl) ?_
                  refine va_get (D := G.1) (ci := 8) (v := .int (w2 24)) (C := RX8) (T := TX8) (N := 44) hx hb hts hin8 hown hK.1 hP 0 rfl rfl 24 (by decide) f112 (fun _ h9 => h9) rfl dX8_takes_115 ?_
                  refine top_i (y := nI e) (hn24) ?_
                  refine rd_i (va_runV (As := [.int (nI e)]) (rest := []) ⟨hx, hb, hml, hown, hts⟩ (c_X8_isFigure l G h w2 q tx e len ((hw2 22 (by decide) (by decide) (by decide)).trans hl22) (hlen) (by omega)) (cwV 1 hts gX8_takes_X8_isFigure rfl rfl rfl (by decide +kernel) ⟨Nat.le_of_ble_eq_true rfl, Nat.le_of_ble_eq_true rfl⟩) (rPre_V hK hP [0, 1] rfl 0 8 rfl rfl) rfl rfl hl.1 rfl (lv_room (Nat.le_of_ble_eq_true rfl)) dX8_takes_118 ⟨Nat.zero_le _, Nat.zero_le _⟩) (fun r_118 q_118 => ?_)
                  obtain rfl : r_118 = b2i (decide (e < len) && pFig (tx e)) := q_118
                  refine lv_if_eq (tgt := 165) hx hb dX8_takes_121 (by decide) (fun c_121 => ?_) (fun c_121 => ?_)
                  · have c_121 : (decide (e < len) && pFig (tx e)) = false := b2i_0.mp c_121
                    refine lv_aload_n hx hb dX8_takes_165 rfl (lv_at hl 1 rfl) ?_
                    refine lv_iload_n hx hb dX8_takes_166 rfl (lv_at hl 0 rfl) ?_
                    refine lv_bipush (v := 99) hx hb dX8_takes_167 (by decide) ?_
                    refine lv_icmp_gt (tgt := 199) hx hb dX8_takes_169 (by decide) (fun c_169 => ?_) (fun c_169 => ?_)
                    · have c_169 : 99 < a := (c_lt (a := 99) (b := a) rfl rfl (by omega) (by omega)).mp c_169
                      refine lv_sipush (v := 2000) hx hb dX8_takes_199 (by decide) ?_
                      refine lv_goto (tgt := 210) hx hb dX8_takes_202 (by decide) ?_
                      refine va_put (D := G.1) (ci := 8) (v := .int 2000) (ty := .int) (C := RX8) (T := TX8) (N := 44) hx hb hts hin8 tyX8 tyX8_ok nmX8 hown hK.1 hP hD hS 0 rfl rfl 26 (by decide) f118 (fun _ h9 => h9) rfl (by decide +kernel) rfl rfl (Nat.le_of_ble_eq_true rfl) dX8_takes_210 (fun H locs hP hD hS => ?_)
                      have hP : va_P G.1 vwCl [oB h 8 (oF8 (upd w2 26 2000) q), aI G (q 23) 140 tx] H := hP
                      have hD : va_D A [oB h 8 (oF8 (upd w2 26 2000) q), aI G (q 23) 140 tx] := hD
                      have hpost : (upd w2 26 2000) 24 = nI (tkE tx len i) ∧ (upd w2 26 2000) 25 = nI (tkS tx len i) ∧ (upd w2 26 2000) 26 = mtok tx len i ∧ (∀ k, ¬ k = 24 → ¬ k = 25 → ¬ k = 26 → (upd w2 26 2000) k = v k) := by
                        have hts2 : tsk tx len i = j := by rw [← hj2, tsk_stop (fun h => c_22 h.2)]
                        obtain ⟨e1, e2, e3, e4⟩ := tk_fig hts2 hfj.1 hfj.2
                        have hnf : ¬ (e < len ∧ pFig (tx e) = true) := by intro hq; simp [hq.1, hq.2] at c_121
                        rw [te_stop hnf] at hte
                        rw [tv_stop hnf] at htv
                        have hV : tkV tx len i = min a 100 := by rw [e4, ← htv]
                        have htk : tkn tx len j = (if (tx j = 48 ∧ 1 < e - j) ∨ 99 < min a 100 then -3 else -2) := by rw [tkn, ← hte, ← htv]
                        refine ⟨?_, ?_, ?_, fun k h24 h25 h26 => by simp [upd, h24, h25, h26]; exact hw2 k h24 h25 h26⟩
                        · rw [e2, ← hte]; exact hn24
                        · rw [e1]; exact hn25
                        · rw [mtok, hts2, if_neg (by omega), if_pos hfj.2, htk, hV]
                          first
                          | (rw [if_pos (Or.inr (by omega)), if_pos rfl]; rfl)
                          | (rw [if_pos (Or.inl ⟨c_183, by omega⟩), if_pos rfl]; rfl)
                          | (rw [if_neg (fun h => Or.elim h (fun q => absurd q.1 c_183) (fun q => by omega)), if_neg (by decide), Nat.min_eq_left (by omega)]; rfl)
                          | (rw [if_neg (fun h => Or.elim h (fun q => absurd q.2 (by omega)) (fun q => by omega)), if_neg (by decide), Nat.min_eq_left (by omega)]; rfl)
                      exact hret (upd w2 26 2000) _ _ _ _ (hpost) hP hD hS dX8_takes_213
                    · have c_169 : ¬ 99 < a := fun hne => c_169 ((c_lt (a := 99) (b := a) rfl rfl (by omega) (by omega)).mpr hne)
                      refine lv_aload_n hx hb dX8_takes_172 rfl (lv_at hl 1 rfl) ?_
                      refine va_get (D := G.1) (ci := 8) (v := .ref (q 23)) (C := RX8) (T := TX8) (N := 44) hx hb hts hin8 hown hK.1 hP 0 rfl rfl 23 (by decide) f59 (fun _ h9 => h9) rfl dX8_takes_173 ?_
                      refine lv_aload_n hx hb dX8_takes_176 rfl (lv_at hl 1 rfl) ?_
                      refine va_get (D := G.1) (ci := 8) (v := .int (w2 25)) (C := RX8) (T := TX8) (N := 44) hx hb hts hin8 hown hK.1 hP 0 rfl rfl 25 (by decide) f115 (fun _ h9 => h9) rfl dX8_takes_177 ?_
                      refine top_i (y := nI j) (hn25) ?_
                      refine al_i hx hb hK.1 hP 1 0 rfl rfl (j := j) (by omega) (Nat.le_of_ble_eq_true rfl) dX8_takes_180 ?_
                      refine lv_bipush (v := 48) hx hb dX8_takes_181 (by decide) ?_
                      refine lv_icmp_ne (tgt := 205) hx hb dX8_takes_183 (by decide) (fun c_183 => ?_) (fun c_183 => ?_)
                      · refine lv_sipush (v := 1000) hx hb dX8_takes_205 (by decide) ?_
                        refine lv_iload_n hx hb dX8_takes_208 rfl (lv_at hl 0 rfl) ?_
                        refine lv_iadd hx hb dX8_takes_209 ?_
                        refine top_i (y := nI (1000 + a)) (m1000 a) ?_
                        refine va_put (D := G.1) (ci := 8) (v := .int (nI (1000 + a))) (ty := .int) (C := RX8) (T := TX8) (N := 44) hx hb hts hin8 tyX8 tyX8_ok nmX8 hown hK.1 hP hD hS 0 rfl rfl 26 (by decide) f118 (fun _ h9 => h9) rfl (by decide +kernel) rfl rfl (Nat.le_of_ble_eq_true rfl) dX8_takes_210 (fun H locs hP hD hS => ?_)
                        have hP : va_P G.1 vwCl [oB h 8 (oF8 (upd w2 26 (nI (1000 + a))) q), aI G (q 23) 140 tx] H := hP
                        have hD : va_D A [oB h 8 (oF8 (upd w2 26 (nI (1000 + a))) q), aI G (q 23) 140 tx] := hD
                        have hpost : (upd w2 26 (nI (1000 + a))) 24 = nI (tkE tx len i) ∧ (upd w2 26 (nI (1000 + a))) 25 = nI (tkS tx len i) ∧ (upd w2 26 (nI (1000 + a))) 26 = mtok tx len i ∧ (∀ k, ¬ k = 24 → ¬ k = 25 → ¬ k = 26 → (upd w2 26 (nI (1000 + a))) k = v k) := by
                          have hts2 : tsk tx len i = j := by rw [← hj2, tsk_stop (fun h => c_22 h.2)]
                          obtain ⟨e1, e2, e3, e4⟩ := tk_fig hts2 hfj.1 hfj.2
                          have hnf : ¬ (e < len ∧ pFig (tx e) = true) := by intro hq; simp [hq.1, hq.2] at c_121
                          rw [te_stop hnf] at hte
                          rw [tv_stop hnf] at htv
                          have hV : tkV tx len i = min a 100 := by rw [e4, ← htv]
                          have htk : tkn tx len j = (if (tx j = 48 ∧ 1 < e - j) ∨ 99 < min a 100 then -3 else -2) := by rw [tkn, ← hte, ← htv]
                          refine ⟨?_, ?_, ?_, fun k h24 h25 h26 => by simp [upd, h24, h25, h26]; exact hw2 k h24 h25 h26⟩
                          · rw [e2, ← hte]; exact hn24
                          · rw [e1]; exact hn25
                          · rw [mtok, hts2, if_neg (by omega), if_pos hfj.2, htk, hV]
                            first
                            | (rw [if_pos (Or.inr (by omega)), if_pos rfl]; rfl)
                            | (rw [if_pos (Or.inl ⟨c_183, by omega⟩), if_pos rfl]; rfl)
                            | (rw [if_neg (fun h => Or.elim h (fun q => absurd q.1 c_183) (fun q => by omega)), if_neg (by decide), Nat.min_eq_left (by omega)]; rfl)
                            | (rw [if_neg (fun h => Or.elim h (fun q => absurd q.2 (by omega)) (fun q => by omega)), if_neg (by decide), Nat.min_eq_left (by omega)]; rfl)
                        exact hret (upd w2 26 (nI (1000 + a))) _ _ _ _ (hpost) hP hD hS dX8_takes_213
                      · refine lv_aload_n hx hb dX8_takes_186 rfl (lv_at hl 1 rfl) ?_
                        refine va_get (D := G.1) (ci := 8) (v := .int (w2 24)) (C := RX8) (T := TX8) (N := 44) hx hb hts hin8 hown hK.1 hP 0 rfl rfl 24 (by decide) f112 (fun _ h9 => h9) rfl dX8_takes_187 ?_
                        refine top_i (y := nI e) (hn24) ?_
                        refine lv_aload_n hx hb dX8_takes_190 rfl (lv_at hl 1 rfl) ?_
                        refine va_get (D := G.1) (ci := 8) (v := .int (w2 25)) (C := RX8) (T := TX8) (N := 44) hx hb hts hin8 hown hK.1 hP 0 rfl rfl 25 (by decide) f115 (fun _ h9 => h9) rfl dX8_takes_191 ?_
                        refine top_i (y := nI j) (hn25) ?_
                        refine lv_iconst (v := 1) hx hb dX8_takes_194 (by decide) ?_
                        refine lv_iadd hx hb dX8_takes_195 ?_
                        refine top_i (y := nI (j + 1)) (nI_1 j) ?_
                        refine lv_icmp_le (tgt := 205) hx hb dX8_takes_196 (by decide) (fun c_196 => ?_) (fun c_196 => ?_)
                        · have c_196 : e ≤ (j + 1) := (c_le (a := e) (b := j + 1) rfl rfl (by omega) (by omega)).mp c_196
                          refine lv_sipush (v := 1000) hx hb dX8_takes_205 (by decide) ?_
                          refine lv_iload_n hx hb dX8_takes_208 rfl (lv_at hl 0 rfl) ?_
                          refine lv_iadd hx hb dX8_takes_209 ?_
                          refine top_i (y := nI (1000 + a)) (m1000 a) ?_
                          refine va_put (D := G.1) (ci := 8) (v := .int (nI (1000 + a))) (ty := .int) (C := RX8) (T := TX8) (N := 44) hx hb hts hin8 tyX8 tyX8_ok nmX8 hown hK.1 hP hD hS 0 rfl rfl 26 (by decide) f118 (fun _ h9 => h9) rfl (by decide +kernel) rfl rfl (Nat.le_of_ble_eq_true rfl) dX8_takes_210 (fun H locs hP hD hS => ?_)
                          have hP : va_P G.1 vwCl [oB h 8 (oF8 (upd w2 26 (nI (1000 + a))) q), aI G (q 23) 140 tx] H := hP
                          have hD : va_D A [oB h 8 (oF8 (upd w2 26 (nI (1000 + a))) q), aI G (q 23) 140 tx] := hD
                          have hpost : (upd w2 26 (nI (1000 + a))) 24 = nI (tkE tx len i) ∧ (upd w2 26 (nI (1000 + a))) 25 = nI (tkS tx len i) ∧ (upd w2 26 (nI (1000 + a))) 26 = mtok tx len i ∧ (∀ k, ¬ k = 24 → ¬ k = 25 → ¬ k = 26 → (upd w2 26 (nI (1000 + a))) k = v k) := by
                            have hts2 : tsk tx len i = j := by rw [← hj2, tsk_stop (fun h => c_22 h.2)]
                            obtain ⟨e1, e2, e3, e4⟩ := tk_fig hts2 hfj.1 hfj.2
                            have hnf : ¬ (e < len ∧ pFig (tx e) = true) := by intro hq; simp [hq.1, hq.2] at c_121
                            rw [te_stop hnf] at hte
                            rw [tv_stop hnf] at htv
                            have hV : tkV tx len i = min a 100 := by rw [e4, ← htv]
                            have htk : tkn tx len j = (if (tx j = 48 ∧ 1 < e - j) ∨ 99 < min a 100 then -3 else -2) := by rw [tkn, ← hte, ← htv]
                            refine ⟨?_, ?_, ?_, fun k h24 h25 h26 => by simp [upd, h24, h25, h26]; exact hw2 k h24 h25 h26⟩
                            · rw [e2, ← hte]; exact hn24
                            · rw [e1]; exact hn25
                            · rw [mtok, hts2, if_neg (by omega), if_pos hfj.2, htk, hV]
                              first
                              | (rw [if_pos (Or.inr (by omega)), if_pos rfl]; rfl)
                              | (rw [if_pos (Or.inl ⟨c_183, by omega⟩), if_pos rfl]; rfl)
                              | (rw [if_neg (fun h => Or.elim h (fun q => absurd q.1 c_183) (fun q => by omega)), if_neg (by decide), Nat.min_eq_left (by omega)]; rfl)
                              | (rw [if_neg (fun h => Or.elim h (fun q => absurd q.2 (by omega)) (fun q => by omega)), if_neg (by decide), Nat.min_eq_left (by omega)]; rfl)
                          exact hret (upd w2 26 (nI (1000 + a))) _ _ _ _ (hpost) hP hD hS dX8_takes_213
                        · have c_196 : ¬ e ≤ (j + 1) := fun hne => c_196 ((c_le (a := e) (b := j + 1) rfl rfl (by omega) (by omega)).mpr hne)
                          refine lv_sipush (v := 2000) hx hb dX8_takes_199 (by decide) ?_
                          refine lv_goto (tgt := 210) hx hb dX8_takes_202 (by decide) ?_
                          refine va_put (D := G.1) (ci := 8) (v := .int 2000) (ty := .int) (C := RX8) (T := TX8) (N := 44) hx hb hts hin8 tyX8 tyX8_ok nmX8 hown hK.1 hP hD hS 0 rfl rfl 26 (by decide) f118 (fun _ h9 => h9) rfl (by decide +kernel) rfl rfl (Nat.le_of_ble_eq_true rfl) dX8_takes_210 (fun H locs hP hD hS => ?_)
                          have hP : va_P G.1 vwCl [oB h 8 (oF8 (upd w2 26 2000) q), aI G (q 23) 140 tx] H := hP
                          have hD : va_D A [oB h 8 (oF8 (upd w2 26 2000) q), aI G (q 23) 140 tx] := hD
                          have hpost : (upd w2 26 2000) 24 = nI (tkE tx len i) ∧ (upd w2 26 2000) 25 = nI (tkS tx len i) ∧ (upd w2 26 2000) 26 = mtok tx len i ∧ (∀ k, ¬ k = 24 → ¬ k = 25 → ¬ k = 26 → (upd w2 26 2000) k = v k) := by
                            have hts2 : tsk tx len i = j := by rw [← hj2, tsk_stop (fun h => c_22 h.2)]
                            obtain ⟨e1, e2, e3, e4⟩ := tk_fig hts2 hfj.1 hfj.2
                            have hnf : ¬ (e < len ∧ pFig (tx e) = true) := by intro hq; simp [hq.1, hq.2] at c_121
                            rw [te_stop hnf] at hte
                            rw [tv_stop hnf] at htv
                            have hV : tkV tx len i = min a 100 := by rw [e4, ← htv]
                            have htk : tkn tx len j = (if (tx j = 48 ∧ 1 < e - j) ∨ 99 < min a 100 then -3 else -2) := by rw [tkn, ← hte, ← htv]
                            refine ⟨?_, ?_, ?_, fun k h24 h25 h26 => by simp [upd, h24, h25, h26]; exact hw2 k h24 h25 h26⟩
                            · rw [e2, ← hte]; exact hn24
                            · rw [e1]; exact hn25
                            · rw [mtok, hts2, if_neg (by omega), if_pos hfj.2, htk, hV]
                              first
                              | (rw [if_pos (Or.inr (by omega)), if_pos rfl]; rfl)
                              | (rw [if_pos (Or.inl ⟨c_183, by omega⟩), if_pos rfl]; rfl)
                              | (rw [if_neg (fun h => Or.elim h (fun q => absurd q.1 c_183) (fun q => by omega)), if_neg (by decide), Nat.min_eq_left (by omega)]; rfl)
                              | (rw [if_neg (fun h => Or.elim h (fun q => absurd q.2 (by omega)) (fun q => by omega)), if_neg (by decide), Nat.min_eq_left (by omega)]; rfl)
                          exact hret (upd w2 26 2000) _ _ _ _ (hpost) hP hD hS dX8_takes_213
                  · have c_121 : (decide (e < len) && pFig (tx e)) = true := b2i_n0.mp c_121
                    have hef : e < len ∧ pFig (tx e) = true := by simpa using c_121
                    have hdg := dg_le hef.2
                    refine lv_iload_n hx hb dX8_takes_124 rfl (lv_at hl 0 rfl) ?_
                    refine lv_bipush (v := 99) hx hb dX8_takes_125 (by decide) ?_
                    refine lv_icmp_le (tgt := 134) hx hb dX8_takes_127 (by decide) (fun c_127 => ?_) (fun c_127 => ?_)
                    · have c_127 : a ≤ 99 := (c_le (a := a) (b := 99) rfl rfl (by omega) (by omega)).mp c_127
                      refine lv_bipush (v := 10) hx hb dX8_takes_134 (by decide) ?_
                      refine lv_iload_n hx hb dX8_takes_136 rfl (lv_at hl 0 rfl) ?_
                      refine lv_imul hx hb dX8_takes_137 ?_
                      refine lv_aload_n hx hb dX8_takes_138 rfl (lv_at hl 1 rfl) ?_
                      refine va_get (D := G.1) (ci := 8) (v := .ref (q 23)) (C := RX8) (T := TX8) (N := 44) hx hb hts hin8 hown hK.1 hP 0 rfl rfl 23 (by decide) f59 (fun _ h9 => h9) rfl dX8_takes_139 ?_
                      refine lv_aload_n hx hb dX8_takes_142 rfl (lv_at hl 1 rfl) ?_
                      refine va_get (D := G.1) (ci := 8) (v := .int (w2 24)) (C := RX8) (T := TX8) (N := 44) hx hb hts hin8 hown hK.1 hP 0 rfl rfl 24 (by decide) f112 (fun _ h9 => h9) rfl dX8_takes_143 ?_
                      refine top_i (y := nI e) (hn24) ?_
                      refine al_i hx hb hK.1 hP 1 0 rfl rfl (j := e) (by omega) (Nat.le_of_ble_eq_true rfl) dX8_takes_146 ?_
                      refine lv_iadd hx hb dX8_takes_147 ?_
                      refine lv_bipush (v := 48) hx hb dX8_takes_148 (by decide) ?_
                      refine lv_isub hx hb dX8_takes_150 ?_
                      refine top_i (y := nI (a * 10 + dg (tx e))) (fig_val2 hef.2) ?_
                      refine lv_istore_n (lv' := [(1, .int (nI (a * 10 + dg (tx e)))), (0, .ref h)]) hx hb dX8_takes_151 rfl hl (by decide) rfl (fun ls hl => ?_)
                      refine lv_aload_n hx hb dX8_takes_152 rfl (lv_at hl 1 rfl) ?_
                      refine lv_dup hx hb dX8_takes_153 rfl ?_
                      refine va_get (D := G.1) (ci := 8) (v := .int (w2 24)) (C := RX8) (T := TX8) (N := 44) hx hb hts hin8 hown hK.1 hP 0 rfl rfl 24 (by decide) f112 (fun _ h9 => h9) rfl dX8_takes_154 ?_
                      refine top_i (y := nI e) (hn24) ?_
                      refine lv_iconst (v := 1) hx hb dX8_takes_157 (by decide) ?_
                      refine lv_iadd hx hb dX8_takes_158 ?_
                      refine top_i (y := nI (e + 1)) (nI_1 e) ?_
                      refine va_put (D := G.1) (ci := 8) (v := .int (nI (e + 1))) (ty := .int) (C := RX8) (T := TX8) (N := 44) hx hb hts hin8 tyX8 tyX8_ok nmX8 hown hK.1 hP hD hS 0 rfl rfl 24 (by decide) f112 (fun _ h9 => h9) rfl (by decide +kernel) rfl rfl (Nat.le_of_ble_eq_true rfl) dX8_takes_159 (fun H locs hP hD hS => ?_)
                      have hP : va_P G.1 vwCl [oB h 8 (oF8 (upd w2 24 (nI (e + 1))) q), aI G (q 23) 140 tx] H := hP
                      have hD : va_D A [oB h 8 (oF8 (upd w2 24 (nI (e + 1))) q), aI G (q 23) 140 tx] := hD
                      refine lv_goto (tgt := 113) hx hb dX8_takes_162 (by decide) ?_
                      exact ih113 (upd w2 24 (nI (e + 1))) (e + 1) (a * 10 + dg (tx e)) (by omega) (by omega) (by first | omega | (have := dg_le hef.2; omega)) (by rw [← te_step hef.1 hef.2]; exact hte) (by rw [← htv, tv_step hef.1 hef.2]; congr 1; omega) (rfl) (hn25) (fun k h24 h25 h26 => by simp [upd, h24]; exact hw2 k h24 h25 h26) _ _ hP hD hS _ (lv_sub hl [0, 1] rfl)
                    · have c_127 : ¬ a ≤ 99 := fun hne => c_127 ((c_le (a := a) (b := 99) rfl rfl (by omega) (by omega)).mpr hne)
                      refine lv_iload_n hx hb dX8_takes_130 rfl (lv_at hl 0 rfl) ?_
                      refine lv_goto (tgt := 151) hx hb dX8_takes_131 (by decide) ?_
                      refine lv_istore_n (lv' := [(1, .int (nI a)), (0, .ref h)]) hx hb dX8_takes_151 rfl hl (by decide) rfl (fun ls hl => ?_)
                      refine lv_aload_n hx hb dX8_takes_152 rfl (lv_at hl 1 rfl) ?_
                      refine lv_dup hx hb dX8_takes_153 rfl ?_
                      refine va_get (D := G.1) (ci := 8) (v := .int (w2 24)) (C := RX8) (T := TX8) (N := 44) hx hb hts hin8 hown hK.1 hP 0 rfl rfl 24 (by decide) f112 (fun _ h9 => h9) rfl dX8_takes_154 ?_
                      refine top_i (y := nI e) (hn24) ?_
                      refine lv_iconst (v := 1) hx hb dX8_takes_157 (by decide) ?_
                      refine lv_iadd hx hb dX8_takes_158 ?_
                      refine top_i (y := nI (e + 1)) (nI_1 e) ?_
                      refine va_put (D := G.1) (ci := 8) (v := .int (nI (e + 1))) (ty := .int) (C := RX8) (T := TX8) (N := 44) hx hb hts hin8 tyX8 tyX8_ok nmX8 hown hK.1 hP hD hS 0 rfl rfl 24 (by decide) f112 (fun _ h9 => h9) rfl (by decide +kernel) rfl rfl (Nat.le_of_ble_eq_true rfl) dX8_takes_159 (fun H locs hP hD hS => ?_)
                      have hP : va_P G.1 vwCl [oB h 8 (oF8 (upd w2 24 (nI (e + 1))) q), aI G (q 23) 140 tx] H := hP
                      have hD : va_D A [oB h 8 (oF8 (upd w2 24 (nI (e + 1))) q), aI G (q 23) 140 tx] := hD
                      refine lv_goto (tgt := 113) hx hb dX8_takes_162 (by decide) ?_
                      exact ih113 (upd w2 24 (nI (e + 1))) (e + 1) a (by omega) (by omega) (by first | omega | (have := dg_le hef.2; omega)) (by rw [← te_step hef.1 hef.2]; exact hte) (by rw [← htv, tv_step hef.1 hef.2]; congr 1; omega) (rfl) (hn25) (fun k h24 h25 h26 => by simp [upd, h24]; exact hw2 k h24 h25 h26) _ _ hP hD hS _ (lv_sub hl [0, 1] rfl)
              exact loop_113 _ (upd (upd w 25 (nI j)) 26 (-1)) j 0 (Nat.lt_succ_self _) (by omega) (by omega) (rfl) (rfl) (hw24) (rfl) (fun k h24 h25 h26 => by simp [upd, h25, h26]; exact hw k h24) _ _ hP hD hS _ (lv_sub hl [0, 1] rfl)
            · have c_82 : (decide (j < len) && pFig (tx j)) = false := b2i_0.mp c_82
              refine lv_aload_n hx hb dX8_takes_85 rfl (lv_at hl 0 rfl) ?_
              refine lv_dup hx hb dX8_takes_86 rfl ?_
              refine va_get (D := G.1) (ci := 8) (v := .int (w 24)) (C := RX8) (T := TX8) (N := 44) hx hb hts hin8 hown hK.1 hP 0 rfl rfl 24 (by decide) f112 (fun _ h9 => h9) rfl dX8_takes_87 ?_
              refine top_i (y := nI j) (hw24) ?_
              refine lv_aload_n hx hb dX8_takes_90 rfl (lv_at hl 0 rfl) ?_
              refine va_get (D := G.1) (ci := 8) (v := .int (w 24)) (C := RX8) (T := TX8) (N := 44) hx hb hts hin8 hown hK.1 hP 0 rfl rfl 24 (by decide) f112 (fun _ h9 => h9) rfl dX8_takes_91 ?_
              refine top_i (y := nI j) (hw24) ?_
              refine lv_aload_n hx hb dX8_takes_94 rfl (lv_at hl 0 rfl) ?_
              refine va_get (D := G.1) (ci := 8) (v := .int (w 22)) (C := RX8) (T := TX8) (N := 44) hx hb hts hin8 hown hK.1 hP 0 rfl rfl 22 (by decide) f109 (fun _ h9 => h9) rfl dX8_takes_95 ?_
              refine top_i (y := nI len) ((hw 22 (by decide)).trans hl22) ?_
              refine lv_icmp_ge (tgt := 105) hx hb dX8_takes_98 (by decide) (fun c_98 => ?_) (fun c_98 => ?_)
              · have c_98 : len ≤ j := (c_le (a := len) (b := j) rfl rfl (by omega) (by omega)).mp c_98
                refine lv_iconst (v := 0) hx hb dX8_takes_105 (by decide) ?_
                refine lv_iadd hx hb dX8_takes_106 ?_
                refine top_i (y := nI j) (Int32.add_zero _) ?_
                refine va_put (D := G.1) (ci := 8) (v := .int (nI j)) (ty := .int) (C := RX8) (T := TX8) (N := 44) hx hb hts hin8 tyX8 tyX8_ok nmX8 hown hK.1 hP hD hS 0 rfl rfl 24 (by decide) f112 (fun _ h9 => h9) rfl (by decide +kernel) rfl rfl (Nat.le_of_ble_eq_true rfl) dX8_takes_107 (fun H locs hP hD hS => ?_)
                have hP : va_P G.1 vwCl [oB h 8 (oF8 (upd (upd (upd w 25 (nI j)) 26 (-1)) 24 (nI j)) q), aI G (q 23) 140 tx] H := hP
                have hD : va_D A [oB h 8 (oF8 (upd (upd (upd w 25 (nI j)) 26 (-1)) 24 (nI j)) q), aI G (q 23) 140 tx] := hD
                have hpost : (upd (upd (upd w 25 (nI j)) 26 (-1)) 24 (nI j)) 24 = nI (tkE tx len i) ∧ (upd (upd (upd w 25 (nI j)) 26 (-1)) 24 (nI j)) 25 = nI (tkS tx len i) ∧ (upd (upd (upd w 25 (nI j)) 26 (-1)) 24 (nI j)) 26 = mtok tx len i ∧ (∀ k, ¬ k = 24 → ¬ k = 25 → ¬ k = 26 → (upd (upd (upd w 25 (nI j)) 26 (-1)) 24 (nI j)) k = v k) := by
                  have hts2 : tsk tx len i = j := by rw [← hj2, tsk_stop (fun h => c_22 h.2)]
                  by_cases hjl : j < len
                  · have hf : pFig (tx j) = false := by
                      have h1 := c_82
                      simpa [hjl] using h1
                    obtain ⟨e1, e2, e3⟩ := tk_let hts2 hjl hf
                    refine ⟨?_, ?_, ?_, fun k h24 h25 h26 => by simp [upd, h24, h25, h26]; exact hw k h24⟩
                    · rw [e2]; first | rfl | exact absurd hjl (by omega)
                    · rw [e1]; rfl
                    · rw [mtok, hts2, if_neg (by omega), if_neg (by rw [hf]; decide)]; first | rfl | exact absurd hjl (by omega)
                  · obtain ⟨e1, e2, e3⟩ := tk_end hts2 (by omega)
                    refine ⟨?_, ?_, ?_, fun k h24 h25 h26 => by simp [upd, h24, h25, h26]; exact hw k h24⟩
                    · rw [e2]; first | rfl | exact absurd (show j < len by omega) hjl
                    · rw [e1]; rfl
                    · rw [mtok, hts2, if_pos (by omega)]; first | rfl | exact absurd (show j < len by omega) hjl
                exact hret (upd (upd (upd w 25 (nI j)) 26 (-1)) 24 (nI j)) _ _ _ _ (hpost) hP hD hS dX8_takes_110
              · have c_98 : ¬ len ≤ j := fun hne => c_98 ((c_le (a := len) (b := j) rfl rfl (by omega) (by omega)).mpr hne)
                refine lv_iconst (v := 1) hx hb dX8_takes_101 (by decide) ?_
                refine lv_goto (tgt := 106) hx hb dX8_takes_102 (by decide) ?_
                refine lv_iadd hx hb dX8_takes_106 ?_
                refine top_i (y := nI (j + 1)) (nI_1 j) ?_
                refine va_put (D := G.1) (ci := 8) (v := .int (nI (j + 1))) (ty := .int) (C := RX8) (T := TX8) (N := 44) hx hb hts hin8 tyX8 tyX8_ok nmX8 hown hK.1 hP hD hS 0 rfl rfl 24 (by decide) f112 (fun _ h9 => h9) rfl (by decide +kernel) rfl rfl (Nat.le_of_ble_eq_true rfl) dX8_takes_107 (fun H locs hP hD hS => ?_)
                have hP : va_P G.1 vwCl [oB h 8 (oF8 (upd (upd (upd w 25 (nI j)) 26 (-1)) 24 (nI (j + 1))) q), aI G (q 23) 140 tx] H := hP
                have hD : va_D A [oB h 8 (oF8 (upd (upd (upd w 25 (nI j)) 26 (-1)) 24 (nI (j + 1))) q), aI G (q 23) 140 tx] := hD
                have hpost : (upd (upd (upd w 25 (nI j)) 26 (-1)) 24 (nI (j + 1))) 24 = nI (tkE tx len i) ∧ (upd (upd (upd w 25 (nI j)) 26 (-1)) 24 (nI (j + 1))) 25 = nI (tkS tx len i) ∧ (upd (upd (upd w 25 (nI j)) 26 (-1)) 24 (nI (j + 1))) 26 = mtok tx len i ∧ (∀ k, ¬ k = 24 → ¬ k = 25 → ¬ k = 26 → (upd (upd (upd w 25 (nI j)) 26 (-1)) 24 (nI (j + 1))) k = v k) := by
                  have hts2 : tsk tx len i = j := by rw [← hj2, tsk_stop (fun h => c_22 h.2)]
                  by_cases hjl : j < len
                  · have hf : pFig (tx j) = false := by
                      have h1 := c_82
                      simpa [hjl] using h1
                    obtain ⟨e1, e2, e3⟩ := tk_let hts2 hjl hf
                    refine ⟨?_, ?_, ?_, fun k h24 h25 h26 => by simp [upd, h24, h25, h26]; exact hw k h24⟩
                    · rw [e2]; first | rfl | exact absurd hjl (by omega)
                    · rw [e1]; rfl
                    · rw [mtok, hts2, if_neg (by omega), if_neg (by rw [hf]; decide)]; first | rfl | exact absurd hjl (by omega)
                  · obtain ⟨e1, e2, e3⟩ := tk_end hts2 (by omega)
                    refine ⟨?_, ?_, ?_, fun k h24 h25 h26 => by simp [upd, h24, h25, h26]; exact hw k h24⟩
                    · rw [e2]; first | rfl | exact absurd (show j < len by omega) hjl
                    · rw [e1]; rfl
                    · rw [mtok, hts2, if_pos (by omega)]; first | rfl | exact absurd (show j < len by omega) hjl
                exact hret (upd (upd (upd w 25 (nI j)) 26 (-1)) 24 (nI (j + 1))) _ _ _ _ (hpost) hP hD hS dX8_takes_110
          · have c_55 : ¬ len ≤ j := fun hne => c_55 ((c_le (a := len) (b := j) rfl rfl (by omega) (by omega)).mpr hne)
            refine lv_aload_n hx hb dX8_takes_58 rfl (lv_at hl 0 rfl) ?_
            refine va_get (D := G.1) (ci := 8) (v := .ref (q 23)) (C := RX8) (T := TX8) (N := 44) hx hb hts hin8 hown hK.1 hP 0 rfl rfl 23 (by decide) f59 (fun _ h9 => h9) rfl dX8_takes_59 ?_
            refine lv_aload_n hx hb dX8_takes_62 rfl (lv_at hl 0 rfl) ?_
            refine va_get (D := G.1) (ci := 8) (v := .int (w 24)) (C := RX8) (T := TX8) (N := 44) hx hb hts hin8 hown hK.1 hP 0 rfl rfl 24 (by decide) f112 (fun _ h9 => h9) rfl dX8_takes_63 ?_
            refine top_i (y := nI j) (hw24) ?_
            refine al_i hx hb hK.1 hP 1 0 rfl rfl (j := j) (by omega) (Nat.le_of_ble_eq_true rfl) dX8_takes_66 ?_
            refine lv_goto (tgt := 71) hx hb dX8_takes_67 (by decide) ?_
            refine va_put (D := G.1) (ci := 8) (v := .int (tx j)) (ty := .int) (C := RX8) (T := TX8) (N := 44) hx hb hts hin8 tyX8 tyX8_ok nmX8 hown hK.1 hP hD hS 0 rfl rfl 26 (by decide) f118 (fun _ h9 => h9) rfl (by decide +kernel) rfl rfl (Nat.le_of_ble_eq_true rfl) dX8_takes_71 (fun H locs hP hD hS => ?_)
            have hP : va_P G.1 vwCl [oB h 8 (oF8 (upd (upd w 25 (nI j)) 26 (tx j)) q), aI G (q 23) 140 tx] H := hP
            have hD : va_D A [oB h 8 (oF8 (upd (upd w 25 (nI j)) 26 (tx j)) q), aI G (q 23) 140 tx] := hD
            refine lv_aload_n hx hb dX8_takes_74 rfl (lv_at hl 0 rfl) ?_
            refine lv_aload_n hx hb dX8_takes_75 rfl (lv_at hl 0 rfl) ?_
            refine va_get (D := G.1) (ci := 8) (v := .int (w 24)) (C := RX8) (T := TX8) (N := 44) hx hb hts hin8 hown hK.1 hP 0 rfl rfl 24 (by decide) f112 (fun _ h9 => h9) rfl dX8_takes_76 ?_
            refine top_i (y := nI j) (hw24) ?_
            refine rd_i (va_runV (As := [.int (nI j)]) (rest := []) ⟨hx, hb, hml, hown, hts⟩ (c_X8_isFigure l G h (upd (upd w 25 (nI j)) 26 (tx j)) q tx j len ((hw 22 (by decide)).trans hl22) (hlen) (by omega)) (cwV 1 hts gX8_takes_X8_isFigure rfl rfl rfl (by decide +kernel) ⟨Nat.le_of_ble_eq_true rfl, Nat.le_of_ble_eq_true rfl⟩) (rPre_V hK hP [0, 1] rfl 0 8 rfl rfl) rfl rfl hl.1 rfl (lv_room (Nat.le_of_ble_eq_true rfl)) dX8_takes_79 ⟨Nat.zero_le _, Nat.zero_le _⟩) (fun r_79 q_79 => ?_)
            obtain rfl : r_79 = b2i (decide (j < len) && pFig (tx j)) := q_79
            refine lv_if_ne (tgt := 111) hx hb dX8_takes_82 (by decide) (fun c_82 => ?_) (fun c_82 => ?_)
            · have c_82 : (decide (j < len) && pFig (tx j)) = true := b2i_n0.mp c_82
              have hfj : j < len ∧ pFig (tx j) = true := by simpa using c_82
              have hjl := hfj.1
              refine lv_iconst (v := 0) hx hb dX8_takes_111 (by decide) ?_
              refine lv_istore_n (lv' := [(1, .int 0), (0, .ref h)]) hx hb dX8_takes_112 rfl hl (by decide) rfl (fun ls hl => ?_)
              have loop_113 : ∀ (nF : Nat) (w2 : Nat → Int32) (e : Nat) (a : Nat), (len - e) < nF → (j ≤ e ∧ e ≤ len) → (a ≤ 999) → (te tx len e = te tx len j) → (tv tx len e (min a 100) = tv tx len j 0) → (w2 24 = nI e) → (w2 25 = nI j) → (∀ k, ¬ k = 24 → ¬ k = 25 → ¬ k = 26 → w2 k = v k) → ∀ (H : Heap) (locs : List Loc), va_P G.1 vwCl [oB h 8 (oF8 w2 q), aI G (q 23) 140 tx] H → va_D A [oB h 8 (oF8 w2 q), aI G (q 23) 140 tx] → va_S A sM.heap H locs → ∀ (ls : Array Slot), lv_has ls 2 [(1, .int (nI a)), (0, .ref h)] → W pM l eM rX8_takes sM mM [.ref h].toArray bM tM cM H locs 0 0 Q (F0 mM 113 ls []) := by
                intro nF
                induction nF with
                | zero => intro w2 e a hmF; exact absurd hmF (Nat.not_lt_zero _)
                | succ nF ih113 =>
                  intro w2 e a hmF he ha hte htv hn24 hn25 hw2 H locs hP hD hS ls hl
                  refine lv_aload_n hx hb dX8_takes_113 rfl (lv_at hl 1 rfl) ?_
                  refine lv_aload_n hx hb dX8_takes_114 rfl (lv_at hl 1 rfl) ?_
                  refine va_get (D := G.1) (ci := 8) (v := .int (w2 24)) (C := RX8) (T := TX8) (N := 44) hx hb hts hin8 hown hK.1 hP 0 rfl rfl 24 (by decide) f112 (fun _ h9 => h9) rfl dX8_takes_115 ?_
                  refine top_i (y := nI e) (hn24) ?_
                  refine rd_i (va_runV (As := [.int (nI e)]) (rest := []) ⟨hx, hb, hml, hown, hts⟩ (c_X8_isFigure l G h w2 q tx e len ((hw2 22 (by decide) (by decide) (by decide)).trans hl22) (hlen) (by omega)) (cwV 1 hts gX8_takes_X8_isFigure rfl rfl rfl (by decide +kernel) ⟨Nat.le_of_ble_eq_true rfl, Nat.le_of_ble_eq_true rfl⟩) (rPre_V hK hP [0, 1] rfl 0 8 rfl rfl) rfl rfl hl.1 rfl (lv_room (Nat.le_of_ble_eq_true rfl)) dX8_takes_118 ⟨Nat.zero_le _, Nat.zero_le _⟩) (fun r_118 q_118 => ?_)
                  obtain rfl : r_118 = b2i (decide (e < len) && pFig (tx e)) := q_118
                  refine lv_if_eq (tgt := 165) hx hb dX8_takes_121 (by decide) (fun c_121 => ?_) (fun c_121 => ?_)
                  · have c_121 : (decide (e < len) && pFig (tx e)) = false := b2i_0.mp c_121
                    refine lv_aload_n hx hb dX8_takes_165 rfl (lv_at hl 1 rfl) ?_
                    refine lv_iload_n hx hb dX8_takes_166 rfl (lv_at hl 0 rfl) ?_
                    refine lv_bipush (v := 99) hx hb dX8_takes_167 (by decide) ?_
                    refine lv_icmp_gt (tgt := 199) hx hb dX8_takes_169 (by decide) (fun c_169 => ?_) (fun c_169 => ?_)
                    · have c_169 : 99 < a := (c_lt (a := 99) (b := a) rfl rfl (by omega) (by omega)).mp c_169
                      refine lv_sipush (v := 2000) hx hb dX8_takes_199 (by decide) ?_
                      refine lv_goto (tgt := 210) hx hb dX8_takes_202 (by decide) ?_
                      refine va_put (D := G.1) (ci := 8) (v := .int 2000) (ty := .int) (C := RX8) (T := TX8) (N := 44) hx hb hts hin8 tyX8 tyX8_ok nmX8 hown hK.1 hP hD hS 0 rfl rfl 26 (by decide) f118 (fun _ h9 => h9) rfl (by decide +kernel) rfl rfl (Nat.le_of_ble_eq_true rfl) dX8_takes_210 (fun H locs hP hD hS => ?_)
                      have hP : va_P G.1 vwCl [oB h 8 (oF8 (upd w2 26 2000) q), aI G (q 23) 140 tx] H := hP
                      have hD : va_D A [oB h 8 (oF8 (upd w2 26 2000) q), aI G (q 23) 140 tx] := hD
                      have hpost : (upd w2 26 2000) 24 = nI (tkE tx len i) ∧ (upd w2 26 2000) 25 = nI (tkS tx len i) ∧ (upd w2 26 2000) 26 = mtok tx len i ∧ (∀ k, ¬ k = 24 → ¬ k = 25 → ¬ k = 26 → (upd w2 26 2000) k = v k) := by
                        have hts2 : tsk tx len i = j := by rw [← hj2, tsk_stop (fun h => c_22 h.2)]
                        obtain ⟨e1, e2, e3, e4⟩ := tk_fig hts2 hfj.1 hfj.2
                        have hnf : ¬ (e < len ∧ pFig (tx e) = true) := by intro hq; simp [hq.1, hq.2] at c_121
                        rw [te_stop hnf] at hte
                        rw [tv_stop hnf] at htv
                        have hV : tkV tx len i = min a 100 := by rw [e4, ← htv]
                        have htk : tkn tx len j = (if (tx j = 48 ∧ 1 < e - j) ∨ 99 < min a 100 then -3 else -2) := by rw [tkn, ← hte, ← htv]
                        refine ⟨?_, ?_, ?_, fun k h24 h25 h26 => by simp [upd, h24, h25, h26]; exact hw2 k h24 h25 h26⟩
                        · rw [e2, ← hte]; exact hn24
                        · rw [e1]; exact hn25
                        · rw [mtok, hts2, if_neg (by omega), if_pos hfj.2, htk, hV]
                          first
                          | (rw [if_pos (Or.inr (by omega)), if_pos rfl]; rfl)
                          | (rw [if_pos (Or.inl ⟨c_183, by omega⟩), if_pos rfl]; rfl)
                          | (rw [if_neg (fun h => Or.elim h (fun q => absurd q.1 c_183) (fun q => by omega)), if_neg (by decide), Nat.min_eq_left (by omega)]; rfl)
                          | (rw [if_neg (fun h => Or.elim h (fun q => absurd q.2 (by omega)) (fun q => by omega)), if_neg (by decide), Nat.min_eq_left (by omega)]; rfl)
                      exact hret (upd w2 26 2000) _ _ _ _ (hpost) hP hD hS dX8_takes_213
                    · have c_169 : ¬ 99 < a := fun hne => c_169 ((c_lt (a := 99) (b := a) rfl rfl (by omega) (by omega)).mpr hne)
                      refine lv_aload_n hx hb dX8_takes_172 rfl (lv_at hl 1 rfl) ?_
                      refine va_get (D := G.1) (ci := 8) (v := .ref (q 23)) (C := RX8) (T := TX8) (N := 44) hx hb hts hin8 hown hK.1 hP 0 rfl rfl 23 (by decide) f59 (fun _ h9 => h9) rfl dX8_takes_173 ?_
                      refine lv_aload_n hx hb dX8_takes_176 rfl (lv_at hl 1 rfl) ?_
                      refine va_get (D := G.1) (ci := 8) (v := .int (w2 25)) (C := RX8) (T := TX8) (N := 44) hx hb hts hin8 hown hK.1 hP 0 rfl rfl 25 (by decide) f115 (fun _ h9 => h9) rfl dX8_takes_177 ?_
                      refine top_i (y := nI j) (hn25) ?_
                      refine al_i hx hb hK.1 hP 1 0 rfl rfl (j := j) (by omega) (Nat.le_of_ble_eq_true rfl) dX8_takes_180 ?_
                      refine lv_bipush (v := 48) hx hb dX8_takes_181 (by decide) ?_
                      refine lv_icmp_ne (tgt := 205) hx hb dX8_takes_183 (by decide) (fun c_183 => ?_) (fun c_183 => ?_)
                      · refine lv_sipush (v := 1000) hx hb dX8_takes_205 (by decide) ?_
                        refine lv_iload_n hx hb dX8_takes_208 rfl (lv_at hl 0 rfl) ?_
                        refine lv_iadd hx hb dX8_takes_209 ?_
                        refine top_i (y := nI (1000 + a)) (m1000 a) ?_
                        refine va_put (D := G.1) (ci := 8) (v := .int (nI (1000 + a))) (ty := .int) (C := RX8) (T := TX8) (N := 44) hx hb hts hin8 tyX8 tyX8_ok nmX8 hown hK.1 hP hD hS 0 rfl rfl 26 (by decide) f118 (fun _ h9 => h9) rfl (by decide +kernel) rfl rfl (Nat.le_of_ble_eq_true rfl) dX8_takes_210 (fun H locs hP hD hS => ?_)
                        have hP : va_P G.1 vwCl [oB h 8 (oF8 (upd w2 26 (nI (1000 + a))) q), aI G (q 23) 140 tx] H := hP
                        have hD : va_D A [oB h 8 (oF8 (upd w2 26 (nI (1000 + a))) q), aI G (q 23) 140 tx] := hD
                        have hpost : (upd w2 26 (nI (1000 + a))) 24 = nI (tkE tx len i) ∧ (upd w2 26 (nI (1000 + a))) 25 = nI (tkS tx len i) ∧ (upd w2 26 (nI (1000 + a))) 26 = mtok tx len i ∧ (∀ k, ¬ k = 24 → ¬ k = 25 → ¬ k = 26 → (upd w2 26 (nI (1000 + a))) k = v k) := by
                          have hts2 : tsk tx len i = j := by rw [← hj2, tsk_stop (fun h => c_22 h.2)]
                          obtain ⟨e1, e2, e3, e4⟩ := tk_fig hts2 hfj.1 hfj.2
                          have hnf : ¬ (e < len ∧ pFig (tx e) = true) := by intro hq; simp [hq.1, hq.2] at c_121
                          rw [te_stop hnf] at hte
                          rw [tv_stop hnf] at htv
                          have hV : tkV tx len i = min a 100 := by rw [e4, ← htv]
                          have htk : tkn tx len j = (if (tx j = 48 ∧ 1 < e - j) ∨ 99 < min a 100 then -3 else -2) := by rw [tkn, ← hte, ← htv]
                          refine ⟨?_, ?_, ?_, fun k h24 h25 h26 => by simp [upd, h24, h25, h26]; exact hw2 k h24 h25 h26⟩
                          · rw [e2, ← hte]; exact hn24
                          · rw [e1]; exact hn25
                          · rw [mtok, hts2, if_neg (by omega), if_pos hfj.2, htk, hV]
                            first
                            | (rw [if_pos (Or.inr (by omega)), if_pos rfl]; rfl)
                            | (rw [if_pos (Or.inl ⟨c_183, by omega⟩), if_pos rfl]; rfl)
                            | (rw [if_neg (fun h => Or.elim h (fun q => absurd q.1 c_183) (fun q => by omega)), if_neg (by decide), Nat.min_eq_left (by omega)]; rfl)
                            | (rw [if_neg (fun h => Or.elim h (fun q => absurd q.2 (by omega)) (fun q => by omega)), if_neg (by decide), Nat.min_eq_left (by omega)]; rfl)
                        exact hret (upd w2 26 (nI (1000 + a))) _ _ _ _ (hpost) hP hD hS dX8_takes_213
                      · refine lv_aload_n hx hb dX8_takes_186 rfl (lv_at hl 1 rfl) ?_
                        refine va_get (D := G.1) (ci := 8) (v := .int (w2 24)) (C := RX8) (T := TX8) (N := 44) hx hb hts hin8 hown hK.1 hP 0 rfl rfl 24 (by decide) f112 (fun _ h9 => h9) rfl dX8_takes_187 ?_
                        refine top_i (y := nI e) (hn24) ?_
                        refine lv_aload_n hx hb dX8_takes_190 rfl (lv_at hl 1 rfl) ?_
                        refine va_get (D := G.1) (ci := 8) (v := .int (w2 25)) (C := RX8) (T := TX8) (N := 44) hx hb hts hin8 hown hK.1 hP 0 rfl rfl 25 (by decide) f115 (fun _ h9 => h9) rfl dX8_takes_191 ?_
                        refine top_i (y := nI j) (hn25) ?_
                        refine lv_iconst (v := 1) hx hb dX8_takes_194 (by decide) ?_
                        refine lv_iadd hx hb dX8_takes_195 ?_
                        refine top_i (y := nI (j + 1)) (nI_1 j) ?_
                        refine lv_icmp_le (tgt := 205) hx hb dX8_takes_196 (by decide) (fun c_196 => ?_) (fun c_196 => ?_)
                        · have c_196 : e ≤ (j + 1) := (c_le (a := e) (b := j + 1) rfl rfl (by omega) (by omega)).mp c_196
                          refine lv_sipush (v := 1000) hx hb dX8_takes_205 (by decide) ?_
                          refine lv_iload_n hx hb dX8_takes_208 rfl (lv_at hl 0 rfl) ?_
                          refine lv_iadd hx hb dX8_takes_209 ?_
                          refine top_i (y := nI (1000 + a)) (m1000 a) ?_
                          refine va_put (D := G.1) (ci := 8) (v := .int (nI (1000 + a))) (ty := .int) (C := RX8) (T := TX8) (N := 44) hx hb hts hin8 tyX8 tyX8_ok nmX8 hown hK.1 hP hD hS 0 rfl rfl 26 (by decide) f118 (fun _ h9 => h9) rfl (by decide +kernel) rfl rfl (Nat.le_of_ble_eq_true rfl) dX8_takes_210 (fun H locs hP hD hS => ?_)
                          have hP : va_P G.1 vwCl [oB h 8 (oF8 (upd w2 26 (nI (1000 + a))) q), aI G (q 23) 140 tx] H := hP
                          have hD : va_D A [oB h 8 (oF8 (upd w2 26 (nI (1000 + a))) q), aI G (q 23) 140 tx] := hD
                          have hpost : (upd w2 26 (nI (1000 + a))) 24 = nI (tkE tx len i) ∧ (upd w2 26 (nI (1000 + a))) 25 = nI (tkS tx len i) ∧ (upd w2 26 (nI (1000 + a))) 26 = mtok tx len i ∧ (∀ k, ¬ k = 24 → ¬ k = 25 → ¬ k = 26 → (upd w2 26 (nI (1000 + a))) k = v k) := by
                            have hts2 : tsk tx len i = j := by rw [← hj2, tsk_stop (fun h => c_22 h.2)]
                            obtain ⟨e1, e2, e3, e4⟩ := tk_fig hts2 hfj.1 hfj.2
                            have hnf : ¬ (e < len ∧ pFig (tx e) = true) := by intro hq; simp [hq.1, hq.2] at c_121
                            rw [te_stop hnf] at hte
                            rw [tv_stop hnf] at htv
                            have hV : tkV tx len i = min a 100 := by rw [e4, ← htv]
                            have htk : tkn tx len j = (if (tx j = 48 ∧ 1 < e - j) ∨ 99 < min a 100 then -3 else -2) := by rw [tkn, ← hte, ← htv]
                            refine ⟨?_, ?_, ?_, fun k h24 h25 h26 => by simp [upd, h24, h25, h26]; exact hw2 k h24 h25 h26⟩
                            · rw [e2, ← hte]; exact hn24
                            · rw [e1]; exact hn25
                            · rw [mtok, hts2, if_neg (by omega), if_pos hfj.2, htk, hV]
                              first
                              | (rw [if_pos (Or.inr (by omega)), if_pos rfl]; rfl)
                              | (rw [if_pos (Or.inl ⟨c_183, by omega⟩), if_pos rfl]; rfl)
                              | (rw [if_neg (fun h => Or.elim h (fun q => absurd q.1 c_183) (fun q => by omega)), if_neg (by decide), Nat.min_eq_left (by omega)]; rfl)
                              | (rw [if_neg (fun h => Or.elim h (fun q => absurd q.2 (by omega)) (fun q => by omega)), if_neg (by decide), Nat.min_eq_left (by omega)]; rfl)
                          exact hret (upd w2 26 (nI (1000 + a))) _ _ _ _ (hpost) hP hD hS dX8_takes_213
                        · have c_196 : ¬ e ≤ (j + 1) := fun hne => c_196 ((c_le (a := e) (b := j + 1) rfl rfl (by omega) (by omega)).mpr hne)
                          refine lv_sipush (v := 2000) hx hb dX8_takes_199 (by decide) ?_
                          refine lv_goto (tgt := 210) hx hb dX8_takes_202 (by decide) ?_
                          refine va_put (D := G.1) (ci := 8) (v := .int 2000) (ty := .int) (C := RX8) (T := TX8) (N := 44) hx hb hts hin8 tyX8 tyX8_ok nmX8 hown hK.1 hP hD hS 0 rfl rfl 26 (by decide) f118 (fun _ h9 => h9) rfl (by decide +kernel) rfl rfl (Nat.le_of_ble_eq_true rfl) dX8_takes_210 (fun H locs hP hD hS => ?_)
                          have hP : va_P G.1 vwCl [oB h 8 (oF8 (upd w2 26 2000) q), aI G (q 23) 140 tx] H := hP
                          have hD : va_D A [oB h 8 (oF8 (upd w2 26 2000) q), aI G (q 23) 140 tx] := hD
                          have hpost : (upd w2 26 2000) 24 = nI (tkE tx len i) ∧ (upd w2 26 2000) 25 = nI (tkS tx len i) ∧ (upd w2 26 2000) 26 = mtok tx len i ∧ (∀ k, ¬ k = 24 → ¬ k = 25 → ¬ k = 26 → (upd w2 26 2000) k = v k) := by
                            have hts2 : tsk tx len i = j := by rw [← hj2, tsk_stop (fun h => c_22 h.2)]
                            obtain ⟨e1, e2, e3, e4⟩ := tk_fig hts2 hfj.1 hfj.2
                            have hnf : ¬ (e < len ∧ pFig (tx e) = true) := by intro hq; simp [hq.1, hq.2] at c_121
                            rw [te_stop hnf] at hte
                            rw [tv_stop hnf] at htv
                            have hV : tkV tx len i = min a 100 := by rw [e4, ← htv]
                            have htk : tkn tx len j = (if (tx j = 48 ∧ 1 < e - j) ∨ 99 < min a 100 then -3 else -2) := by rw [tkn, ← hte, ← htv]
                            refine ⟨?_, ?_, ?_, fun k h24 h25 h26 => by simp [upd, h24, h25, h26]; exact hw2 k h24 h25 h26⟩
                            · rw [e2, ← hte]; exact hn24
                            · rw [e1]; exact hn25
                            · rw [mtok, hts2, if_neg (by omega), if_pos hfj.2, htk, hV]
                              first
                              | (rw [if_pos (Or.inr (by omega)), if_pos rfl]; rfl)
                              | (rw [if_pos (Or.inl ⟨c_183, by omega⟩), if_pos rfl]; rfl)
                              | (rw [if_neg (fun h => Or.elim h (fun q => absurd q.1 c_183) (fun q => by omega)), if_neg (by decide), Nat.min_eq_left (by omega)]; rfl)
                              | (rw [if_neg (fun h => Or.elim h (fun q => absurd q.2 (by omega)) (fun q => by omega)), if_neg (by decide), Nat.min_eq_left (by omega)]; rfl)
                          exact hret (upd w2 26 2000) _ _ _ _ (hpost) hP hD hS dX8_takes_213
                  · have c_121 : (decide (e < len) && pFig (tx e)) = true := b2i_n0.mp c_121
                    have hef : e < len ∧ pFig (tx e) = true := by simpa using c_121
                    have hdg := dg_le hef.2
                    refine lv_iload_n hx hb dX8_takes_124 rfl (lv_at hl 0 rfl) ?_
                    refine lv_bipush (v := 99) hx hb dX8_takes_125 (by decide) ?_
                    refine lv_icmp_le (tgt := 134) hx hb dX8_takes_127 (by decide) (fun c_127 => ?_) (fun c_127 => ?_)
                    · have c_127 : a ≤ 99 := (c_le (a := a) (b := 99) rfl rfl (by omega) (by omega)).mp c_127
                      refine lv_bipush (v := 10) hx hb dX8_takes_134 (by decide) ?_
                      refine lv_iload_n hx hb dX8_takes_136 rfl (lv_at hl 0 rfl) ?_
                      refine lv_imul hx hb dX8_takes_137 ?_
                      refine lv_aload_n hx hb dX8_takes_138 rfl (lv_at hl 1 rfl) ?_
                      refine va_get (D := G.1) (ci := 8) (v := .ref (q 23)) (C := RX8) (T := TX8) (N := 44) hx hb hts hin8 hown hK.1 hP 0 rfl rfl 23 (by decide) f59 (fun _ h9 => h9) rfl dX8_takes_139 ?_
                      refine lv_aload_n hx hb dX8_takes_142 rfl (lv_at hl 1 rfl) ?_
                      refine va_get (D := G.1) (ci := 8) (v := .int (w2 24)) (C := RX8) (T := TX8) (N := 44) hx hb hts hin8 hown hK.1 hP 0 rfl rfl 24 (by decide) f112 (fun _ h9 => h9) rfl dX8_takes_143 ?_
                      refine top_i (y := nI e) (hn24) ?_
                      refine al_i hx hb hK.1 hP 1 0 rfl rfl (j := e) (by omega) (Nat.le_of_ble_eq_true rfl) dX8_takes_146 ?_
                      refine lv_iadd hx hb dX8_takes_147 ?_
                      refine lv_bipush (v := 48) hx hb dX8_takes_148 (by decide) ?_
                      refine lv_isub hx hb dX8_takes_150 ?_
                      refine top_i (y := nI (a * 10 + dg (tx e))) (fig_val2 hef.2) ?_
                      refine lv_istore_n (lv' := [(1, .int (nI (a * 10 + dg (tx e)))), (0, .ref h)]) hx hb dX8_takes_151 rfl hl (by decide) rfl (fun ls hl => ?_)
                      refine lv_aload_n hx hb dX8_takes_152 rfl (lv_at hl 1 rfl) ?_
                      refine lv_dup hx hb dX8_takes_153 rfl ?_
                      refine va_get (D := G.1) (ci := 8) (v := .int (w2 24)) (C := RX8) (T := TX8) (N := 44) hx hb hts hin8 hown hK.1 hP 0 rfl rfl 24 (by decide) f112 (fun _ h9 => h9) rfl dX8_takes_154 ?_
                      refine top_i (y := nI e) (hn24) ?_
                      refine lv_iconst (v := 1) hx hb dX8_takes_157 (by decide) ?_
                      refine lv_iadd hx hb dX8_takes_158 ?_
                      refine top_i (y := nI (e + 1)) (nI_1 e) ?_
                      refine va_put (D := G.1) (ci := 8) (v := .int (nI (e + 1))) (ty := .int) (C := RX8) (T := TX8) (N := 44) hx hb hts hin8 tyX8 tyX8_ok nmX8 hown hK.1 hP hD hS 0 rfl rfl 24 (by decide) f112 (fun _ h9 => h9) rfl (by decide +kernel) rfl rfl (Nat.le_of_ble_eq_true rfl) dX8_takes_159 (fun H locs hP hD hS => ?_)
                      have hP : va_P G.1 vwCl [oB h 8 (oF8 (upd w2 24 (nI (e + 1))) q), aI G (q 23) 140 tx] H := hP
                      have hD : va_D A [oB h 8 (oF8 (upd w2 24 (nI (e + 1))) q), aI G (q 23) 140 tx] := hD
                      refine lv_goto (tgt := 113) hx hb dX8_takes_162 (by decide) ?_
                      exact ih113 (upd w2 24 (nI (e + 1))) (e + 1) (a * 10 + dg (tx e)) (by omega) (by omega) (by first | omega | (have := dg_le hef.2; omega)) (by rw [← te_step hef.1 hef.2]; exact hte) (by rw [← htv, tv_step hef.1 hef.2]; congr 1; omega) (rfl) (hn25) (fun k h24 h25 h26 => by simp [upd, h24]; exact hw2 k h24 h25 h26) _ _ hP hD hS _ (lv_sub hl [0, 1] rfl)
                    · have c_127 : ¬ a ≤ 99 := fun hne => c_127 ((c_le (a := a) (b := 99) rfl rfl (by omega) (by omega)).mpr hne)
                      refine lv_iload_n hx hb dX8_takes_130 rfl (lv_at hl 0 rfl) ?_
                      refine lv_goto (tgt := 151) hx hb dX8_takes_131 (by decide) ?_
                      refine lv_istore_n (lv' := [(1, .int (nI a)), (0, .ref h)]) hx hb dX8_takes_151 rfl hl (by decide) rfl (fun ls hl => ?_)
                      refine lv_aload_n hx hb dX8_takes_152 rfl (lv_at hl 1 rfl) ?_
                      refine lv_dup hx hb dX8_takes_153 rfl ?_
                      refine va_get (D := G.1) (ci := 8) (v := .int (w2 24)) (C := RX8) (T := TX8) (N := 44) hx hb hts hin8 hown hK.1 hP 0 rfl rfl 24 (by decide) f112 (fun _ h9 => h9) rfl dX8_takes_154 ?_
                      refine top_i (y := nI e) (hn24) ?_
                      refine lv_iconst (v := 1) hx hb dX8_takes_157 (by decide) ?_
                      refine lv_iadd hx hb dX8_takes_158 ?_
                      refine top_i (y := nI (e + 1)) (nI_1 e) ?_
                      refine va_put (D := G.1) (ci := 8) (v := .int (nI (e + 1))) (ty := .int) (C := RX8) (T := TX8) (N := 44) hx hb hts hin8 tyX8 tyX8_ok nmX8 hown hK.1 hP hD hS 0 rfl rfl 24 (by decide) f112 (fun _ h9 => h9) rfl (by decide +kernel) rfl rfl (Nat.le_of_ble_eq_true rfl) dX8_takes_159 (fun H locs hP hD hS => ?_)
                      have hP : va_P G.1 vwCl [oB h 8 (oF8 (upd w2 24 (nI (e + 1))) q), aI G (q 23) 140 tx] H := hP
                      have hD : va_D A [oB h 8 (oF8 (upd w2 24 (nI (e + 1))) q), aI G (q 23) 140 tx] := hD
                      refine lv_goto (tgt := 113) hx hb dX8_takes_162 (by decide) ?_
                      exact ih113 (upd w2 24 (nI (e + 1))) (e + 1) a (by omega) (by omega) (by first | omega | (have := dg_le hef.2; omega)) (by rw [← te_step hef.1 hef.2]; exact hte) (by rw [← htv, tv_step hef.1 hef.2]; congr 1; omega) (rfl) (hn25) (fun k h24 h25 h26 => by simp [upd, h24]; exact hw2 k h24 h25 h26) _ _ hP hD hS _ (lv_sub hl [0, 1] rfl)
              exact loop_113 _ (upd (upd w 25 (nI j)) 26 (tx j)) j 0 (Nat.lt_succ_self _) (by omega) (by omega) (rfl) (rfl) (hw24) (rfl) (fun k h24 h25 h26 => by simp [upd, h25, h26]; exact hw k h24) _ _ hP hD hS _ (lv_sub hl [0, 1] rfl)
            · have c_82 : (decide (j < len) && pFig (tx j)) = false := b2i_0.mp c_82
              refine lv_aload_n hx hb dX8_takes_85 rfl (lv_at hl 0 rfl) ?_
              refine lv_dup hx hb dX8_takes_86 rfl ?_
              refine va_get (D := G.1) (ci := 8) (v := .int (w 24)) (C := RX8) (T := TX8) (N := 44) hx hb hts hin8 hown hK.1 hP 0 rfl rfl 24 (by decide) f112 (fun _ h9 => h9) rfl dX8_takes_87 ?_
              refine top_i (y := nI j) (hw24) ?_
              refine lv_aload_n hx hb dX8_takes_90 rfl (lv_at hl 0 rfl) ?_
              refine va_get (D := G.1) (ci := 8) (v := .int (w 24)) (C := RX8) (T := TX8) (N := 44) hx hb hts hin8 hown hK.1 hP 0 rfl rfl 24 (by decide) f112 (fun _ h9 => h9) rfl dX8_takes_91 ?_
              refine top_i (y := nI j) (hw24) ?_
              refine lv_aload_n hx hb dX8_takes_94 rfl (lv_at hl 0 rfl) ?_
              refine va_get (D := G.1) (ci := 8) (v := .int (w 22)) (C := RX8) (T := TX8) (N := 44) hx hb hts hin8 hown hK.1 hP 0 rfl rfl 22 (by decide) f109 (fun _ h9 => h9) rfl dX8_takes_95 ?_
              refine top_i (y := nI len) ((hw 22 (by decide)).trans hl22) ?_
              refine lv_icmp_ge (tgt := 105) hx hb dX8_takes_98 (by decide) (fun c_98 => ?_) (fun c_98 => ?_)
              · have c_98 : len ≤ j := (c_le (a := len) (b := j) rfl rfl (by omega) (by omega)).mp c_98
                refine lv_iconst (v := 0) hx hb dX8_takes_105 (by decide) ?_
                refine lv_iadd hx hb dX8_takes_106 ?_
                refine top_i (y := nI j) (Int32.add_zero _) ?_
                refine va_put (D := G.1) (ci := 8) (v := .int (nI j)) (ty := .int) (C := RX8) (T := TX8) (N := 44) hx hb hts hin8 tyX8 tyX8_ok nmX8 hown hK.1 hP hD hS 0 rfl rfl 24 (by decide) f112 (fun _ h9 => h9) rfl (by decide +kernel) rfl rfl (Nat.le_of_ble_eq_true rfl) dX8_takes_107 (fun H locs hP hD hS => ?_)
                have hP : va_P G.1 vwCl [oB h 8 (oF8 (upd (upd (upd w 25 (nI j)) 26 (tx j)) 24 (nI j)) q), aI G (q 23) 140 tx] H := hP
                have hD : va_D A [oB h 8 (oF8 (upd (upd (upd w 25 (nI j)) 26 (tx j)) 24 (nI j)) q), aI G (q 23) 140 tx] := hD
                have hpost : (upd (upd (upd w 25 (nI j)) 26 (tx j)) 24 (nI j)) 24 = nI (tkE tx len i) ∧ (upd (upd (upd w 25 (nI j)) 26 (tx j)) 24 (nI j)) 25 = nI (tkS tx len i) ∧ (upd (upd (upd w 25 (nI j)) 26 (tx j)) 24 (nI j)) 26 = mtok tx len i ∧ (∀ k, ¬ k = 24 → ¬ k = 25 → ¬ k = 26 → (upd (upd (upd w 25 (nI j)) 26 (tx j)) 24 (nI j)) k = v k) := by
                  have hts2 : tsk tx len i = j := by rw [← hj2, tsk_stop (fun h => c_22 h.2)]
                  by_cases hjl : j < len
                  · have hf : pFig (tx j) = false := by
                      have h1 := c_82
                      simpa [hjl] using h1
                    obtain ⟨e1, e2, e3⟩ := tk_let hts2 hjl hf
                    refine ⟨?_, ?_, ?_, fun k h24 h25 h26 => by simp [upd, h24, h25, h26]; exact hw k h24⟩
                    · rw [e2]; first | rfl | exact absurd hjl (by omega)
                    · rw [e1]; rfl
                    · rw [mtok, hts2, if_neg (by omega), if_neg (by rw [hf]; decide)]; first | rfl | exact absurd hjl (by omega)
                  · obtain ⟨e1, e2, e3⟩ := tk_end hts2 (by omega)
                    refine ⟨?_, ?_, ?_, fun k h24 h25 h26 => by simp [upd, h24, h25, h26]; exact hw k h24⟩
                    · rw [e2]; first | rfl | exact absurd (show j < len by omega) hjl
                    · rw [e1]; rfl
                    · rw [mtok, hts2, if_pos (by omega)]; first | rfl | exact absurd (show j < len by omega) hjl
                exact hret (upd (upd (upd w 25 (nI j)) 26 (tx j)) 24 (nI j)) _ _ _ _ (hpost) hP hD hS dX8_takes_110
              · have c_98 : ¬ len ≤ j := fun hne => c_98 ((c_le (a := len) (b := j) rfl rfl (by omega) (by omega)).mpr hne)
                refine lv_iconst (v := 1) hx hb dX8_takes_101 (by decide) ?_
                refine lv_goto (tgt := 106) hx hb dX8_takes_102 (by decide) ?_
                refine lv_iadd hx hb dX8_takes_106 ?_
                refine top_i (y := nI (j + 1)) (nI_1 j) ?_
                refine va_put (D := G.1) (ci := 8) (v := .int (nI (j + 1))) (ty := .int) (C := RX8) (T := TX8) (N := 44) hx hb hts hin8 tyX8 tyX8_ok nmX8 hown hK.1 hP hD hS 0 rfl rfl 24 (by decide) f112 (fun _ h9 => h9) rfl (by decide +kernel) rfl rfl (Nat.le_of_ble_eq_true rfl) dX8_takes_107 (fun H locs hP hD hS => ?_)
                have hP : va_P G.1 vwCl [oB h 8 (oF8 (upd (upd (upd w 25 (nI j)) 26 (tx j)) 24 (nI (j + 1))) q), aI G (q 23) 140 tx] H := hP
                have hD : va_D A [oB h 8 (oF8 (upd (upd (upd w 25 (nI j)) 26 (tx j)) 24 (nI (j + 1))) q), aI G (q 23) 140 tx] := hD
                have hpost : (upd (upd (upd w 25 (nI j)) 26 (tx j)) 24 (nI (j + 1))) 24 = nI (tkE tx len i) ∧ (upd (upd (upd w 25 (nI j)) 26 (tx j)) 24 (nI (j + 1))) 25 = nI (tkS tx len i) ∧ (upd (upd (upd w 25 (nI j)) 26 (tx j)) 24 (nI (j + 1))) 26 = mtok tx len i ∧ (∀ k, ¬ k = 24 → ¬ k = 25 → ¬ k = 26 → (upd (upd (upd w 25 (nI j)) 26 (tx j)) 24 (nI (j + 1))) k = v k) := by
                  have hts2 : tsk tx len i = j := by rw [← hj2, tsk_stop (fun h => c_22 h.2)]
                  by_cases hjl : j < len
                  · have hf : pFig (tx j) = false := by
                      have h1 := c_82
                      simpa [hjl] using h1
                    obtain ⟨e1, e2, e3⟩ := tk_let hts2 hjl hf
                    refine ⟨?_, ?_, ?_, fun k h24 h25 h26 => by simp [upd, h24, h25, h26]; exact hw k h24⟩
                    · rw [e2]; first | rfl | exact absurd hjl (by omega)
                    · rw [e1]; rfl
                    · rw [mtok, hts2, if_neg (by omega), if_neg (by rw [hf]; decide)]; first | rfl | exact absurd hjl (by omega)
                  · obtain ⟨e1, e2, e3⟩ := tk_end hts2 (by omega)
                    refine ⟨?_, ?_, ?_, fun k h24 h25 h26 => by simp [upd, h24, h25, h26]; exact hw k h24⟩
                    · rw [e2]; first | rfl | exact absurd (show j < len by omega) hjl
                    · rw [e1]; rfl
                    · rw [mtok, hts2, if_pos (by omega)]; first | rfl | exact absurd (show j < len by omega) hjl
                exact hret (upd (upd (upd w 25 (nI j)) 26 (tx j)) 24 (nI (j + 1))) _ _ _ _ (hpost) hP hD hS dX8_takes_110
        · refine lv_aload_n hx hb dX8_takes_25 rfl (lv_at hl 0 rfl) ?_
          refine lv_dup hx hb dX8_takes_26 rfl ?_
          refine va_get (D := G.1) (ci := 8) (v := .int (w 24)) (C := RX8) (T := TX8) (N := 44) hx hb hts hin8 hown hK.1 hP 0 rfl rfl 24 (by decide) f112 (fun _ h9 => h9) rfl dX8_takes_27 ?_
          refine top_i (y := nI j) (hw24) ?_
          refine lv_iconst (v := 1) hx hb dX8_takes_30 (by decide) ?_
          refine lv_iadd hx hb dX8_takes_31 ?_
          refine top_i (y := nI (j + 1)) (nI_1 j) ?_
          refine va_put (D := G.1) (ci := 8) (v := .int (nI (j + 1))) (ty := .int) (C := RX8) (T := TX8) (N := 44) hx hb hts hin8 tyX8 tyX8_ok nmX8 hown hK.1 hP hD hS 0 rfl rfl 24 (by decide) f112 (fun _ h9 => h9) rfl (by decide +kernel) rfl rfl (Nat.le_of_ble_eq_true rfl) dX8_takes_32 (fun H locs hP hD hS => ?_)
          have hP : va_P G.1 vwCl [oB h 8 (oF8 (upd w 24 (nI (j + 1))) q), aI G (q 23) 140 tx] H := hP
          have hD : va_D A [oB h 8 (oF8 (upd w 24 (nI (j + 1))) q), aI G (q 23) 140 tx] := hD
          refine lv_goto (tgt := 0) hx hb dX8_takes_35 (by decide) ?_
          exact ih0 (upd w 24 (nI (j + 1))) (j + 1) (by omega) (by omega) (by rw [← tsk_step (by omega) c_22]; exact hj2) (rfl) (fun k hk => by simp [upd, hk]; exact hw k hk) _ _ hP hD hS _ (lv_sub hl [0] rfl)
  exact loop_0 _ v i (Nat.lt_succ_self _) (by omega) (rfl) (hn) (fun k _ => rfl) _ _ hP hD hS _ (lv_sub hl [0] rfl)

abbrev rX8_reads : Room := { frames := 3, cells := 0, slots := 0, locals := 64 }
set_option maxHeartbeats 4000000 in
set_option maxRecDepth 100000 in
theorem c_X8_reads (l : Launch) (G : kG) (h : Nat) (v : Nat → Int32) (q : Nat → Nat) (tx : Nat → Int32) (len : Nat) (i : Nat) (lo : Nat) (hh : Nat) (hl22 : v 22 = nI len) (hlen : len ≤ 140) (hn : v 24 = nI i) (hi : i ≤ len) (hT : ∀ k, k < len → ∃ c : Nat, c ≤ 255 ∧ tx k = nI c) (hlo : lo < 2147483648) (hhh : hh ≤ 99) : Ci l G yX8_reads wsX8_reads rX8_reads [.ref h, .int (nI lo), .int (nI hh)] [oB h 8 (oF8 v q), aI G (q 23) 140 tx] (fun r (u : Nat → Int32) => r = b2i (tN tx len i (nI lo) (nI hh)) ∧ u 24 = nI (tkE tx len i) ∧ u 25 = nI (tkS tx len i) ∧ u 26 = mtok tx len i ∧ (tN tx len i (nI lo) (nI hh) = true → u 27 = nI (tkV tx len i)) ∧ (∀ k, ¬ k = 24 → ¬ k = 25 → ¬ k = 26 → ¬ k = 27 → u k = v k)) (fun u => [oB h 8 (oF8 u q), aI G (q 23) 140 tx]) := by
  refine Ci.of (cc := cX8_reads) (maxL := 3) (by decide) rfl (Nat.le_of_ble_eq_true rfl) ?_
  intro pM eM sM mM bM tM cM Q A hx hb hts hown hml hA hK hP hD hS hret ls hl
  have hown : sM.vm.findClass RX8 = some mM.cls := hown
  have hl : lv_has ls 3 [(0, .ref h), (1, .int (nI lo)), (2, .int (nI hh))] := hl
  have hin8 : ∀ w ∈ u_ws RX8 TX8 44, w ∈ wsX8_reads := by decide +kernel
  have f118 := hts (.fieldLink RX8 118 "HorizonPeaksModel" "token" "I") (by decide +kernel)
  have f128 := hts (.fieldLink RX8 128 "HorizonPeaksModel" "number" "I") (by decide +kernel)
  refine lv_aload_n hx hb dX8_reads_0 rfl (lv_at hl 0 rfl) ?_
  refine ca_v (wr := []) (va_runV (As := []) (rest := []) ⟨hx, hb, hml, hown, hts⟩ ((c_X8_takes l G h v q tx len i (hl22) (hlen) (hn) (hi)) _) (cwV 0 hts gX8_reads_X8_takes rfl rfl rfl (by decide +kernel) ⟨Nat.le_of_ble_eq_true rfl, Nat.le_of_ble_eq_true rfl⟩) (cPre_V hK hP hD [0, 1] (by decide) rfl 0 8 rfl rfl) rfl rfl hl.1 rfl (lv_room (Nat.le_of_ble_eq_true rfl)) dX8_reads_1 ⟨Nat.zero_le _, Nat.zero_le _⟩) hP hD hS hA [0, 1] [] rfl rfl (by decide) (by decide) [0, 1] (fun u_1 => [oB h 8 (oF8 u_1 q), aI G (q 23) 140 tx]) (by decide) (fun _ => rfl) (fun u_1 H locs q_1 hP hD hS => ?_)
  have q_1 : u_1 24 = nI (tkE tx len i) ∧ u_1 25 = nI (tkS tx len i) ∧ u_1 26 = mtok tx len i ∧ (∀ k, ¬ k = 24 → ¬ k = 25 → ¬ k = 26 → u_1 k = v k) := q_1
  have hP : va_P G.1 vwCl [oB h 8 (oF8 u_1 q), aI G (q 23) 140 tx] H := hP
  have hD : va_D A [oB h 8 (oF8 u_1 q), aI G (q 23) 140 tx] := hD
  refine lv_aload_n hx hb dX8_reads_4 rfl (lv_at hl 0 rfl) ?_
  refine lv_aload_n hx hb dX8_reads_5 rfl (lv_at hl 0 rfl) ?_
  refine va_get (D := G.1) (ci := 8) (v := .int (u_1 26)) (C := RX8) (T := TX8) (N := 44) hx hb hts hin8 hown hK.1 hP 0 rfl rfl 26 (by decide) f118 (fun _ h9 => h9) rfl dX8_reads_6 ?_
  refine top_i (y := mtok tx len i) (q_1.2.2.1) ?_
  refine lv_sipush (v := 1000) hx hb dX8_reads_9 (by decide) ?_
  refine lv_isub hx hb dX8_reads_12 ?_
  refine va_put (D := G.1) (ci := 8) (v := .int ((mtok tx len i) - 1000)) (ty := .int) (C := RX8) (T := TX8) (N := 44) hx hb hts hin8 tyX8 tyX8_ok nmX8 hown hK.1 hP hD hS 0 rfl rfl 27 (by decide) f128 (fun _ h9 => h9) rfl (by decide +kernel) rfl rfl (Nat.le_of_ble_eq_true rfl) dX8_reads_13 (fun H locs hP hD hS => ?_)
  have hP : va_P G.1 vwCl [oB h 8 (oF8 (upd u_1 27 ((mtok tx len i) - 1000)) q), aI G (q 23) 140 tx] H := hP
  have hD : va_D A [oB h 8 (oF8 (upd u_1 27 ((mtok tx len i) - 1000)) q), aI G (q 23) 140 tx] := hD
  refine lv_aload_n hx hb dX8_reads_16 rfl (lv_at hl 0 rfl) ?_
  refine va_get (D := G.1) (ci := 8) (v := .int ((mtok tx len i) - 1000)) (C := RX8) (T := TX8) (N := 44) hx hb hts hin8 hown hK.1 hP 0 rfl rfl 27 (by decide) f128 (fun _ h9 => h9) rfl dX8_reads_17 ?_
  refine lv_iload_n hx hb dX8_reads_20 rfl (lv_at hl 1 rfl) ?_
  refine lv_iload_n hx hb dX8_reads_21 rfl (lv_at hl 2 rfl) ?_
  refine rd_i (va_runS (As := [.int ((mtok tx len i) - 1000), .int (nI lo), .int (nI hh)]) (rest := []) ⟨hx, hb, hml, hown, hts⟩ (c_X8_in l G ((mtok tx len i) - 1000) (nI lo) (nI hh)) (va_cwS 3 hts gX8_reads_X8_in rfl rfl rfl (by decide +kernel) ⟨Nat.le_of_ble_eq_true rfl, Nat.le_of_ble_eq_true rfl⟩) (rPre_S hK hP [] rfl) rfl rfl hl.1 rfl (lv_room (Nat.le_of_ble_eq_true rfl)) dX8_reads_22 ⟨Nat.zero_le _, Nat.zero_le _⟩) (fun r_22 q_22 => ?_)
  obtain rfl : r_22 = b2i (pIn ((mtok tx len i) - 1000) (nI lo) (nI hh)) := q_22
  have hpost : (b2i (pIn ((mtok tx len i) - 1000) (nI lo) (nI hh)) : Int32) = b2i (tN tx len i (nI lo) (nI hh)) ∧ (upd u_1 27 ((mtok tx len i) - 1000)) 24 = nI (tkE tx len i) ∧ (upd u_1 27 ((mtok tx len i) - 1000)) 25 = nI (tkS tx len i) ∧ (upd u_1 27 ((mtok tx len i) - 1000)) 26 = mtok tx len i ∧ (tN tx len i (nI lo) (nI hh) = true → (upd u_1 27 ((mtok tx len i) - 1000)) 27 = nI (tkV tx len i)) ∧ (∀ k, ¬ k = 24 → ¬ k = 25 → ¬ k = 26 → ¬ k = 27 → (upd u_1 27 ((mtok tx len i) - 1000)) k = v k) := by
    obtain ⟨k1, k2, k3, k4⟩ := q_1
    have hm := mt_num (lo := lo) (hi := hh) (i := i) hT hlo hhh
    exact ⟨by rw [hm.1], k1, k2, k3, fun h => hm.2 h, fun k h24 h25 h26 h27 => by simp [upd, h27]; exact k4 k h24 h25 h26⟩
  exact hret _ (upd u_1 27 ((mtok tx len i) - 1000)) _ _ _ _ (hpost) (b2i_nar _) hP hD hS dX8_reads_25

abbrev rX8_readsN : Room := { frames := 3, cells := 0, slots := 0, locals := 64 }
set_option maxHeartbeats 4000000 in
set_option maxRecDepth 100000 in
theorem c_X8_readsN (l : Launch) (G : kG) (h : Nat) (v : Nat → Int32) (q : Nat → Nat) (tx : Nat → Int32) (len : Nat) (i : Nat) (nn : Nat) (hl22 : v 22 = nI len) (hlen : len ≤ 140) (hn : v 24 = nI i) (hi : i ≤ len) (hT : ∀ k, k < len → ∃ c : Nat, c ≤ 255 ∧ tx k = nI c) (hnn : nn ≤ 10) : Ci l G yX8_reads wsX8_reads rX8_readsN [.ref h, .int 0, .int (nI nn - 1)] [oB h 8 (oF8 v q), aI G (q 23) 140 tx] (fun r (u : Nat → Int32) => r = b2i (tN tx len i 0 (nI nn - 1)) ∧ u 24 = nI (tkE tx len i) ∧ u 25 = nI (tkS tx len i) ∧ u 26 = mtok tx len i ∧ (tN tx len i 0 (nI nn - 1) = true → u 27 = nI (tkV tx len i)) ∧ (∀ k, ¬ k = 24 → ¬ k = 25 → ¬ k = 26 → ¬ k = 27 → u k = v k)) (fun u => [oB h 8 (oF8 u q), aI G (q 23) 140 tx]) := by
  refine Ci.of (cc := cX8_reads) (maxL := 3) (by decide) rfl (Nat.le_of_ble_eq_true rfl) ?_
  intro pM eM sM mM bM tM cM Q A hx hb hts hown hml hA hK hP hD hS hret ls hl
  have hown : sM.vm.findClass RX8 = some mM.cls := hown
  have hl : lv_has ls 3 [(0, .ref h), (1, .int 0), (2, .int (nI nn - 1))] := hl
  have hin8 : ∀ w ∈ u_ws RX8 TX8 44, w ∈ wsX8_reads := by decide +kernel
  have f118 := hts (.fieldLink RX8 118 "HorizonPeaksModel" "token" "I") (by decide +kernel)
  have f128 := hts (.fieldLink RX8 128 "HorizonPeaksModel" "number" "I") (by decide +kernel)
  refine lv_aload_n hx hb dX8_reads_0 rfl (lv_at hl 0 rfl) ?_
  refine ca_v (wr := []) (va_runV (As := []) (rest := []) ⟨hx, hb, hml, hown, hts⟩ ((c_X8_takes l G h v q tx len i (hl22) (hlen) (hn) (hi)) _) (cwV 0 hts gX8_reads_X8_takes rfl rfl rfl (by decide +kernel) ⟨Nat.le_of_ble_eq_true rfl, Nat.le_of_ble_eq_true rfl⟩) (cPre_V hK hP hD [0, 1] (by decide) rfl 0 8 rfl rfl) rfl rfl hl.1 rfl (lv_room (Nat.le_of_ble_eq_true rfl)) dX8_reads_1 ⟨Nat.zero_le _, Nat.zero_le _⟩) hP hD hS hA [0, 1] [] rfl rfl (by decide) (by decide) [0, 1] (fun u_1 => [oB h 8 (oF8 u_1 q), aI G (q 23) 140 tx]) (by decide) (fun _ => rfl) (fun u_1 H locs q_1 hP hD hS => ?_)
  have q_1 : u_1 24 = nI (tkE tx len i) ∧ u_1 25 = nI (tkS tx len i) ∧ u_1 26 = mtok tx len i ∧ (∀ k, ¬ k = 24 → ¬ k = 25 → ¬ k = 26 → u_1 k = v k) := q_1
  have hP : va_P G.1 vwCl [oB h 8 (oF8 u_1 q), aI G (q 23) 140 tx] H := hP
  have hD : va_D A [oB h 8 (oF8 u_1 q), aI G (q 23) 140 tx] := hD
  refine lv_aload_n hx hb dX8_reads_4 rfl (lv_at hl 0 rfl) ?_
  refine lv_aload_n hx hb dX8_reads_5 rfl (lv_at hl 0 rfl) ?_
  refine va_get (D := G.1) (ci := 8) (v := .int (u_1 26)) (C := RX8) (T := TX8) (N := 44) hx hb hts hin8 hown hK.1 hP 0 rfl rfl 26 (by decide) f118 (fun _ h9 => h9) rfl dX8_reads_6 ?_
  refine top_i (y := mtok tx len i) (q_1.2.2.1) ?_
  refine lv_sipush (v := 1000) hx hb dX8_reads_9 (by decide) ?_
  refine lv_isub hx hb dX8_reads_12 ?_
  refine va_put (D := G.1) (ci := 8) (v := .int ((mtok tx len i) - 1000)) (ty := .int) (C := RX8) (T := TX8) (N := 44) hx hb hts hin8 tyX8 tyX8_ok nmX8 hown hK.1 hP hD hS 0 rfl rfl 27 (by decide) f128 (fun _ h9 => h9) rfl (by decide +kernel) rfl rfl (Nat.le_of_ble_eq_true rfl) dX8_reads_13 (fun H locs hP hD hS => ?_)
  have hP : va_P G.1 vwCl [oB h 8 (oF8 (upd u_1 27 ((mtok tx len i) - 1000)) q), aI G (q 23) 140 tx] H := hP
  have hD : va_D A [oB h 8 (oF8 (upd u_1 27 ((mtok tx len i) - 1000)) q), aI G (q 23) 140 tx] := hD
  refine lv_aload_n hx hb dX8_reads_16 rfl (lv_at hl 0 rfl) ?_
  refine va_get (D := G.1) (ci := 8) (v := .int ((mtok tx len i) - 1000)) (C := RX8) (T := TX8) (N := 44) hx hb hts hin8 hown hK.1 hP 0 rfl rfl 27 (by decide) f128 (fun _ h9 => h9) rfl dX8_reads_17 ?_
  refine lv_iload_n hx hb dX8_reads_20 rfl (lv_at hl 1 rfl) ?_
  refine lv_iload_n hx hb dX8_reads_21 rfl (lv_at hl 2 rfl) ?_
  refine rd_i (va_runS (As := [.int ((mtok tx len i) - 1000), .int 0, .int (nI nn - 1)]) (rest := []) ⟨hx, hb, hml, hown, hts⟩ (c_X8_in l G ((mtok tx len i) - 1000) 0 (nI nn - 1)) (va_cwS 3 hts gX8_reads_X8_in rfl rfl rfl (by decide +kernel) ⟨Nat.le_of_ble_eq_true rfl, Nat.le_of_ble_eq_true rfl⟩) (rPre_S hK hP [] rfl) rfl rfl hl.1 rfl (lv_room (Nat.le_of_ble_eq_true rfl)) dX8_reads_22 ⟨Nat.zero_le _, Nat.zero_le _⟩) (fun r_22 q_22 => ?_)
  obtain rfl : r_22 = b2i (pIn ((mtok tx len i) - 1000) 0 (nI nn - 1)) := q_22
  have hpost : (b2i (pIn ((mtok tx len i) - 1000) 0 (nI nn - 1)) : Int32) = b2i (tN tx len i 0 (nI nn - 1)) ∧ (upd u_1 27 ((mtok tx len i) - 1000)) 24 = nI (tkE tx len i) ∧ (upd u_1 27 ((mtok tx len i) - 1000)) 25 = nI (tkS tx len i) ∧ (upd u_1 27 ((mtok tx len i) - 1000)) 26 = mtok tx len i ∧ (tN tx len i 0 (nI nn - 1) = true → (upd u_1 27 ((mtok tx len i) - 1000)) 27 = nI (tkV tx len i)) ∧ (∀ k, ¬ k = 24 → ¬ k = 25 → ¬ k = 26 → ¬ k = 27 → (upd u_1 27 ((mtok tx len i) - 1000)) k = v k) := by
    obtain ⟨k1, k2, k3, k4⟩ := q_1
    have hm : pIn (mtok tx len i - 1000) 0 (nI nn - 1) = tN tx len i 0 (nI nn - 1) ∧ (tN tx len i 0 (nI nn - 1) = true → mtok tx len i - 1000 = nI (tkV tx len i)) := by
      cases nn with
      | zero => exact ⟨by rw [mt_num0.1, mt_num0.2], fun h => absurd h (ne_t mt_num0.2)⟩
      | succ n => rw [nI_pred]; exact mt_num (lo := 0) (hi := n) hT (by omega) (by omega)
    exact ⟨by rw [hm.1], k1, k2, k3, fun h => hm.2 h, fun k h24 h25 h26 h27 => by simp [upd, h27]; exact k4 k h24 h25 h26⟩
  exact hret _ (upd u_1 27 ((mtok tx len i) - 1000)) _ _ _ _ (hpost) (b2i_nar _) hP hD hS dX8_reads_25
