/-! the model's notches, what is known of them, images, clouds -/
def PMr (U : Nat) (PH : Nat → NL) (pa : Nat → Int32) : Prop := U ≤ 10 ∧ ∀ i, i < U → SMr (PH i) (fun k => pa (17 * i + k))
def pshN (U : Nat) (PH : Nat → NL) (N : NL) (i : Nat) : NL := if U = 10 then (if i = 9 then N else PH (i + 1)) else (if i = U then N else PH i)
def PQm (D : Bool) (N : NL) (U : Nat) (PH : Nat → NL) (v pa v' pa' : Nat → Int32) : Prop := (D = true → v' 15 = nI (min (U + 1) 10) ∧ PMr (min (U + 1) 10) (pshN U PH N) pa') ∧ (D = false → v' 15 = v 15 ∧ pa' = pa) ∧ ∀ k, ¬ k = 0 → ¬ k = 15 → v' k = v k
theorem SMr.copy {N : NL} {s t : Nat → Int32} (h : SMr N s) (hc : ∀ k, k < 17 → t k = s k) : SMr N t := by
  obtain ⟨h1, h2, h3⟩ := h
  exact ⟨by rw [hc 0 (by omega)]; exact h1, h2, fun k hk => by rw [hc (2 * k + 1) (by omega), hc (2 * k + 2) (by omega)]; exact h3 k hk⟩
theorem PM_push10 {PH : Nat → NL} {N : NL} {pa pa1 pa2 sa : Nat → Int32} (hP : PMr 10 PH pa) (hN : SMr N sa) (h1 : ∀ i, i < 153 → pa1 i = pa (i + 17)) (h2 : ∀ i, i < 17 * 9 → pa2 i = pa1 i) (h3 : ∀ i, i < 17 → pa2 (17 * 9 + i) = sa i) : PMr 10 (pshN 10 PH N) pa2 := by
  refine ⟨by omega, fun i hi => ?_⟩
  unfold pshN
  rw [if_pos rfl]
  by_cases e : i = 9
  · rw [if_pos e, e]; exact hN.copy h3
  · rw [if_neg e]
    refine (hP.2 (i + 1) (by omega)).copy (fun k hk => ?_)
    show pa2 (17 * i + k) = pa (17 * (i + 1) + k)
    rw [h2 _ (by omega), h1 _ (by omega)]
    congr 1; omega
theorem PM_push {U : Nat} {PH : Nat → NL} {N : NL} {pa pa2 sa : Nat → Int32} (hU : U < 10) (hP : PMr U PH pa) (hN : SMr N sa) (h2 : ∀ i, i < 17 * U → pa2 i = pa i) (h3 : ∀ i, i < 17 → pa2 (17 * U + i) = sa i) : PMr (U + 1) (pshN U PH N) pa2 := by
  refine ⟨by omega, fun i hi => ?_⟩
  unfold pshN
  rw [if_neg (by omega)]
  by_cases e : i = U
  · rw [if_pos e, e]; exact hN.copy h3
  · rw [if_neg e]
    refine (hP.2 i (by omega)).copy (fun k hk => ?_)
    show pa2 (17 * i + k) = pa (17 * i + k)
    exact h2 _ (by omega)
theorem mul17 (a k : Nat) : 17 * nI a + nI k = nI (17 * a + k) := by rw [show (17 : Int32) = nI 17 from rfl, pk_mul, nI_add]
theorem SM_add {N : NL} {sa : Nat → Int32} {a b : Nat} (h : SMr N sa) (hn : N.1 < 8) (ha : a < 64) (hb : b ≤ 480) : SMr (N.1 + 1, updN N.2.1 N.1 a, updN N.2.2 N.1 b) (upd (upd (upd sa (2 * N.1 + 1) (nI a)) (2 * N.1 + 2) (nI b)) 0 (nI (N.1 + 1))) := by
  refine ⟨pk_us, by show N.1 + 1 ≤ 8; omega, fun k hk => ?_⟩
  have hk : k < N.1 + 1 := hk
  show _ = nI (updN N.2.1 N.1 a k) ∧ updN N.2.1 N.1 a k < 64 ∧ _ = nI (updN N.2.2 N.1 b k) ∧ updN N.2.2 N.1 b k ≤ 480
  by_cases e : k = N.1
  · rw [e, updN_s, updN_s, pk_un (by omega), pk_un (by omega), pk_us, pk_un (by omega), pk_us]
    exact ⟨rfl, ha, rfl, hb⟩
  · rw [updN_n e, updN_n e, pk_un (by omega), pk_un (by omega), pk_un (by omega), pk_un (by omega), pk_un (by omega), pk_un (by omega)]
    exact h.2.2 k (by omega)
theorem SM_rm {N : NL} {sa t : Nat → Int32} {p : Nat} (h : SMr N sa) (hp : p < N.1) (h0 : t 0 = nI (N.1 - 1)) (hlo : ∀ i, i < 2 * (N.1 - 1) + 1 → ¬ i = 0 → t i = if i < 2 * p + 1 then sa i else sa (i + 2)) : SMr (N.1 - 1, shN N.2.1 p, shN N.2.2 p) t := by
  refine ⟨h0, by show N.1 - 1 ≤ 8; have := h.2.1; omega, fun k hk => ?_⟩
  have hk : k < N.1 - 1 := hk
  show t (2 * k + 1) = nI (shN N.2.1 p k) ∧ shN N.2.1 p k < 64 ∧ t (2 * k + 2) = nI (shN N.2.2 p k) ∧ shN N.2.2 p k ≤ 480
  rw [hlo (2 * k + 1) (by omega) (by omega), hlo (2 * k + 2) (by omega) (by omega)]
  unfold shN
  by_cases e : k < p
  · rw [if_pos (show 2 * k + 1 < 2 * p + 1 by omega), if_pos (show 2 * k + 2 < 2 * p + 1 by omega), if_pos e, if_pos e]
    exact h.2.2 k (by omega)
  · rw [if_neg (show ¬ 2 * k + 1 < 2 * p + 1 by omega), if_neg (show ¬ 2 * k + 2 < 2 * p + 1 by omega), if_neg e, if_neg e]
    have h9 := h.2.2 (k + 1) (by omega)
    rw [show 2 * k + 1 + 2 = 2 * (k + 1) + 1 by omega, show 2 * k + 2 + 2 = 2 * (k + 1) + 2 by omega]
    exact h9
theorem SM_set {N : NL} {sa : Nat → Int32} {p a b : Nat} (h : SMr N sa) (hp : p < N.1) (ha : a < 64) (hb : b ≤ 480) : SMr (N.1, updN N.2.1 p a, updN N.2.2 p b) (upd (upd sa (2 * p + 1) (nI a)) (2 * p + 2) (nI b)) := by
  refine ⟨by rw [pk_un (by omega), pk_un (by omega)]; exact h.1, h.2.1, fun k hk => ?_⟩
  have hk : k < N.1 := hk
  show _ = nI (updN N.2.1 p a k) ∧ updN N.2.1 p a k < 64 ∧ _ = nI (updN N.2.2 p b k) ∧ updN N.2.2 p b k ≤ 480
  by_cases e : k = p
  · rw [e, updN_s, updN_s, pk_un (by omega), pk_us, pk_us]
    exact ⟨rfl, ha, rfl, hb⟩
  · rw [updN_n e, updN_n e, pk_un (by omega), pk_un (by omega), pk_un (by omega), pk_un (by omega)]
    exact h.2.2 k (by omega)
theorem pIn1e {y : Int32} (h : pIn y 0 1 = true) : ∃ e : Nat, e < 2 ∧ y = nI e := by
  by_cases h0 : y = 0
  · exact ⟨0, by omega, by rw [h0]; rfl⟩
  · exact ⟨1, by omega, by rw [pIn1t h h0]; rfl⟩
theorem isOk_in (w : Int32) : isOk w = pIn w 0 1 := by
  unfold isOk pIn
  have e : decide (w ≤ 1) = !decide (1 < w) := by
    by_cases c : w ≤ 1
    · rw [decide_eq_true c, decide_eq_false (by rw [Int32.le_iff_toInt_le] at c; rw [Int32.lt_iff_toInt_lt]; omega)]; rfl
    · rw [decide_eq_false c, decide_eq_true (by rw [Int32.le_iff_toInt_le] at c; rw [Int32.lt_iff_toInt_lt]; omega)]; rfl
  rw [e]
theorem im_in (x : Int32) : imOk x = pIn x 0 1 := by
  unfold imOk pIn
  have e : decide (x < 2) = !decide (1 < x) := by
    have h2 : (2 : Int32).toInt = 2 := by decide
    have h1 : (1 : Int32).toInt = 1 := by decide
    by_cases c : x < 2
    · rw [decide_eq_true c, decide_eq_false (by rw [Int32.lt_iff_toInt_lt] at c ⊢; omega)]; rfl
    · rw [decide_eq_false c, decide_eq_true (by rw [Int32.lt_iff_toInt_lt] at c ⊢; omega)]; rfl
  rw [e]
theorem e_b2i {e : Nat} (h : e < 2) : nI e = b2i (decide (nI e = 1)) := by
  rcases (show e = 0 ∨ e = 1 by omega) with rfl | rfl <;> decide
abbrev rX8_remembers : Room := { frames := 0, cells := 0, slots := 0, locals := 0 }
set_option maxHeartbeats 4000000 in
set_option maxRecDepth 100000 in
theorem c_X8_remembers (l : Launch) (G : kG) (h : Nat) (v : Nat → Int32) (q : Nat → Nat) (sa : Nat → Int32) (pa : Nat → Int32) (N : NL) (U : Nat) (PH : Nat → NL) (hv15 : v 15 = nI U) (hSM : SMr N sa) (hPM : PMr U PH pa) : Cv l G yX8_remembers wsX8_remembers rX8_remembers [.ref h] [oB h 8 (oF8 v q), aI G (q 13) 17 sa, aI G (q 14) 170 pa] (fun (u : (Nat → Int32) × (Nat → Int32)) => u.1 15 = nI (min (U + 1) 10) ∧ PMr (min (U + 1) 10) (pshN U PH N) u.2 ∧ (∀ k, ¬ k = 15 → u.1 k = v k)) (fun u => [oB h 8 (oF8 u.1 q), aI G (q 13) 17 sa, aI G (q 14) 170 u.2]) 0 0 := by
  refine Cv.of (cc := cX8_remembers) (maxL := 2) (by decide) rfl (Nat.le_of_ble_eq_true rfl) ?_
  intro pM eM sM mM bM tM cM Q A hx hb hts hown hml hnm hA hK hP hD hS hret ls hl
  have hown : sM.vm.findClass RX8 = some mM.cls := hown
  have hl : lv_has ls 2 [(0, .ref h)] := hl
  have hin8 : ∀ w ∈ u_ws RX8 TX8 44, w ∈ wsX8_remembers := by decide +kernel
  have f157 := hts (.fieldLink RX8 157 "HorizonPeaksModel" "undos" "I") (by decide +kernel)
  have f41 := hts (.fieldLink RX8 41 "HorizonPeaksModel" "past" "[I") (by decide +kernel)
  have f38 := hts (.fieldLink RX8 38 "HorizonPeaksModel" "s" "[I") (by decide +kernel)
  have hn8 := hSM.2.1
  have hU := hPM.1
  refine lv_aload_n hx hb dX8_remembers_0 rfl (lv_at hl 0 rfl) ?_
  refine va_get (D := G.1) (ci := 8) (v := .int (v 15)) (C := RX8) (T := TX8) (N := 44) hx hb hts hin8 hown hK.1 hP 0 rfl rfl 15 (by decide) f157 (fun _ h9 => h9) rfl dX8_remembers_1 ?_
  refine top_i (y := nI U) (hv15) ?_
  refine lv_bipush (v := 10) hx hb dX8_remembers_4 (by decide) ?_
  refine lv_icmp_ne (tgt := 49) hx hb dX8_remembers_6 (by decide) (fun c_6 => ?_) (fun c_6 => ?_)
  · have c_6 : ¬ U = 10 := fun hne => c_6 ((c_eq (a := U) (b := 10) rfl rfl (by omega) (by omega)).mpr hne)
    refine lv_iconst (v := 0) hx hb dX8_remembers_49 (by decide) ?_
    refine lv_istore_n (lv' := [(1, .int 0), (0, .ref h)]) hx hb dX8_remembers_50 rfl hl (by decide) rfl (fun ls hl => ?_)
    have loop_51 : ∀ (nF : Nat) (k2 : Nat) (pa2 : Nat → Int32), (17 - k2) < nF → (k2 ≤ 17) → (∀ i, i < 17 * U → pa2 i = pa i) → (∀ i, i < k2 → pa2 (17 * U + i) = sa i) → ∀ (H : Heap) (locs : List Loc), va_P G.1 vwCl [oB h 8 (oF8 v q), aI G (q 13) 17 sa, aI G (q 14) 170 pa2] H → va_D A [oB h 8 (oF8 v q), aI G (q 13) 17 sa, aI G (q 14) 170 pa2] → va_S A sM.heap H locs → ∀ (ls : Array Slot), lv_has ls 2 [(1, .int (nI k2)), (0, .ref h)] → W pM l eM rX8_remembers sM mM [.ref h].toArray bM tM cM H locs 0 0 Q (F0 mM 51 ls []) := by
      intro nF
      induction nF with
      | zero => intro k2 pa2 hmF; exact absurd hmF (Nat.not_lt_zero _)
      | succ nF ih51 =>
        intro k2 pa2 hmF hk2 hlo hcp H locs hP hD hS ls hl
        refine lv_iload_n hx hb dX8_remembers_51 rfl (lv_at hl 0 rfl) ?_
        refine lv_bipush (v := 17) hx hb dX8_remembers_52 (by decide) ?_
        refine lv_icmp_ge (tgt := 83) hx hb dX8_remembers_54 (by decide) (fun c_54 => ?_) (fun c_54 => ?_)
        · have c_54 : 17 ≤ k2 := (c_le (a := 17) (b := k2) rfl rfl (by omega) (by omega)).mp c_54
          refine lv_aload_n hx hb dX8_remembers_83 rfl (lv_at hl 1 rfl) ?_
          refine lv_dup hx hb dX8_remembers_84 rfl ?_
          refine va_get (D := G.1) (ci := 8) (v := .int (v 15)) (C := RX8) (T := TX8) (N := 44) hx hb hts hin8 hown hK.1 hP 0 rfl rfl 15 (by decide) f157 (fun _ h9 => h9) rfl dX8_remembers_85 ?_
          refine top_i (y := nI U) (hv15) ?_
          refine lv_iconst (v := 1) hx hb dX8_remembers_88 (by decide) ?_
          refine lv_iadd hx hb dX8_remembers_89 ?_
          refine top_i (y := nI (U + 1)) (nI_1 U) ?_
          refine va_put (D := G.1) (ci := 8) (v := .int (nI (U + 1))) (ty := .int) (C := RX8) (T := TX8) (N := 44) hx hb hts hin8 tyX8 tyX8_ok nmX8 hown hK.1 hP hD hS 0 rfl rfl 15 (by decide) f157 (fun _ h9 => h9) rfl (by decide +kernel) rfl rfl (Nat.le_of_ble_eq_true rfl) dX8_remembers_90 (fun H locs hP hD hS => ?_)
          have hP : va_P G.1 vwCl [oB h 8 (oF8 (upd v 15 (nI (U + 1))) q), aI G (q 13) 17 sa, aI G (q 14) 170 pa2] H := hP
          have hD : va_D A [oB h 8 (oF8 (upd v 15 (nI (U + 1))) q), aI G (q 13) 17 sa, aI G (q 14) 170 pa2] := hD
          have hpost : (upd v 15 (nI (U + 1)), pa2).1 15 = nI (min (U + 1) 10) ∧ PMr (min (U + 1) 10) (pshN U PH N) (upd v 15 (nI (U + 1)), pa2).2 ∧ (∀ k, ¬ k = 15 → (upd v 15 (nI (U + 1)), pa2).1 k = v k) := by
            have e10 : min (U + 1) 10 = U + 1 := by omega
            rw [e10]
            refine ⟨rfl, ?_, fun k h15 => pk_un h15⟩
            exact PM_push (by omega) hPM hSM hlo (fun i hi => hcp i (by omega))
          exact hret (upd v 15 (nI (U + 1)), pa2) _ _ _ _ (hpost) hP hD hS dX8_remembers_93
        · have c_54 : ¬ 17 ≤ k2 := fun hne => c_54 ((c_le (a := 17) (b := k2) rfl rfl (by omega) (by omega)).mpr hne)
          refine lv_aload_n hx hb dX8_remembers_57 rfl (lv_at hl 1 rfl) ?_
          refine va_get (D := G.1) (ci := 8) (v := .ref (q 14)) (C := RX8) (T := TX8) (N := 44) hx hb hts hin8 hown hK.1 hP 0 rfl rfl 14 (by decide) f41 (fun _ h9 => h9) rfl dX8_remembers_58 ?_
          refine lv_bipush (v := 17) hx hb dX8_remembers_61 (by decide) ?_
          refine lv_aload_n hx hb dX8_remembers_63 rfl (lv_at hl 1 rfl) ?_
          refine va_get (D := G.1) (ci := 8) (v := .int (v 15)) (C := RX8) (T := TX8) (N := 44) hx hb hts hin8 hown hK.1 hP 0 rfl rfl 15 (by decide) f157 (fun _ h9 => h9) rfl dX8_remembers_64 ?_
          refine top_i (y := nI U) (hv15) ?_
          refine lv_imul hx hb dX8_remembers_67 ?_
          refine lv_iload_n hx hb dX8_remembers_68 rfl (lv_at hl 0 rfl) ?_
          refine lv_iadd hx hb dX8_remembers_69 ?_
          refine top_i (y := nI (17 * U + k2)) (mul17 U k2) ?_
          refine lv_aload_n hx hb dX8_remembers_70 rfl (lv_at hl 1 rfl) ?_
          refine va_get (D := G.1) (ci := 8) (v := .ref (q 13)) (C := RX8) (T := TX8) (N := 44) hx hb hts hin8 hown hK.1 hP 0 rfl rfl 13 (by decide) f38 (fun _ h9 => h9) rfl dX8_remembers_71 ?_
          refine lv_iload_n hx hb dX8_remembers_74 rfl (lv_at hl 0 rfl) ?_
          refine al_i hx hb hK.1 hP 1 0 rfl rfl (j := k2) (by omega) (Nat.le_of_ble_eq_true rfl) dX8_remembers_75 ?_
          refine as_i hx hb hK.1 hP hD hS 2 0 rfl rfl (j := 17 * U + k2) (by omega) (Nat.le_of_ble_eq_true rfl) dX8_remembers_76 (fun H locs hP hD hS => ?_)
          have hP : va_P G.1 vwCl [oB h 8 (oF8 v q), aI G (q 13) 17 sa, aI G (q 14) 170 (upd pa2 (17 * U + k2) (sa k2))] H := hP
          have hD : va_D A [oB h 8 (oF8 v q), aI G (q 13) 17 sa, aI G (q 14) 170 (upd pa2 (17 * U + k2) (sa k2))] := hD
          refine lv_iinc (v := nI (k2 + 1)) (lv' := [(1, .int (nI (k2 + 1))), (0, .ref h)]) hx hb dX8_remembers_77 hl (k := 0) rfl (inc_nI _ 1) (by decide) rfl (fun ls hl => ?_)
          refine lv_goto (tgt := 51) hx hb dX8_remembers_80 (by decide) ?_
          exact ih51 (k2 + 1) (upd pa2 (17 * U + k2) (sa k2)) (by omega) (by omega) (fun i hi => by rw [pk_un (by omega)]; exact hlo i hi) (fun i hi => (Nat.lt_succ_iff_lt_or_eq.mp hi).elim (fun e => by rw [pk_un (by omega)]; exact hcp i e) (fun e => by rw [e, pk_us])) _ _ hP hD hS _ (lv_sub hl [0, 1] rfl)
    exact loop_51 _ 0 pa (Nat.lt_succ_self _) (Nat.zero_le _) (fun i _ => rfl) (fun i hi => absurd hi (Nat.not_lt_zero i)) _ _ hP hD hS _ (lv_sub hl [0, 1] rfl)
  · have c_6 : U = 10 := (c_eq (a := U) (b := 10) rfl rfl (by omega) (by omega)).mp c_6
    refine lv_iconst (v := 0) hx hb dX8_remembers_9 (by decide) ?_
    refine lv_istore_n (lv' := [(1, .int 0), (0, .ref h)]) hx hb dX8_remembers_10 rfl hl (by decide) rfl (fun ls hl => ?_)
    have loop_11 : ∀ (nF : Nat) (k : Nat) (pa1 : Nat → Int32), (153 - k) < nF → (k ≤ 153) → (∀ i, i < k → pa1 i = pa (i + 17)) → (∀ i, k ≤ i → pa1 i = pa i) → ∀ (H : Heap) (locs : List Loc), va_P G.1 vwCl [oB h 8 (oF8 v q), aI G (q 13) 17 sa, aI G (q 14) 170 pa1] H → va_D A [oB h 8 (oF8 v q), aI G (q 13) 17 sa, aI G (q 14) 170 pa1] → va_S A sM.heap H locs → ∀ (ls : Array Slot), lv_has ls 2 [(1, .int (nI k)), (0, .ref h)] → W pM l eM rX8_remembers sM mM [.ref h].toArray bM tM cM H locs 0 0 Q (F0 mM 11 ls []) := by
      intro nF
      induction nF with
      | zero => intro k pa1 hmF; exact absurd hmF (Nat.not_lt_zero _)
      | succ nF ih11 =>
        intro k pa1 hmF hk hc1 hc2 H locs hP hD hS ls hl
        refine lv_iload_n hx hb dX8_remembers_11 rfl (lv_at hl 0 rfl) ?_
        refine lv_sipush (v := 153) hx hb dX8_remembers_12 (by decide) ?_
        refine lv_icmp_ge (tgt := 39) hx hb dX8_remembers_15 (by decide) (fun c_15 => ?_) (fun c_15 => ?_)
        · have c_15 : 153 ≤ k := (c_le (a := 153) (b := k) rfl rfl (by omega) (by omega)).mp c_15
          refine lv_aload_n hx hb dX8_remembers_39 rfl (lv_at hl 1 rfl) ?_
          refine lv_dup hx hb dX8_remembers_40 rfl ?_
          refine va_get (D := G.1) (ci := 8) (v := .int (v 15)) (C := RX8) (T := TX8) (N := 44) hx hb hts hin8 hown hK.1 hP 0 rfl rfl 15 (by decide) f157 (fun _ h9 => h9) rfl dX8_remembers_41 ?_
          refine top_i (y := nI U) (hv15) ?_
          refine lv_iconst (v := 1) hx hb dX8_remembers_44 (by decide) ?_
          refine lv_isub hx hb dX8_remembers_45 ?_
          refine top_i (y := nI 9) (by rw [c_6]; decide) ?_
          refine va_put (D := G.1) (ci := 8) (v := .int (nI 9)) (ty := .int) (C := RX8) (T := TX8) (N := 44) hx hb hts hin8 tyX8 tyX8_ok nmX8 hown hK.1 hP hD hS 0 rfl rfl 15 (by decide) f157 (fun _ h9 => h9) rfl (by decide +kernel) rfl rfl (Nat.le_of_ble_eq_true rfl) dX8_remembers_46 (fun H locs hP hD hS => ?_)
          have hP : va_P G.1 vwCl [oB h 8 (oF8 (upd v 15 (nI 9)) q), aI G (q 13) 17 sa, aI G (q 14) 170 pa1] H := hP
          have hD : va_D A [oB h 8 (oF8 (upd v 15 (nI 9)) q), aI G (q 13) 17 sa, aI G (q 14) 170 pa1] := hD
          refine lv_iconst (v := 0) hx hb dX8_remembers_49 (by decide) ?_
          refine lv_istore_n (lv' := [(1, .int 0), (0, .ref h)]) hx hb dX8_remembers_50 rfl hl (by decide) rfl (fun ls hl => ?_)
          have loop_51 : ∀ (nF : Nat) (k2 : Nat) (pa2 : Nat → Int32), (17 - k2) < nF → (k2 ≤ 17) → (∀ i, i < 17 * 9 → pa2 i = pa1 i) → (∀ i, i < k2 → pa2 (17 * 9 + i) = sa i) → ∀ (H : Heap) (locs : List Loc), va_P G.1 vwCl [oB h 8 (oF8 (upd v 15 (nI 9)) q), aI G (q 13) 17 sa, aI G (q 14) 170 pa2] H → va_D A [oB h 8 (oF8 (upd v 15 (nI 9)) q), aI G (q 13) 17 sa, aI G (q 14) 170 pa2] → va_S A sM.heap H locs → ∀ (ls : Array Slot), lv_has ls 2 [(1, .int (nI k2)), (0, .ref h)] → W pM l eM rX8_remembers sM mM [.ref h].toArray bM tM cM H locs 0 0 Q (F0 mM 51 ls []) := by
            intro nF
            induction nF with
            | zero => intro k2 pa2 hmF; exact absurd hmF (Nat.not_lt_zero _)
            | succ nF ih51 =>
              intro k2 pa2 hmF hk2 hlo hcp H locs hP hD hS ls hl
              refine lv_iload_n hx hb dX8_remembers_51 rfl (lv_at hl 0 rfl) ?_
              refine lv_bipush (v := 17) hx hb dX8_remembers_52 (by decide) ?_
              refine lv_icmp_ge (tgt := 83) hx hb dX8_remembers_54 (by decide) (fun c_54 => ?_) (fun c_54 => ?_)
              · have c_54 : 17 ≤ k2 := (c_le (a := 17) (b := k2) rfl rfl (by omega) (by omega)).mp c_54
                refine lv_aload_n hx hb dX8_remembers_83 rfl (lv_at hl 1 rfl) ?_
                refine lv_dup hx hb dX8_remembers_84 rfl ?_
                refine va_get (D := G.1) (ci := 8) (v := .int (nI 9)) (C := RX8) (T := TX8) (N := 44) hx hb hts hin8 hown hK.1 hP 0 rfl rfl 15 (by decide) f157 (fun _ h9 => h9) rfl dX8_remembers_85 ?_
                refine lv_iconst (v := 1) hx hb dX8_remembers_88 (by decide) ?_
                refine lv_iadd hx hb dX8_remembers_89 ?_
                refine top_i (y := nI 10) (by decide) ?_
                refine va_put (D := G.1) (ci := 8) (v := .int (nI 10)) (ty := .int) (C := RX8) (T := TX8) (N := 44) hx hb hts hin8 tyX8 tyX8_ok nmX8 hown hK.1 hP hD hS 0 rfl rfl 15 (by decide) f157 (fun _ h9 => h9) rfl (by decide +kernel) rfl rfl (Nat.le_of_ble_eq_true rfl) dX8_remembers_90 (fun H locs hP hD hS => ?_)
                have hP : va_P G.1 vwCl [oB h 8 (oF8 (upd v 15 (nI 10)) q), aI G (q 13) 17 sa, aI G (q 14) 170 pa2] H := hP
                have hD : va_D A [oB h 8 (oF8 (upd v 15 (nI 10)) q), aI G (q 13) 17 sa, aI G (q 14) 170 pa2] := hD
                have hpost : (upd v 15 (nI 10), pa2).1 15 = nI (min (U + 1) 10) ∧ PMr (min (U + 1) 10) (pshN U PH N) (upd v 15 (nI 10), pa2).2 ∧ (∀ k, ¬ k = 15 → (upd v 15 (nI 10), pa2).1 k = v k) := by
                  have e10 : min (U + 1) 10 = 10 := by omega
                  rw [e10]
                  refine ⟨rfl, ?_, fun k h15 => pk_un h15⟩
                  subst c_6
                  exact PM_push10 hPM hSM (fun i hi => hc1 i (by omega)) hlo (fun i hi => hcp i (by omega))
                exact hret (upd v 15 (nI 10), pa2) _ _ _ _ (hpost) hP hD hS dX8_remembers_93
              · have c_54 : ¬ 17 ≤ k2 := fun hne => c_54 ((c_le (a := 17) (b := k2) rfl rfl (by omega) (by omega)).mpr hne)
                refine lv_aload_n hx hb dX8_remembers_57 rfl (lv_at hl 1 rfl) ?_
                refine va_get (D := G.1) (ci := 8) (v := .ref (q 14)) (C := RX8) (T := TX8) (N := 44) hx hb hts hin8 hown hK.1 hP 0 rfl rfl 14 (by decide) f41 (fun _ h9 => h9) rfl dX8_remembers_58 ?_
                refine lv_bipush (v := 17) hx hb dX8_remembers_61 (by decide) ?_
                refine lv_aload_n hx hb dX8_remembers_63 rfl (lv_at hl 1 rfl) ?_
                refine va_get (D := G.1) (ci := 8) (v := .int (nI 9)) (C := RX8) (T := TX8) (N := 44) hx hb hts hin8 hown hK.1 hP 0 rfl rfl 15 (by decide) f157 (fun _ h9 => h9) rfl dX8_remembers_64 ?_
                refine lv_imul hx hb dX8_remembers_67 ?_
                refine lv_iload_n hx hb dX8_remembers_68 rfl (lv_at hl 0 rfl) ?_
                refine lv_iadd hx hb dX8_remembers_69 ?_
                refine top_i (y := nI (17 * 9 + k2)) (mul17 9 k2) ?_
                refine lv_aload_n hx hb dX8_remembers_70 rfl (lv_at hl 1 rfl) ?_
                refine va_get (D := G.1) (ci := 8) (v := .ref (q 13)) (C := RX8) (T := TX8) (N := 44) hx hb hts hin8 hown hK.1 hP 0 rfl rfl 13 (by decide) f38 (fun _ h9 => h9) rfl dX8_remembers_71 ?_
                refine lv_iload_n hx hb dX8_remembers_74 rfl (lv_at hl 0 rfl) ?_
                refine al_i hx hb hK.1 hP 1 0 rfl rfl (j := k2) (by omega) (Nat.le_of_ble_eq_true rfl) dX8_remembers_75 ?_
                refine as_i hx hb hK.1 hP hD hS 2 0 rfl rfl (j := 17 * 9 + k2) (by omega) (Nat.le_of_ble_eq_true rfl) dX8_remembers_76 (fun H locs hP hD hS => ?_)
                have hP : va_P G.1 vwCl [oB h 8 (oF8 (upd v 15 (nI 9)) q), aI G (q 13) 17 sa, aI G (q 14) 170 (upd pa2 (17 * 9 + k2) (sa k2))] H := hP
                have hD : va_D A [oB h 8 (oF8 (upd v 15 (nI 9)) q), aI G (q 13) 17 sa, aI G (q 14) 170 (upd pa2 (17 * 9 + k2) (sa k2))] := hD
                refine lv_iinc (v := nI (k2 + 1)) (lv' := [(1, .int (nI (k2 + 1))), (0, .ref h)]) hx hb dX8_remembers_77 hl (k := 0) rfl (inc_nI _ 1) (by decide) rfl (fun ls hl => ?_)
                refine lv_goto (tgt := 51) hx hb dX8_remembers_80 (by decide) ?_
                exact ih51 (k2 + 1) (upd pa2 (17 * 9 + k2) (sa k2)) (by omega) (by omega) (fun i hi => by rw [pk_un (by omega)]; exact hlo i hi) (fun i hi => (Nat.lt_succ_iff_lt_or_eq.mp hi).elim (fun e => by rw [pk_un (by omega)]; exact hcp i e) (fun e => by rw [e, pk_us])) _ _ hP hD hS _ (lv_sub hl [0, 1] rfl)
          exact loop_51 _ 0 pa1 (Nat.lt_succ_self _) (Nat.zero_le _) (fun i _ => rfl) (fun i hi => absurd hi (Nat.not_lt_zero i)) _ _ hP hD hS _ (lv_sub hl [0, 1] rfl)
        · have c_15 : ¬ 153 ≤ k := fun hne => c_15 ((c_le (a := 153) (b := k) rfl rfl (by omega) (by omega)).mpr hne)
          refine lv_aload_n hx hb dX8_remembers_18 rfl (lv_at hl 1 rfl) ?_
          refine va_get (D := G.1) (ci := 8) (v := .ref (q 14)) (C := RX8) (T := TX8) (N := 44) hx hb hts hin8 hown hK.1 hP 0 rfl rfl 14 (by decide) f41 (fun _ h9 => h9) rfl dX8_remembers_19 ?_
          refine lv_iload_n hx hb dX8_remembers_22 rfl (lv_at hl 0 rfl) ?_
          refine lv_aload_n hx hb dX8_remembers_23 rfl (lv_at hl 1 rfl) ?_
          refine va_get (D := G.1) (ci := 8) (v := .ref (q 14)) (C := RX8) (T := TX8) (N := 44) hx hb hts hin8 hown hK.1 hP 0 rfl rfl 14 (by decide) f41 (fun _ h9 => h9) rfl dX8_remembers_24 ?_
          refine lv_iload_n hx hb dX8_remembers_27 rfl (lv_at hl 0 rfl) ?_
          refine lv_bipush (v := 17) hx hb dX8_remembers_28 (by decide) ?_
          refine lv_iadd hx hb dX8_remembers_30 ?_
          refine top_i (y := nI (k + 17)) (nI_add k 17) ?_
          refine al_i hx hb hK.1 hP 2 0 rfl rfl (j := k + 17) (by omega) (Nat.le_of_ble_eq_true rfl) dX8_remembers_31 ?_
          refine top_i (y := pa (k + 17)) (hc2 _ (by omega)) ?_
          refine as_i hx hb hK.1 hP hD hS 2 0 rfl rfl (j := k) (by omega) (Nat.le_of_ble_eq_true rfl) dX8_remembers_32 (fun H locs hP hD hS => ?_)
          have hP : va_P G.1 vwCl [oB h 8 (oF8 v q), aI G (q 13) 17 sa, aI G (q 14) 170 (upd pa1 k (pa (k + 17)))] H := hP
          have hD : va_D A [oB h 8 (oF8 v q), aI G (q 13) 17 sa, aI G (q 14) 170 (upd pa1 k (pa (k + 17)))] := hD
          refine lv_iinc (v := nI (k + 1)) (lv' := [(1, .int (nI (k + 1))), (0, .ref h)]) hx hb dX8_remembers_33 hl (k := 0) rfl (inc_nI _ 1) (by decide) rfl (fun ls hl => ?_)
          refine lv_goto (tgt := 11) hx hb dX8_remembers_36 (by decide) ?_
          exact ih11 (k + 1) (upd pa1 k (pa (k + 17))) (by omega) (by omega) (fun i hi => (Nat.lt_succ_iff_lt_or_eq.mp hi).elim (fun e => by rw [pk_un (by omega)]; exact hc1 i e) (fun e => by rw [e, pk_us])) (fun i hi => by rw [pk_un (by omega)]; exact hc2 i (by omega)) _ _ hP hD hS _ (lv_sub hl [0, 1] rfl)
    exact loop_11 _ 0 pa (Nat.lt_succ_self _) (Nat.zero_le _) (fun i hi => absurd hi (Nat.not_lt_zero i)) (fun _ _ => rfl) _ _ hP hD hS _ (lv_sub hl [0, 1] rfl)

abbrev rX8_adds : Room := { frames := 0, cells := 0, slots := 0, locals := 0 }
set_option maxHeartbeats 4000000 in
set_option maxRecDepth 100000 in
theorem c_X8_adds (l : Launch) (G : kG) (h : Nat) (v : Nat → Int32) (q : Nat → Nat) (sa : Nat → Int32) (N : NL) (a : Nat) (b0 : Nat) (hSM : SMr N sa) (hn7 : N.1 < 8) (ha : a < 64) (hb0 : b0 ≤ 480) : Cv l G yX8_adds wsX8_adds rX8_adds [.ref h, .int (nI a), .int (nI b0)] [oB h 8 (oF8 v q), aI G (q 13) 17 sa] (fun (u : (Nat → Int32)) => SMr (N.1 + 1, updN N.2.1 N.1 a, updN N.2.2 N.1 b0) u) (fun u => [oB h 8 (oF8 v q), aI G (q 13) 17 u]) 0 0 := by
  refine Cv.of (cc := cX8_adds) (maxL := 3) (by decide) rfl (Nat.le_of_ble_eq_true rfl) ?_
  intro pM eM sM mM bM tM cM Q A hx hb hts hown hml hnm hA hK hP hD hS hret ls hl
  have hown : sM.vm.findClass RX8 = some mM.cls := hown
  have hl : lv_has ls 3 [(0, .ref h), (1, .int (nI a)), (2, .int (nI b0))] := hl
  have hin8 : ∀ w ∈ u_ws RX8 TX8 44, w ∈ wsX8_adds := by decide +kernel
  have f38 := hts (.fieldLink RX8 38 "HorizonPeaksModel" "s" "[I") (by decide +kernel)
  refine lv_aload_n hx hb dX8_adds_0 rfl (lv_at hl 0 rfl) ?_
  refine va_get (D := G.1) (ci := 8) (v := .ref (q 13)) (C := RX8) (T := TX8) (N := 44) hx hb hts hin8 hown hK.1 hP 0 rfl rfl 13 (by decide) f38 (fun _ h9 => h9) rfl dX8_adds_1 ?_
  refine lv_iconst (v := 1) hx hb dX8_adds_4 (by decide) ?_
  refine lv_iconst (v := 2) hx hb dX8_adds_5 (by decide) ?_
  refine lv_aload_n hx hb dX8_adds_6 rfl (lv_at hl 0 rfl) ?_
  refine va_get (D := G.1) (ci := 8) (v := .ref (q 13)) (C := RX8) (T := TX8) (N := 44) hx hb hts hin8 hown hK.1 hP 0 rfl rfl 13 (by decide) f38 (fun _ h9 => h9) rfl dX8_adds_7 ?_
  refine lv_iconst (v := 0) hx hb dX8_adds_10 (by decide) ?_
  refine top_i (y := nI 0) rfl ?_
  refine al_i hx hb hK.1 hP 1 0 rfl rfl (j := 0) (by omega) (Nat.le_of_ble_eq_true rfl) dX8_adds_11 ?_
  refine top_i (y := nI N.1) (hSM.1) ?_
  refine lv_imul hx hb dX8_adds_12 ?_
  refine lv_iadd hx hb dX8_adds_13 ?_
  refine top_i (y := nI (2 * N.1 + 1)) (two1 _) ?_
  refine lv_iload_n hx hb dX8_adds_14 rfl (lv_at hl 1 rfl) ?_
  refine as_i hx hb hK.1 hP hD hS 1 0 rfl rfl (j := 2 * N.1 + 1) (by omega) (Nat.le_of_ble_eq_true rfl) dX8_adds_15 (fun H locs hP hD hS => ?_)
  have hP : va_P G.1 vwCl [oB h 8 (oF8 v q), aI G (q 13) 17 (upd sa (2 * N.1 + 1) (nI a))] H := hP
  have hD : va_D A [oB h 8 (oF8 v q), aI G (q 13) 17 (upd sa (2 * N.1 + 1) (nI a))] := hD
  refine lv_aload_n hx hb dX8_adds_16 rfl (lv_at hl 0 rfl) ?_
  refine va_get (D := G.1) (ci := 8) (v := .ref (q 13)) (C := RX8) (T := TX8) (N := 44) hx hb hts hin8 hown hK.1 hP 0 rfl rfl 13 (by decide) f38 (fun _ h9 => h9) rfl dX8_adds_17 ?_
  refine lv_iconst (v := 2) hx hb dX8_adds_20 (by decide) ?_
  refine lv_iconst (v := 2) hx hb dX8_adds_21 (by decide) ?_
  refine lv_aload_n hx hb dX8_adds_22 rfl (lv_at hl 0 rfl) ?_
  refine va_get (D := G.1) (ci := 8) (v := .ref (q 13)) (C := RX8) (T := TX8) (N := 44) hx hb hts hin8 hown hK.1 hP 0 rfl rfl 13 (by decide) f38 (fun _ h9 => h9) rfl dX8_adds_23 ?_
  refine lv_iconst (v := 0) hx hb dX8_adds_26 (by decide) ?_
  refine top_i (y := nI 0) rfl ?_
  refine al_i hx hb hK.1 hP 1 0 rfl rfl (j := 0) (by omega) (Nat.le_of_ble_eq_true rfl) dX8_adds_27 ?_
  refine top_i (y := nI N.1) (by rw [pk_un (by omega)]; exact hSM.1) ?_
  refine lv_imul hx hb dX8_adds_28 ?_
  refine lv_iadd hx hb dX8_adds_29 ?_
  refine top_i (y := nI (2 * N.1 + 2)) (two2 _) ?_
  refine lv_iload_n hx hb dX8_adds_30 rfl (lv_at hl 2 rfl) ?_
  refine as_i hx hb hK.1 hP hD hS 1 0 rfl rfl (j := 2 * N.1 + 2) (by omega) (Nat.le_of_ble_eq_true rfl) dX8_adds_31 (fun H locs hP hD hS => ?_)
  have hP : va_P G.1 vwCl [oB h 8 (oF8 v q), aI G (q 13) 17 (upd (upd sa (2 * N.1 + 1) (nI a)) (2 * N.1 + 2) (nI b0))] H := hP
  have hD : va_D A [oB h 8 (oF8 v q), aI G (q 13) 17 (upd (upd sa (2 * N.1 + 1) (nI a)) (2 * N.1 + 2) (nI b0))] := hD
  refine lv_aload_n hx hb dX8_adds_32 rfl (lv_at hl 0 rfl) ?_
  refine va_get (D := G.1) (ci := 8) (v := .ref (q 13)) (C := RX8) (T := TX8) (N := 44) hx hb hts hin8 hown hK.1 hP 0 rfl rfl 13 (by decide) f38 (fun _ h9 => h9) rfl dX8_adds_33 ?_
  refine lv_iconst (v := 0) hx hb dX8_adds_36 (by decide) ?_
  refine lv_dup2_11 hx hb dX8_adds_37 rfl rfl ?_
  refine top_i (y := nI 0) rfl ?_
  refine al_i hx hb hK.1 hP 1 0 rfl rfl (j := 0) (by omega) (Nat.le_of_ble_eq_true rfl) dX8_adds_38 ?_
  refine top_i (y := nI N.1) (by rw [pk_un (by omega), pk_un (by omega)]; exact hSM.1) ?_
  refine lv_iconst (v := 1) hx hb dX8_adds_39 (by decide) ?_
  refine lv_iadd hx hb dX8_adds_40 ?_
  refine top_i (y := nI (N.1 + 1)) (nI_1 _) ?_
  refine snd_i (y := nI 0) rfl ?_
  refine as_i hx hb hK.1 hP hD hS 1 0 rfl rfl (j := 0) (by omega) (Nat.le_of_ble_eq_true rfl) dX8_adds_41 (fun H locs hP hD hS => ?_)
  have hP : va_P G.1 vwCl [oB h 8 (oF8 v q), aI G (q 13) 17 (upd (upd (upd sa (2 * N.1 + 1) (nI a)) (2 * N.1 + 2) (nI b0)) 0 (nI (N.1 + 1)))] H := hP
  have hD : va_D A [oB h 8 (oF8 v q), aI G (q 13) 17 (upd (upd (upd sa (2 * N.1 + 1) (nI a)) (2 * N.1 + 2) (nI b0)) 0 (nI (N.1 + 1)))] := hD
  exact hret (upd (upd (upd sa (2 * N.1 + 1) (nI a)) (2 * N.1 + 2) (nI b0)) 0 (nI (N.1 + 1))) _ _ _ _ (SM_add hSM hn7 ha hb0) hP hD hS dX8_adds_42

abbrev rX8_notes : Room := { frames := 2, cells := 0, slots := 0, locals := 43 }
set_option maxHeartbeats 4000000 in
set_option maxRecDepth 100000 in
theorem c_X8_notes (l : Launch) (G : kG) (h : Nat) (v : Nat → Int32) (q : Nat → Nat) (sa : Nat → Int32) (pa : Nat → Int32) (N : NL) (U : Nat) (PH : Nat → NL) (x : Int32) (y : Int32) (hv15 : v 15 = nI U) (hSM : SMr N sa) (hPM : PMr U PH pa) : Ci l G yX8_notes wsX8_notes rX8_notes [.ref h, .int x, .int y] [oB h 8 (oF8 v q), aI G (q 13) 17 sa, aI G (q 14) 170 pa] (fun r (u : (Nat → Int32) × (Nat → Int32) × (Nat → Int32)) => r = noR N x y ∧ SMr (noN N x y) u.2.1 ∧ PQm (noD N x y) N U PH v pa u.1 u.2.2) (fun u => [oB h 8 (oF8 u.1 q), aI G (q 13) 17 u.2.1, aI G (q 14) 170 u.2.2]) := by
  refine Ci.of (cc := cX8_notes) (maxL := 3) (by decide) rfl (Nat.le_of_ble_eq_true rfl) ?_
  intro pM eM sM mM bM tM cM Q A hx hb hts hown hml hA hK hP hD hS hret ls hl
  have hown : sM.vm.findClass RX8 = some mM.cls := hown
  have hl : lv_has ls 3 [(0, .ref h), (1, .int x), (2, .int y)] := hl
  have hin8 : ∀ w ∈ u_ws RX8 TX8 44, w ∈ wsX8_notes := by decide +kernel
  have f98 := hts (.fieldLink RX8 98 "HorizonPeaksModel" "thrown" "I") (by decide +kernel)
  have f38 := hts (.fieldLink RX8 38 "HorizonPeaksModel" "s" "[I") (by decide +kernel)
  have hn8 := hSM.2.1
  have hU := hPM.1
  refine lv_aload_n hx hb dX8_notes_0 rfl (lv_at hl 0 rfl) ?_
  refine lv_iconst (v := 0) hx hb dX8_notes_1 (by decide) ?_
  refine va_put (D := G.1) (ci := 8) (v := .int 0) (ty := .int) (C := RX8) (T := TX8) (N := 44) hx hb hts hin8 tyX8 tyX8_ok nmX8 hown hK.1 hP hD hS 0 rfl rfl 0 (by decide) f98 (fun _ h9 => h9) rfl (by decide +kernel) rfl rfl (Nat.le_of_ble_eq_true rfl) dX8_notes_2 (fun H locs hP hD hS => ?_)
  have hP : va_P G.1 vwCl [oB h 8 (oF8 (upd v 0 0) q), aI G (q 13) 17 sa, aI G (q 14) 170 pa] H := hP
  have hD : va_D A [oB h 8 (oF8 (upd v 0 0) q), aI G (q 13) 17 sa, aI G (q 14) 170 pa] := hD
  refine lv_iload_n hx hb dX8_notes_5 rfl (lv_at hl 1 rfl) ?_
  refine lv_iload_n hx hb dX8_notes_6 rfl (lv_at hl 2 rfl) ?_
  refine rd_i (va_runS (As := [.int x, .int y]) (rest := []) ⟨hx, hb, hml, hown, hts⟩ (c_X8_mayBe l G x y) (va_cwS 2 hts gX8_notes_X8_mayBe rfl rfl rfl (by decide +kernel) ⟨Nat.le_of_ble_eq_true rfl, Nat.le_of_ble_eq_true rfl⟩) (rPre_S hK hP [] rfl) rfl rfl hl.1 rfl (lv_room (Nat.le_of_ble_eq_true rfl)) dX8_notes_7 ⟨Nat.zero_le _, Nat.zero_le _⟩) (fun r_7 q_7 => ?_)
  obtain rfl : r_7 = b2i (pMark x y) := q_7
  refine lv_if_ne (tgt := 15) hx hb dX8_notes_10 (by decide) (fun c_10 => ?_) (fun c_10 => ?_)
  · have c_10 : (pMark x y) = true := b2i_n0.mp c_10
    obtain ⟨a, b0, ha, hb0, rfl, rfl⟩ := pMark_of c_10
    refine lv_aload_n hx hb dX8_notes_15 rfl (lv_at hl 0 rfl) ?_
    refine va_get (D := G.1) (ci := 8) (v := .ref (q 13)) (C := RX8) (T := TX8) (N := 44) hx hb hts hin8 hown hK.1 hP 0 rfl rfl 13 (by decide) f38 (fun _ h9 => h9) rfl dX8_notes_16 ?_
    refine lv_iconst (v := 0) hx hb dX8_notes_19 (by decide) ?_
    refine top_i (y := nI 0) rfl ?_
    refine al_i hx hb hK.1 hP 1 0 rfl rfl (j := 0) (by omega) (Nat.le_of_ble_eq_true rfl) dX8_notes_20 ?_
    refine top_i (y := nI N.1) (hSM.1) ?_
    refine lv_bipush (v := 8) hx hb dX8_notes_21 (by decide) ?_
    refine lv_icmp_ne (tgt := 29) hx hb dX8_notes_23 (by decide) (fun c_23 => ?_) (fun c_23 => ?_)
    · have c_23 : ¬ N.1 = 8 := fun hne => c_23 ((c_eq (a := N.1) (b := 8) rfl rfl (by omega) (by omega)).mpr hne)
      refine lv_aload_n hx hb dX8_notes_29 rfl (lv_at hl 0 rfl) ?_
      refine ca_v (wr := []) (va_runV (As := []) (rest := []) ⟨hx, hb, hml, hown, hts⟩ ((c_X8_remembers l G h (upd v 0 0) q sa pa N U PH (u3 (by decide) hv15) (hSM) (hPM)) _) (cwV 0 hts gX8_notes_X8_remembers rfl rfl rfl (by decide +kernel) ⟨Nat.le_of_ble_eq_true rfl, Nat.le_of_ble_eq_true rfl⟩) (cPre_V hK hP hD [0, 1, 2] (by decide) rfl 0 8 rfl rfl) rfl rfl hl.1 rfl (lv_room (Nat.le_of_ble_eq_true rfl)) dX8_notes_30 ⟨Nat.zero_le _, Nat.zero_le _⟩) hP hD hS hA [0, 1, 2] [] rfl rfl (by decide) (by decide) [0, 1, 2] (fun u_30 => [oB h 8 (oF8 u_30.1 q), aI G (q 13) 17 sa, aI G (q 14) 170 u_30.2]) (by decide) (fun _ => rfl) (fun u_30 H locs q_30 hP hD hS => ?_)
      have q_30 : u_30.1 15 = nI (min (U + 1) 10) ∧ PMr (min (U + 1) 10) (pshN U PH N) u_30.2 ∧ (∀ k, ¬ k = 15 → u_30.1 k = (upd v 0 0) k) := q_30
      have hP : va_P G.1 vwCl [oB h 8 (oF8 u_30.1 q), aI G (q 13) 17 sa, aI G (q 14) 170 u_30.2] H := hP
      have hD : va_D A [oB h 8 (oF8 u_30.1 q), aI G (q 13) 17 sa, aI G (q 14) 170 u_30.2] := hD
      refine lv_aload_n hx hb dX8_notes_33 rfl (lv_at hl 0 rfl) ?_
      refine lv_iload_n hx hb dX8_notes_34 rfl (lv_at hl 1 rfl) ?_
      refine lv_iload_n hx hb dX8_notes_35 rfl (lv_at hl 2 rfl) ?_
      refine ca_v (wr := [aI G (q 14) 170 u_30.2]) (va_runV (As := [.int (nI a), .int (nI b0)]) (rest := []) ⟨hx, hb, hml, hown, hts⟩ ((c_X8_adds l G h u_30.1 q sa N a b0 (hSM) (by omega) (ha) (hb0)) _) (cwV 2 hts gX8_notes_X8_adds rfl rfl rfl (by decide +kernel) ⟨Nat.le_of_ble_eq_true rfl, Nat.le_of_ble_eq_true rfl⟩) (cPre_V hK hP hD [0, 1] (by decide) rfl 0 8 rfl rfl) rfl rfl hl.1 rfl (lv_room (Nat.le_of_ble_eq_true rfl)) dX8_notes_36 ⟨Nat.zero_le _, Nat.zero_le _⟩) hP hD hS hA [0, 1] [2] rfl rfl (by decide) (by decide) [1, 2, 0] (fun u_36 => [oB h 8 (oF8 u_30.1 q), aI G (q 13) 17 u_36, aI G (q 14) 170 u_30.2]) (by decide) (fun _ => rfl) (fun u_36 H locs q_36 hP hD hS => ?_)
      have q_36 : SMr (N.1 + 1, updN N.2.1 N.1 a, updN N.2.2 N.1 b0) u_36 := q_36
      have hP : va_P G.1 vwCl [oB h 8 (oF8 u_30.1 q), aI G (q 13) 17 u_36, aI G (q 14) 170 u_30.2] H := hP
      have hD : va_D A [oB h 8 (oF8 u_30.1 q), aI G (q 13) 17 u_36, aI G (q 14) 170 u_30.2] := hD
      refine lv_aload_n hx hb dX8_notes_39 rfl (lv_at hl 0 rfl) ?_
      refine va_get (D := G.1) (ci := 8) (v := .ref (q 13)) (C := RX8) (T := TX8) (N := 44) hx hb hts hin8 hown hK.1 hP 0 rfl rfl 13 (by decide) f38 (fun _ h9 => h9) rfl dX8_notes_40 ?_
      refine lv_iconst (v := 0) hx hb dX8_notes_43 (by decide) ?_
      refine top_i (y := nI 0) rfl ?_
      refine al_i hx hb hK.1 hP 1 0 rfl rfl (j := 0) (by omega) (Nat.le_of_ble_eq_true rfl) dX8_notes_44 ?_
      refine top_i (y := nI (N.1 + 1)) (q_36.1) ?_
      have hpost : (nI (N.1 + 1) : Int32) = noR N (nI a) (nI b0) ∧ SMr (noN N (nI a) (nI b0)) (u_30.1, u_36, u_30.2).2.1 ∧ PQm (noD N (nI a) (nI b0)) N U PH v pa (u_30.1, u_36, u_30.2).1 (u_30.1, u_36, u_30.2).2.2 := by
        have hD : noD N (nI a) (nI b0) = true := by rw [noD, c_10, Bool.true_and]; exact decide_eq_true (by omega)
        refine ⟨by rw [noR, if_pos c_10, if_pos (by omega)], ?_, ⟨fun _ => ⟨q_30.1, q_30.2.1⟩, fun h9 => absurd hD (ne_t h9), fun k h0 h15 => ?_⟩⟩
        · rw [noN, if_pos hD, nI_clamp (by omega), nI_clamp (by omega)]; exact q_36
        · exact (q_30.2.2 k h15).trans (pk_un h0)
      exact hret _ (u_30.1, u_36, u_30.2) _ _ _ _ (hpost) (rfl) hP hD hS dX8_notes_45
    · have c_23 : N.1 = 8 := (c_eq (a := N.1) (b := 8) rfl rfl (by omega) (by omega)).mp c_23
      refine lv_bipush (v := -3) hx hb dX8_notes_26 (by decide) ?_
      have hpost : (-3 : Int32) = noR N (nI a) (nI b0) ∧ SMr (noN N (nI a) (nI b0)) (upd v 0 0, sa, pa).2.1 ∧ PQm (noD N (nI a) (nI b0)) N U PH v pa (upd v 0 0, sa, pa).1 (upd v 0 0, sa, pa).2.2 := by
        have hD : noD N (nI a) (nI b0) = false := by rw [noD, c_10, Bool.true_and]; exact decide_eq_false (by omega)
        exact ⟨by rw [noR, if_pos c_10, if_neg (by omega)], by rw [noN, if_neg (ne_t hD)]; exact hSM, fun h9 => absurd h9 (ne_t hD), fun _ => ⟨rfl, rfl⟩, fun k h0 h15 => pk_un h0⟩
      exact hret _ (upd v 0 0, sa, pa) _ _ _ _ (hpost) (rfl) hP hD hS dX8_notes_28
  · have c_10 : (pMark x y) = false := b2i_0.mp c_10
    refine lv_iconst (v := -1) hx hb dX8_notes_13 (by decide) ?_
    have hpost : (-1 : Int32) = noR N x y ∧ SMr (noN N x y) (upd v 0 0, sa, pa).2.1 ∧ PQm (noD N x y) N U PH v pa (upd v 0 0, sa, pa).1 (upd v 0 0, sa, pa).2.2 := by
      have hD : noD N x y = false := by simp [noD, c_10]
      exact ⟨by rw [noR, if_neg (ne_t c_10)], by rw [noN, if_neg (ne_t hD)]; exact hSM, fun h9 => absurd h9 (ne_t hD), fun _ => ⟨rfl, rfl⟩, fun k h0 h15 => pk_un h0⟩
    exact hret _ (upd v 0 0, sa, pa) _ _ _ _ (hpost) (rfl) hP hD hS dX8_notes_14

abbrev rX8_erases : Room := { frames := 2, cells := 0, slots := 0, locals := 43 }
set_option maxHeartbeats 4000000 in
set_option maxRecDepth 100000 in
theorem c_X8_erases (l : Launch) (G : kG) (h : Nat) (v : Nat → Int32) (q : Nat → Nat) (sa : Nat → Int32) (pa : Nat → Int32) (N : NL) (U : Nat) (PH : Nat → NL) (x : Int32) (hv15 : v 15 = nI U) (hSM : SMr N sa) (hPM : PMr U PH pa) : Ci l G yX8_erases wsX8_erases rX8_erases [.ref h, .int x] [oB h 8 (oF8 v q), aI G (q 13) 17 sa, aI G (q 14) 170 pa] (fun r (u : (Nat → Int32) × (Nat → Int32) × (Nat → Int32)) => r = erR N x ∧ SMr (erN N x) u.2.1 ∧ PQm (pHas (nI N.1) x) N U PH v pa u.1 u.2.2) (fun u => [oB h 8 (oF8 u.1 q), aI G (q 13) 17 u.2.1, aI G (q 14) 170 u.2.2]) := by
  refine Ci.of (cc := cX8_erases) (maxL := 3) (by decide) rfl (Nat.le_of_ble_eq_true rfl) ?_
  intro pM eM sM mM bM tM cM Q A hx hb hts hown hml hA hK hP hD hS hret ls hl
  have hown : sM.vm.findClass RX8 = some mM.cls := hown
  have hl : lv_has ls 3 [(0, .ref h), (1, .int x)] := hl
  have hin8 : ∀ w ∈ u_ws RX8 TX8 44, w ∈ wsX8_erases := by decide +kernel
  have f98 := hts (.fieldLink RX8 98 "HorizonPeaksModel" "thrown" "I") (by decide +kernel)
  have f38 := hts (.fieldLink RX8 38 "HorizonPeaksModel" "s" "[I") (by decide +kernel)
  have hn8 := hSM.2.1
  have hU := hPM.1
  refine lv_aload_n hx hb dX8_erases_0 rfl (lv_at hl 0 rfl) ?_
  refine lv_iconst (v := 0) hx hb dX8_erases_1 (by decide) ?_
  refine va_put (D := G.1) (ci := 8) (v := .int 0) (ty := .int) (C := RX8) (T := TX8) (N := 44) hx hb hts hin8 tyX8 tyX8_ok nmX8 hown hK.1 hP hD hS 0 rfl rfl 0 (by decide) f98 (fun _ h9 => h9) rfl (by decide +kernel) rfl rfl (Nat.le_of_ble_eq_true rfl) dX8_erases_2 (fun H locs hP hD hS => ?_)
  have hP : va_P G.1 vwCl [oB h 8 (oF8 (upd v 0 0) q), aI G (q 13) 17 sa, aI G (q 14) 170 pa] H := hP
  have hD : va_D A [oB h 8 (oF8 (upd v 0 0) q), aI G (q 13) 17 sa, aI G (q 14) 170 pa] := hD
  refine lv_aload_n hx hb dX8_erases_5 rfl (lv_at hl 0 rfl) ?_
  refine lv_iload_n hx hb dX8_erases_6 rfl (lv_at hl 1 rfl) ?_
  refine rd_i (va_runV (As := [.int x]) (rest := []) ⟨hx, hb, hml, hown, hts⟩ (c_X8_isNotch l G h (upd v 0 0) q sa x N.1 (hSM.1) (hn8)) (cwV 1 hts gX8_erases_X8_isNotch rfl rfl rfl (by decide +kernel) ⟨Nat.le_of_ble_eq_true rfl, Nat.le_of_ble_eq_true rfl⟩) (rPre_V hK hP [0, 1] rfl 0 8 rfl rfl) rfl rfl hl.1 rfl (lv_room (Nat.le_of_ble_eq_true rfl)) dX8_erases_7 ⟨Nat.zero_le _, Nat.zero_le _⟩) (fun r_7 q_7 => ?_)
  obtain rfl : r_7 = b2i (pHas (nI N.1) x) := q_7
  refine lv_if_ne (tgt := 15) hx hb dX8_erases_10 (by decide) (fun c_10 => ?_) (fun c_10 => ?_)
  · have c_10 : (pHas (nI N.1) x) = true := b2i_n0.mp c_10
    obtain ⟨p, hp, rfl⟩ := pHas_of (by omega) c_10
    obtain ⟨hq1, hq2, hq3, hq4⟩ := hSM.2.2 p hp
    refine lv_aload_n hx hb dX8_erases_15 rfl (lv_at hl 0 rfl) ?_
    refine ca_v (wr := []) (va_runV (As := []) (rest := []) ⟨hx, hb, hml, hown, hts⟩ ((c_X8_remembers l G h (upd v 0 0) q sa pa N U PH (u3 (by decide) hv15) (hSM) (hPM)) _) (cwV 0 hts gX8_erases_X8_remembers rfl rfl rfl (by decide +kernel) ⟨Nat.le_of_ble_eq_true rfl, Nat.le_of_ble_eq_true rfl⟩) (cPre_V hK hP hD [0, 1, 2] (by decide) rfl 0 8 rfl rfl) rfl rfl hl.1 rfl (lv_room (Nat.le_of_ble_eq_true rfl)) dX8_erases_16 ⟨Nat.zero_le _, Nat.zero_le _⟩) hP hD hS hA [0, 1, 2] [] rfl rfl (by decide) (by decide) [0, 1, 2] (fun u_16 => [oB h 8 (oF8 u_16.1 q), aI G (q 13) 17 sa, aI G (q 14) 170 u_16.2]) (by decide) (fun _ => rfl) (fun u_16 H locs q_16 hP hD hS => ?_)
    have q_16 : u_16.1 15 = nI (min (U + 1) 10) ∧ PMr (min (U + 1) 10) (pshN U PH N) u_16.2 ∧ (∀ k, ¬ k = 15 → u_16.1 k = (upd v 0 0) k) := q_16
    have hP : va_P G.1 vwCl [oB h 8 (oF8 u_16.1 q), aI G (q 13) 17 sa, aI G (q 14) 170 u_16.2] H := hP
    have hD : va_D A [oB h 8 (oF8 u_16.1 q), aI G (q 13) 17 sa, aI G (q 14) 170 u_16.2] := hD
    refine lv_aload_n hx hb dX8_erases_19 rfl (lv_at hl 0 rfl) ?_
    refine va_get (D := G.1) (ci := 8) (v := .ref (q 13)) (C := RX8) (T := TX8) (N := 44) hx hb hts hin8 hown hK.1 hP 0 rfl rfl 13 (by decide) f38 (fun _ h9 => h9) rfl dX8_erases_20 ?_
    refine lv_iconst (v := 0) hx hb dX8_erases_23 (by decide) ?_
    refine lv_dup2_11 hx hb dX8_erases_24 rfl rfl ?_
    refine top_i (y := nI 0) rfl ?_
    refine al_i hx hb hK.1 hP 1 0 rfl rfl (j := 0) (by omega) (Nat.le_of_ble_eq_true rfl) dX8_erases_25 ?_
    refine top_i (y := nI N.1) (hSM.1) ?_
    refine lv_iconst (v := 1) hx hb dX8_erases_26 (by decide) ?_
    refine lv_isub hx hb dX8_erases_27 ?_
    refine top_i (y := nI (N.1 - 1)) (nn_m1 (by omega)) ?_
    refine snd_i (y := nI 0) rfl ?_
    refine as_i hx hb hK.1 hP hD hS 1 0 rfl rfl (j := 0) (by omega) (Nat.le_of_ble_eq_true rfl) dX8_erases_28 (fun H locs hP hD hS => ?_)
    have hP : va_P G.1 vwCl [oB h 8 (oF8 u_16.1 q), aI G (q 13) 17 (upd sa 0 (nI (N.1 - 1))), aI G (q 14) 170 u_16.2] H := hP
    have hD : va_D A [oB h 8 (oF8 u_16.1 q), aI G (q 13) 17 (upd sa 0 (nI (N.1 - 1))), aI G (q 14) 170 u_16.2] := hD
    refine lv_iconst (v := 1) hx hb dX8_erases_29 (by decide) ?_
    refine lv_iconst (v := 2) hx hb dX8_erases_30 (by decide) ?_
    refine lv_iload_n hx hb dX8_erases_31 rfl (lv_at hl 1 rfl) ?_
    refine lv_imul hx hb dX8_erases_32 ?_
    refine lv_iadd hx hb dX8_erases_33 ?_
    refine top_i (y := nI (2 * p + 1)) (two1 p) ?_
    refine lv_istore_n (lv' := [(2, .int (nI (2 * p + 1))), (0, .ref h), (1, .int (nI p))]) hx hb dX8_erases_34 rfl hl (by decide) rfl (fun ls hl => ?_)
    have loop_35 : ∀ (nF : Nat) (e : Nat) (t : Nat → Int32), (2 * (N.1 - 1) + 1 - e) < nF → (2 * p + 1 ≤ e) → (e ≤ 2 * (N.1 - 1) + 1) → (t 0 = nI (N.1 - 1)) → (∀ i, i < e → ¬ i = 0 → t i = if i < 2 * p + 1 then sa i else sa (i + 2)) → (∀ i, e ≤ i → t i = sa i) → ∀ (H : Heap) (locs : List Loc), va_P G.1 vwCl [oB h 8 (oF8 u_16.1 q), aI G (q 13) 17 t, aI G (q 14) 170 u_16.2] H → va_D A [oB h 8 (oF8 u_16.1 q), aI G (q 13) 17 t, aI G (q 14) 170 u_16.2] → va_S A sM.heap H locs → ∀ (ls : Array Slot), lv_has ls 3 [(2, .int (nI e)), (0, .ref h), (1, .int (nI p))] → W pM l eM rX8_erases sM mM [.ref h, .int (nI p)].toArray bM tM cM H locs 0 0 Q (F0 mM 35 ls []) := by
      intro nF
      induction nF with
      | zero => intro e t hmF; exact absurd hmF (Nat.not_lt_zero _)
      | succ nF ih35 =>
        intro e t hmF he hee ht0 hlo hhi H locs hP hD hS ls hl
        refine lv_iload_n hx hb dX8_erases_35 rfl (lv_at hl 0 rfl) ?_
        refine lv_iconst (v := 1) hx hb dX8_erases_36 (by decide) ?_
        refine lv_iconst (v := 2) hx hb dX8_erases_37 (by decide) ?_
        refine lv_aload_n hx hb dX8_erases_38 rfl (lv_at hl 1 rfl) ?_
        refine va_get (D := G.1) (ci := 8) (v := .ref (q 13)) (C := RX8) (T := TX8) (N := 44) hx hb hts hin8 hown hK.1 hP 0 rfl rfl 13 (by decide) f38 (fun _ h9 => h9) rfl dX8_erases_39 ?_
        refine lv_iconst (v := 0) hx hb dX8_erases_42 (by decide) ?_
        refine top_i (y := nI 0) rfl ?_
        refine al_i hx hb hK.1 hP 1 0 rfl rfl (j := 0) (by omega) (Nat.le_of_ble_eq_true rfl) dX8_erases_43 ?_
        refine top_i (y := nI (N.1 - 1)) (ht0) ?_
        refine lv_imul hx hb dX8_erases_44 ?_
        refine lv_iadd hx hb dX8_erases_45 ?_
        refine top_i (y := nI (2 * (N.1 - 1) + 1)) (two1 _) ?_
        refine lv_icmp_ge (tgt := 69) hx hb dX8_erases_46 (by decide) (fun c_46 => ?_) (fun c_46 => ?_)
        · have c_46 : (2 * (N.1 - 1) + 1) ≤ e := (c_le (a := 2 * (N.1 - 1) + 1) (b := e) rfl rfl (by omega) (by omega)).mp c_46
          refine lv_aload_n hx hb dX8_erases_69 rfl (lv_at hl 1 rfl) ?_
          refine va_get (D := G.1) (ci := 8) (v := .ref (q 13)) (C := RX8) (T := TX8) (N := 44) hx hb hts hin8 hown hK.1 hP 0 rfl rfl 13 (by decide) f38 (fun _ h9 => h9) rfl dX8_erases_70 ?_
          refine lv_iconst (v := 0) hx hb dX8_erases_73 (by decide) ?_
          refine top_i (y := nI 0) rfl ?_
          refine al_i hx hb hK.1 hP 1 0 rfl rfl (j := 0) (by omega) (Nat.le_of_ble_eq_true rfl) dX8_erases_74 ?_
          refine top_i (y := nI (N.1 - 1)) (ht0) ?_
          have hpost : (nI (N.1 - 1) : Int32) = erR N (nI p) ∧ SMr (erN N (nI p)) (u_16.1, t, u_16.2).2.1 ∧ PQm (pHas (nI N.1) (nI p)) N U PH v pa (u_16.1, t, u_16.2).1 (u_16.1, t, u_16.2).2.2 := by
            refine ⟨by rw [erR, if_pos c_10], ?_, ⟨fun _ => ⟨q_16.1, q_16.2.1⟩, fun h9 => absurd c_10 (ne_t h9), fun k h0 h15 => (q_16.2.2 k h15).trans (pk_un h0)⟩⟩
            rw [erN, if_pos c_10, nI_clamp (by omega)]
            exact SM_rm hSM hp ht0 (fun i hi h0 => hlo i (by omega) h0)
          exact hret _ (u_16.1, t, u_16.2) _ _ _ _ (hpost) (rfl) hP hD hS dX8_erases_75
        · have c_46 : ¬ (2 * (N.1 - 1) + 1) ≤ e := fun hne => c_46 ((c_le (a := 2 * (N.1 - 1) + 1) (b := e) rfl rfl (by omega) (by omega)).mpr hne)
          refine lv_aload_n hx hb dX8_erases_49 rfl (lv_at hl 1 rfl) ?_
          refine va_get (D := G.1) (ci := 8) (v := .ref (q 13)) (C := RX8) (T := TX8) (N := 44) hx hb hts hin8 hown hK.1 hP 0 rfl rfl 13 (by decide) f38 (fun _ h9 => h9) rfl dX8_erases_50 ?_
          refine lv_iload_n hx hb dX8_erases_53 rfl (lv_at hl 0 rfl) ?_
          refine lv_aload_n hx hb dX8_erases_54 rfl (lv_at hl 1 rfl) ?_
          refine va_get (D := G.1) (ci := 8) (v := .ref (q 13)) (C := RX8) (T := TX8) (N := 44) hx hb hts hin8 hown hK.1 hP 0 rfl rfl 13 (by decide) f38 (fun _ h9 => h9) rfl dX8_erases_55 ?_
          refine lv_iload_n hx hb dX8_erases_58 rfl (lv_at hl 0 rfl) ?_
          refine lv_iconst (v := 2) hx hb dX8_erases_59 (by decide) ?_
          refine lv_iadd hx hb dX8_erases_60 ?_
          refine top_i (y := nI (e + 2)) (nI_add e 2) ?_
          refine al_i hx hb hK.1 hP 1 0 rfl rfl (j := e + 2) (by omega) (Nat.le_of_ble_eq_true rfl) dX8_erases_61 ?_
          refine top_i (y := sa (e + 2)) (hhi _ (by omega)) ?_
          refine as_i hx hb hK.1 hP hD hS 1 0 rfl rfl (j := e) (by omega) (Nat.le_of_ble_eq_true rfl) dX8_erases_62 (fun H locs hP hD hS => ?_)
          have hP : va_P G.1 vwCl [oB h 8 (oF8 u_16.1 q), aI G (q 13) 17 (upd t e (sa (e + 2))), aI G (q 14) 170 u_16.2] H := hP
          have hD : va_D A [oB h 8 (oF8 u_16.1 q), aI G (q 13) 17 (upd t e (sa (e + 2))), aI G (q 14) 170 u_16.2] := hD
          refine lv_iinc (v := nI (e + 1)) (lv' := [(2, .int (nI (e + 1))), (0, .ref h), (1, .int (nI p))]) hx hb dX8_erases_63 hl (k := 0) rfl (inc_nI _ 1) (by decide) rfl (fun ls hl => ?_)
          refine lv_goto (tgt := 35) hx hb dX8_erases_66 (by decide) ?_
          exact ih35 (e + 1) (upd t e (sa (e + 2))) (by omega) (by omega) (by omega) (by rw [pk_un (by omega)]; exact ht0) (fun i hi h0 => (Nat.lt_succ_iff_lt_or_eq.mp hi).elim (fun e9 => by rw [pk_un (by omega)]; exact hlo i e9 h0) (fun e9 => by rw [e9, pk_us, if_neg (by omega)])) (fun i hi => by rw [pk_un (by omega)]; exact hhi i (by omega)) _ _ hP hD hS _ (lv_sub hl [0, 1, 2] rfl)
    exact loop_35 _ (2 * p + 1) (upd sa 0 (nI (N.1 - 1))) (Nat.lt_succ_self _) (Nat.le_refl _) (by omega) (pk_us) (fun i hi h0 => by rw [pk_un h0, if_pos hi]) (fun i hi => pk_un (by omega)) _ _ hP hD hS _ (lv_sub hl [0, 1, 2] rfl)
  · have c_10 : (pHas (nI N.1) x) = false := b2i_0.mp c_10
    refine lv_iconst (v := -1) hx hb dX8_erases_13 (by decide) ?_
    have hpost : (-1 : Int32) = erR N x ∧ SMr (erN N x) (upd v 0 0, sa, pa).2.1 ∧ PQm (pHas (nI N.1) x) N U PH v pa (upd v 0 0, sa, pa).1 (upd v 0 0, sa, pa).2.2 := by
      have hD := c_10
      exact ⟨by rw [erR, if_neg (ne_t c_10)], by rw [erN, if_neg (ne_t c_10)]; exact hSM, fun h9 => absurd h9 (ne_t hD), fun _ => ⟨rfl, rfl⟩, fun k h0 h15 => pk_un h0⟩
    exact hret _ (upd v 0 0, sa, pa) _ _ _ _ (hpost) (rfl) hP hD hS dX8_erases_14

abbrev rX8_mends : Room := { frames := 2, cells := 0, slots := 0, locals := 43 }
set_option maxHeartbeats 4000000 in
set_option maxRecDepth 100000 in
theorem c_X8_mends (l : Launch) (G : kG) (h : Nat) (v : Nat → Int32) (q : Nat → Nat) (sa : Nat → Int32) (pa : Nat → Int32) (N : NL) (U : Nat) (PH : Nat → NL) (x : Int32) (y : Int32) (z : Int32) (hv15 : v 15 = nI U) (hSM : SMr N sa) (hPM : PMr U PH pa) : Ci l G yX8_mends wsX8_mends rX8_mends [.ref h, .int x, .int y, .int z] [oB h 8 (oF8 v q), aI G (q 13) 17 sa, aI G (q 14) 170 pa] (fun r (u : (Nat → Int32) × (Nat → Int32) × (Nat → Int32)) => r = meR N x y z ∧ SMr (meN N x y z) u.2.1 ∧ PQm (meD N x y z) N U PH v pa u.1 u.2.2) (fun u => [oB h 8 (oF8 u.1 q), aI G (q 13) 17 u.2.1, aI G (q 14) 170 u.2.2]) := by
  refine Ci.of (cc := cX8_mends) (maxL := 4) (by decide) rfl (Nat.le_of_ble_eq_true rfl) ?_
  intro pM eM sM mM bM tM cM Q A hx hb hts hown hml hA hK hP hD hS hret ls hl
  have hown : sM.vm.findClass RX8 = some mM.cls := hown
  have hl : lv_has ls 4 [(0, .ref h), (1, .int x), (2, .int y), (3, .int z)] := hl
  have hin8 : ∀ w ∈ u_ws RX8 TX8 44, w ∈ wsX8_mends := by decide +kernel
  have f98 := hts (.fieldLink RX8 98 "HorizonPeaksModel" "thrown" "I") (by decide +kernel)
  have f38 := hts (.fieldLink RX8 38 "HorizonPeaksModel" "s" "[I") (by decide +kernel)
  have hn8 := hSM.2.1
  have hU := hPM.1
  refine lv_aload_n hx hb dX8_mends_0 rfl (lv_at hl 0 rfl) ?_
  refine lv_iconst (v := 0) hx hb dX8_mends_1 (by decide) ?_
  refine va_put (D := G.1) (ci := 8) (v := .int 0) (ty := .int) (C := RX8) (T := TX8) (N := 44) hx hb hts hin8 tyX8 tyX8_ok nmX8 hown hK.1 hP hD hS 0 rfl rfl 0 (by decide) f98 (fun _ h9 => h9) rfl (by decide +kernel) rfl rfl (Nat.le_of_ble_eq_true rfl) dX8_mends_2 (fun H locs hP hD hS => ?_)
  have hP : va_P G.1 vwCl [oB h 8 (oF8 (upd v 0 0) q), aI G (q 13) 17 sa, aI G (q 14) 170 pa] H := hP
  have hD : va_D A [oB h 8 (oF8 (upd v 0 0) q), aI G (q 13) 17 sa, aI G (q 14) 170 pa] := hD
  refine lv_aload_n hx hb dX8_mends_5 rfl (lv_at hl 0 rfl) ?_
  refine lv_iload_n hx hb dX8_mends_6 rfl (lv_at hl 1 rfl) ?_
  refine rd_i (va_runV (As := [.int x]) (rest := []) ⟨hx, hb, hml, hown, hts⟩ (c_X8_isNotch l G h (upd v 0 0) q sa x N.1 (hSM.1) (hn8)) (cwV 1 hts gX8_mends_X8_isNotch rfl rfl rfl (by decide +kernel) ⟨Nat.le_of_ble_eq_true rfl, Nat.le_of_ble_eq_true rfl⟩) (rPre_V hK hP [0, 1] rfl 0 8 rfl rfl) rfl rfl hl.1 rfl (lv_room (Nat.le_of_ble_eq_true rfl)) dX8_mends_7 ⟨Nat.zero_le _, Nat.zero_le _⟩) (fun r_7 q_7 => ?_)
  obtain rfl : r_7 = b2i (pHas (nI N.1) x) := q_7
  refine lv_if_eq (tgt := 21) hx hb dX8_mends_10 (by decide) (fun c_10 => ?_) (fun c_10 => ?_)
  · have c_10 : (pHas (nI N.1) x) = false := b2i_0.mp c_10
    refine lv_iconst (v := -1) hx hb dX8_mends_21 (by decide) ?_
    have hpost : (-1 : Int32) = meR N x y z ∧ SMr (meN N x y z) (upd v 0 0, sa, pa).2.1 ∧ PQm (meD N x y z) N U PH v pa (upd v 0 0, sa, pa).1 (upd v 0 0, sa, pa).2.2 := by
      have hO : meO N x y z = false := by simp [meO, c_10]
      have hD : meD N x y z = false := by rw [meD, hO]; rfl
      exact ⟨by rw [meR, if_neg (ne_t hO)], by rw [meN, if_neg (ne_t hD)]; exact hSM, fun h9 => absurd h9 (ne_t hD), fun _ => ⟨rfl, rfl⟩, fun k h0 h15 => pk_un h0⟩
    exact hret _ (upd v 0 0, sa, pa) _ _ _ _ (hpost) (rfl) hP hD hS dX8_mends_22
  · have c_10 : (pHas (nI N.1) x) = true := b2i_n0.mp c_10
    obtain ⟨p, hp, rfl⟩ := pHas_of (by omega) c_10
    obtain ⟨hq1, hq2, hq3, hq4⟩ := hSM.2.2 p hp
    refine lv_iload_n hx hb dX8_mends_13 rfl (lv_at hl 2 rfl) ?_
    refine lv_iload_n hx hb dX8_mends_14 rfl (lv_at hl 3 rfl) ?_
    refine rd_i (va_runS (As := [.int y, .int z]) (rest := []) ⟨hx, hb, hml, hown, hts⟩ (c_X8_mayBe l G y z) (va_cwS 2 hts gX8_mends_X8_mayBe rfl rfl rfl (by decide +kernel) ⟨Nat.le_of_ble_eq_true rfl, Nat.le_of_ble_eq_true rfl⟩) (rPre_S hK hP [] rfl) rfl rfl hl.1 rfl (lv_room (Nat.le_of_ble_eq_true rfl)) dX8_mends_15 ⟨Nat.zero_le _, Nat.zero_le _⟩) (fun r_15 q_15 => ?_)
    obtain rfl : r_15 = b2i (pMark y z) := q_15
    refine lv_if_ne (tgt := 23) hx hb dX8_mends_18 (by decide) (fun c_18 => ?_) (fun c_18 => ?_)
    · have c_18 : (pMark y z) = true := b2i_n0.mp c_18
      obtain ⟨a, b0, ha, hb0, rfl, rfl⟩ := pMark_of c_18
      refine lv_aload_n hx hb dX8_mends_23 rfl (lv_at hl 0 rfl) ?_
      refine va_get (D := G.1) (ci := 8) (v := .ref (q 13)) (C := RX8) (T := TX8) (N := 44) hx hb hts hin8 hown hK.1 hP 0 rfl rfl 13 (by decide) f38 (fun _ h9 => h9) rfl dX8_mends_24 ?_
      refine lv_iconst (v := 1) hx hb dX8_mends_27 (by decide) ?_
      refine lv_iconst (v := 2) hx hb dX8_mends_28 (by decide) ?_
      refine lv_iload_n hx hb dX8_mends_29 rfl (lv_at hl 1 rfl) ?_
      refine lv_imul hx hb dX8_mends_30 ?_
      refine lv_iadd hx hb dX8_mends_31 ?_
      refine top_i (y := nI (2 * p + 1)) (two1 p) ?_
      refine al_i hx hb hK.1 hP 1 0 rfl rfl (j := 2 * p + 1) (by omega) (Nat.le_of_ble_eq_true rfl) dX8_mends_32 ?_
      refine top_i (y := nI (N.2.1 p)) (hq1) ?_
      refine lv_iload_n hx hb dX8_mends_33 rfl (lv_at hl 2 rfl) ?_
      refine lv_icmp_ne (tgt := 54) hx hb dX8_mends_34 (by decide) (fun c_34 => ?_) (fun c_34 => ?_)
      · have c_34 : ¬ (N.2.1 p) = a := fun hne => c_34 ((c_eq (a := N.2.1 p) (b := a) rfl rfl (by omega) (by omega)).mpr hne)
        refine lv_aload_n hx hb dX8_mends_54 rfl (lv_at hl 0 rfl) ?_
        refine ca_v (wr := []) (va_runV (As := []) (rest := []) ⟨hx, hb, hml, hown, hts⟩ ((c_X8_remembers l G h (upd v 0 0) q sa pa N U PH (u3 (by decide) hv15) (hSM) (hPM)) _) (cwV 0 hts gX8_mends_X8_remembers rfl rfl rfl (by decide +kernel) ⟨Nat.le_of_ble_eq_true rfl, Nat.le_of_ble_eq_true rfl⟩) (cPre_V hK hP hD [0, 1, 2] (by decide) rfl 0 8 rfl rfl) rfl rfl hl.1 rfl (lv_room (Nat.le_of_ble_eq_true rfl)) dX8_mends_55 ⟨Nat.zero_le _, Nat.zero_le _⟩) hP hD hS hA [0, 1, 2] [] rfl rfl (by decide) (by decide) [0, 1, 2] (fun u_55 => [oB h 8 (oF8 u_55.1 q), aI G (q 13) 17 sa, aI G (q 14) 170 u_55.2]) (by decide) (fun _ => rfl) (fun u_55 H locs q_55 hP hD hS => ?_)
        have q_55 : u_55.1 15 = nI (min (U + 1) 10) ∧ PMr (min (U + 1) 10) (pshN U PH N) u_55.2 ∧ (∀ k, ¬ k = 15 → u_55.1 k = (upd v 0 0) k) := q_55
        have hP : va_P G.1 vwCl [oB h 8 (oF8 u_55.1 q), aI G (q 13) 17 sa, aI G (q 14) 170 u_55.2] H := hP
        have hD : va_D A [oB h 8 (oF8 u_55.1 q), aI G (q 13) 17 sa, aI G (q 14) 170 u_55.2] := hD
        refine lv_aload_n hx hb dX8_mends_58 rfl (lv_at hl 0 rfl) ?_
        refine va_get (D := G.1) (ci := 8) (v := .ref (q 13)) (C := RX8) (T := TX8) (N := 44) hx hb hts hin8 hown hK.1 hP 0 rfl rfl 13 (by decide) f38 (fun _ h9 => h9) rfl dX8_mends_59 ?_
        refine lv_iconst (v := 1) hx hb dX8_mends_62 (by decide) ?_
        refine lv_iconst (v := 2) hx hb dX8_mends_63 (by decide) ?_
        refine lv_iload_n hx hb dX8_mends_64 rfl (lv_at hl 1 rfl) ?_
        refine lv_imul hx hb dX8_mends_65 ?_
        refine lv_iadd hx hb dX8_mends_66 ?_
        refine top_i (y := nI (2 * p + 1)) (two1 p) ?_
        refine lv_iload_n hx hb dX8_mends_67 rfl (lv_at hl 2 rfl) ?_
        refine as_i hx hb hK.1 hP hD hS 1 0 rfl rfl (j := 2 * p + 1) (by omega) (Nat.le_of_ble_eq_true rfl) dX8_mends_68 (fun H locs hP hD hS => ?_)
        have hP : va_P G.1 vwCl [oB h 8 (oF8 u_55.1 q), aI G (q 13) 17 (upd sa (2 * p + 1) (nI a)), aI G (q 14) 170 u_55.2] H := hP
        have hD : va_D A [oB h 8 (oF8 u_55.1 q), aI G (q 13) 17 (upd sa (2 * p + 1) (nI a)), aI G (q 14) 170 u_55.2] := hD
        refine lv_aload_n hx hb dX8_mends_69 rfl (lv_at hl 0 rfl) ?_
        refine va_get (D := G.1) (ci := 8) (v := .ref (q 13)) (C := RX8) (T := TX8) (N := 44) hx hb hts hin8 hown hK.1 hP 0 rfl rfl 13 (by decide) f38 (fun _ h9 => h9) rfl dX8_mends_70 ?_
        refine lv_iconst (v := 2) hx hb dX8_mends_73 (by decide) ?_
        refine lv_iconst (v := 2) hx hb dX8_mends_74 (by decide) ?_
        refine lv_iload_n hx hb dX8_mends_75 rfl (lv_at hl 1 rfl) ?_
        refine lv_imul hx hb dX8_mends_76 ?_
        refine lv_iadd hx hb dX8_mends_77 ?_
        refine top_i (y := nI (2 * p + 2)) (two2 p) ?_
        refine lv_iload_n hx hb dX8_mends_78 rfl (lv_at hl 3 rfl) ?_
        refine as_i hx hb hK.1 hP hD hS 1 0 rfl rfl (j := 2 * p + 2) (by omega) (Nat.le_of_ble_eq_true rfl) dX8_mends_79 (fun H locs hP hD hS => ?_)
        have hP : va_P G.1 vwCl [oB h 8 (oF8 u_55.1 q), aI G (q 13) 17 (upd (upd sa (2 * p + 1) (nI a)) (2 * p + 2) (nI b0)), aI G (q 14) 170 u_55.2] H := hP
        have hD : va_D A [oB h 8 (oF8 u_55.1 q), aI G (q 13) 17 (upd (upd sa (2 * p + 1) (nI a)) (2 * p + 2) (nI b0)), aI G (q 14) 170 u_55.2] := hD
        refine lv_iconst (v := 1) hx hb dX8_mends_80 (by decide) ?_
        have hpost : (1 : Int32) = meR N (nI p) (nI a) (nI b0) ∧ SMr (meN N (nI p) (nI a) (nI b0)) (u_55.1, upd (upd sa (2 * p + 1) (nI a)) (2 * p + 2) (nI b0), u_55.2).2.1 ∧ PQm (meD N (nI p) (nI a) (nI b0)) N U PH v pa (u_55.1, upd (upd sa (2 * p + 1) (nI a)) (2 * p + 2) (nI b0), u_55.2).1 (u_55.1, upd (upd sa (2 * p + 1) (nI a)) (2 * p + 2) (nI b0), u_55.2).2.2 := by
          have hO : meO N (nI p) (nI a) (nI b0) = true := by rw [meO, c_10, c_18]; rfl
          have hS9 : meS N (nI p) (nI a) (nI b0) = false := by rw [meS, nI_clamp (by omega), decide_eq_false (p := nI (N.2.1 p) = nI a) (fun e9 => c_34 ((c_eq (a := N.2.1 p) (b := a) rfl rfl (by omega) (by omega)).mp e9)), Bool.false_and]
          have hD : meD N (nI p) (nI a) (nI b0) = true := by rw [meD, hO, hS9]; rfl
          refine ⟨by rw [meR, if_pos hO, if_neg (ne_t hS9)], ?_, ⟨fun _ => ⟨q_55.1, q_55.2.1⟩, fun h9 => absurd hD (ne_t h9), fun k h0 h15 => (q_55.2.2 k h15).trans (pk_un h0)⟩⟩
          rw [meN, if_pos hD, nI_clamp (by omega), nI_clamp (by omega), nI_clamp (by omega)]
          exact SM_set hSM hp ha hb0
        exact hret _ (u_55.1, upd (upd sa (2 * p + 1) (nI a)) (2 * p + 2) (nI b0), u_55.2) _ _ _ _ (hpost) (rfl) hP hD hS dX8_mends_81
      · have c_34 : (N.2.1 p) = a := (c_eq (a := N.2.1 p) (b := a) rfl rfl (by omega) (by omega)).mp c_34
        refine lv_aload_n hx hb dX8_mends_37 rfl (lv_at hl 0 rfl) ?_
        refine va_get (D := G.1) (ci := 8) (v := .ref (q 13)) (C := RX8) (T := TX8) (N := 44) hx hb hts hin8 hown hK.1 hP 0 rfl rfl 13 (by decide) f38 (fun _ h9 => h9) rfl dX8_mends_38 ?_
        refine lv_iconst (v := 2) hx hb dX8_mends_41 (by decide) ?_
        refine lv_iconst (v := 2) hx hb dX8_mends_42 (by decide) ?_
        refine lv_iload_n hx hb dX8_mends_43 rfl (lv_at hl 1 rfl) ?_
        refine lv_imul hx hb dX8_mends_44 ?_
        refine lv_iadd hx hb dX8_mends_45 ?_
        refine top_i (y := nI (2 * p + 2)) (two2 p) ?_
        refine al_i hx hb hK.1 hP 1 0 rfl rfl (j := 2 * p + 2) (by omega) (Nat.le_of_ble_eq_true rfl) dX8_mends_46 ?_
        refine top_i (y := nI (N.2.2 p)) (hq3) ?_
        refine lv_iload_n hx hb dX8_mends_47 rfl (lv_at hl 3 rfl) ?_
        refine lv_icmp_ne (tgt := 54) hx hb dX8_mends_48 (by decide) (fun c_48 => ?_) (fun c_48 => ?_)
        · have c_48 : ¬ (N.2.2 p) = b0 := fun hne => c_48 ((c_eq (a := N.2.2 p) (b := b0) rfl rfl (by omega) (by omega)).mpr hne)
          refine lv_aload_n hx hb dX8_mends_54 rfl (lv_at hl 0 rfl) ?_
          refine ca_v (wr := []) (va_runV (As := []) (rest := []) ⟨hx, hb, hml, hown, hts⟩ ((c_X8_remembers l G h (upd v 0 0) q sa pa N U PH (u3 (by decide) hv15) (hSM) (hPM)) _) (cwV 0 hts gX8_mends_X8_remembers rfl rfl rfl (by decide +kernel) ⟨Nat.le_of_ble_eq_true rfl, Nat.le_of_ble_eq_true rfl⟩) (cPre_V hK hP hD [0, 1, 2] (by decide) rfl 0 8 rfl rfl) rfl rfl hl.1 rfl (lv_room (Nat.le_of_ble_eq_true rfl)) dX8_mends_55 ⟨Nat.zero_le _, Nat.zero_le _⟩) hP hD hS hA [0, 1, 2] [] rfl rfl (by decide) (by decide) [0, 1, 2] (fun u_55 => [oB h 8 (oF8 u_55.1 q), aI G (q 13) 17 sa, aI G (q 14) 170 u_55.2]) (by decide) (fun _ => rfl) (fun u_55 H locs q_55 hP hD hS => ?_)
          have q_55 : u_55.1 15 = nI (min (U + 1) 10) ∧ PMr (min (U + 1) 10) (pshN U PH N) u_55.2 ∧ (∀ k, ¬ k = 15 → u_55.1 k = (upd v 0 0) k) := q_55
          have hP : va_P G.1 vwCl [oB h 8 (oF8 u_55.1 q), aI G (q 13) 17 sa, aI G (q 14) 170 u_55.2] H := hP
          have hD : va_D A [oB h 8 (oF8 u_55.1 q), aI G (q 13) 17 sa, aI G (q 14) 170 u_55.2] := hD
          refine lv_aload_n hx hb dX8_mends_58 rfl (lv_at hl 0 rfl) ?_
          refine va_get (D := G.1) (ci := 8) (v := .ref (q 13)) (C := RX8) (T := TX8) (N := 44) hx hb hts hin8 hown hK.1 hP 0 rfl rfl 13 (by decide) f38 (fun _ h9 => h9) rfl dX8_mends_59 ?_
          refine lv_iconst (v := 1) hx hb dX8_mends_62 (by decide) ?_
          refine lv_iconst (v := 2) hx hb dX8_mends_63 (by decide) ?_
          refine lv_iload_n hx hb dX8_mends_64 rfl (lv_at hl 1 rfl) ?_
          refine lv_imul hx hb dX8_mends_65 ?_
          refine lv_iadd hx hb dX8_mends_66 ?_
          refine top_i (y := nI (2 * p + 1)) (two1 p) ?_
          refine lv_iload_n hx hb dX8_mends_67 rfl (lv_at hl 2 rfl) ?_
          refine as_i hx hb hK.1 hP hD hS 1 0 rfl rfl (j := 2 * p + 1) (by omega) (Nat.le_of_ble_eq_true rfl) dX8_mends_68 (fun H locs hP hD hS => ?_)
          have hP : va_P G.1 vwCl [oB h 8 (oF8 u_55.1 q), aI G (q 13) 17 (upd sa (2 * p + 1) (nI a)), aI G (q 14) 170 u_55.2] H := hP
          have hD : va_D A [oB h 8 (oF8 u_55.1 q), aI G (q 13) 17 (upd sa (2 * p + 1) (nI a)), aI G (q 14) 170 u_55.2] := hD
          refine lv_aload_n hx hb dX8_mends_69 rfl (lv_at hl 0 rfl) ?_
          refine va_get (D := G.1) (ci := 8) (v := .ref (q 13)) (C := RX8) (T := TX8) (N := 44) hx hb hts hin8 hown hK.1 hP 0 rfl rfl 13 (by decide) f38 (fun _ h9 => h9) rfl dX8_mends_70 ?_
          refine lv_iconst (v := 2) hx hb dX8_mends_73 (by decide) ?_
          refine lv_iconst (v := 2) hx hb dX8_mends_74 (by decide) ?_
          refine lv_iload_n hx hb dX8_mends_75 rfl (lv_at hl 1 rfl) ?_
          refine lv_imul hx hb dX8_mends_76 ?_
          refine lv_iadd hx hb dX8_mends_77 ?_
          refine top_i (y := nI (2 * p + 2)) (two2 p) ?_
          refine lv_iload_n hx hb dX8_mends_78 rfl (lv_at hl 3 rfl) ?_
          refine as_i hx hb hK.1 hP hD hS 1 0 rfl rfl (j := 2 * p + 2) (by omega) (Nat.le_of_ble_eq_true rfl) dX8_mends_79 (fun H locs hP hD hS => ?_)
          have hP : va_P G.1 vwCl [oB h 8 (oF8 u_55.1 q), aI G (q 13) 17 (upd (upd sa (2 * p + 1) (nI a)) (2 * p + 2) (nI b0)), aI G (q 14) 170 u_55.2] H := hP
          have hD : va_D A [oB h 8 (oF8 u_55.1 q), aI G (q 13) 17 (upd (upd sa (2 * p + 1) (nI a)) (2 * p + 2) (nI b0)), aI G (q 14) 170 u_55.2] := hD
          refine lv_iconst (v := 1) hx hb dX8_mends_80 (by decide) ?_
          have hpost : (1 : Int32) = meR N (nI p) (nI a) (nI b0) ∧ SMr (meN N (nI p) (nI a) (nI b0)) (u_55.1, upd (upd sa (2 * p + 1) (nI a)) (2 * p + 2) (nI b0), u_55.2).2.1 ∧ PQm (meD N (nI p) (nI a) (nI b0)) N U PH v pa (u_55.1, upd (upd sa (2 * p + 1) (nI a)) (2 * p + 2) (nI b0), u_55.2).1 (u_55.1, upd (upd sa (2 * p + 1) (nI a)) (2 * p + 2) (nI b0), u_55.2).2.2 := by
            have hO : meO N (nI p) (nI a) (nI b0) = true := by rw [meO, c_10, c_18]; rfl
            have hS9 : meS N (nI p) (nI a) (nI b0) = false := by rw [meS, nI_clamp (by omega), decide_eq_false (p := nI (N.2.2 p) = nI b0) (fun e9 => c_48 ((c_eq (a := N.2.2 p) (b := b0) rfl rfl (by omega) (by omega)).mp e9)), Bool.and_false]
            have hD : meD N (nI p) (nI a) (nI b0) = true := by rw [meD, hO, hS9]; rfl
            refine ⟨by rw [meR, if_pos hO, if_neg (ne_t hS9)], ?_, ⟨fun _ => ⟨q_55.1, q_55.2.1⟩, fun h9 => absurd hD (ne_t h9), fun k h0 h15 => (q_55.2.2 k h15).trans (pk_un h0)⟩⟩
            rw [meN, if_pos hD, nI_clamp (by omega), nI_clamp (by omega), nI_clamp (by omega)]
            exact SM_set hSM hp ha hb0
          exact hret _ (u_55.1, upd (upd sa (2 * p + 1) (nI a)) (2 * p + 2) (nI b0), u_55.2) _ _ _ _ (hpost) (rfl) hP hD hS dX8_mends_81
        · have c_48 : (N.2.2 p) = b0 := (c_eq (a := N.2.2 p) (b := b0) rfl rfl (by omega) (by omega)).mp c_48
          refine lv_bipush (v := -2) hx hb dX8_mends_51 (by decide) ?_
          have hpost : (-2 : Int32) = meR N (nI p) (nI a) (nI b0) ∧ SMr (meN N (nI p) (nI a) (nI b0)) (upd v 0 0, sa, pa).2.1 ∧ PQm (meD N (nI p) (nI a) (nI b0)) N U PH v pa (upd v 0 0, sa, pa).1 (upd v 0 0, sa, pa).2.2 := by
            have hO : meO N (nI p) (nI a) (nI b0) = true := by rw [meO, c_10, c_18]; rfl
            have hS9 : meS N (nI p) (nI a) (nI b0) = true := by rw [meS, nI_clamp (by omega), c_34, c_48]; simp
            have hD : meD N (nI p) (nI a) (nI b0) = false := by rw [meD, hO, hS9]; rfl
            exact ⟨by rw [meR, if_pos hO, if_pos hS9], by rw [meN, if_neg (ne_t hD)]; exact hSM, fun h9 => absurd h9 (ne_t hD), fun _ => ⟨rfl, rfl⟩, fun k h0 h15 => pk_un h0⟩
          exact hret _ (upd v 0 0, sa, pa) _ _ _ _ (hpost) (rfl) hP hD hS dX8_mends_53
    · have c_18 : (pMark y z) = false := b2i_0.mp c_18
      refine lv_iconst (v := -1) hx hb dX8_mends_21 (by decide) ?_
      have hpost : (-1 : Int32) = meR N (nI p) y z ∧ SMr (meN N (nI p) y z) (upd v 0 0, sa, pa).2.1 ∧ PQm (meD N (nI p) y z) N U PH v pa (upd v 0 0, sa, pa).1 (upd v 0 0, sa, pa).2.2 := by
        have hO : meO N (nI p) y z = false := by simp [meO, c_10, c_18]
        have hD : meD N (nI p) y z = false := by rw [meD, hO]; rfl
        exact ⟨by rw [meR, if_neg (ne_t hO)], by rw [meN, if_neg (ne_t hD)]; exact hSM, fun h9 => absurd h9 (ne_t hD), fun _ => ⟨rfl, rfl⟩, fun k h0 h15 => pk_un h0⟩
      exact hret _ (upd v 0 0, sa, pa) _ _ _ _ (hpost) (rfl) hP hD hS dX8_mends_22

abbrev rX8_undo : Room := { frames := 0, cells := 0, slots := 0, locals := 0 }
set_option maxHeartbeats 4000000 in
set_option maxRecDepth 100000 in
theorem c_X8_undo (l : Launch) (G : kG) (h : Nat) (v : Nat → Int32) (q : Nat → Nat) (sa : Nat → Int32) (pa : Nat → Int32) (N : NL) (U : Nat) (PH : Nat → NL) (hv15 : v 15 = nI U) (hSM : SMr N sa) (hPM : PMr U PH pa) : Ci l G yX8_undo wsX8_undo rX8_undo [.ref h] [oB h 8 (oF8 v q), aI G (q 13) 17 sa, aI G (q 14) 170 pa] (fun r (u : (Nat → Int32) × (Nat → Int32)) => r = unR U ∧ (0 < U → SMr (PH (U - 1)) u.2 ∧ u.1 15 = nI (U - 1)) ∧ (U = 0 → u.2 = sa ∧ u.1 15 = v 15) ∧ (∀ k, ¬ k = 0 → ¬ k = 15 → u.1 k = v k)) (fun u => [oB h 8 (oF8 u.1 q), aI G (q 13) 17 u.2, aI G (q 14) 170 pa]) := by
  refine Ci.of (cc := cX8_undo) (maxL := 2) (by decide) rfl (Nat.le_of_ble_eq_true rfl) ?_
  intro pM eM sM mM bM tM cM Q A hx hb hts hown hml hA hK hP hD hS hret ls hl
  have hown : sM.vm.findClass RX8 = some mM.cls := hown
  have hl : lv_has ls 2 [(0, .ref h)] := hl
  have hin8 : ∀ w ∈ u_ws RX8 TX8 44, w ∈ wsX8_undo := by decide +kernel
  have f98 := hts (.fieldLink RX8 98 "HorizonPeaksModel" "thrown" "I") (by decide +kernel)
  have f157 := hts (.fieldLink RX8 157 "HorizonPeaksModel" "undos" "I") (by decide +kernel)
  have f38 := hts (.fieldLink RX8 38 "HorizonPeaksModel" "s" "[I") (by decide +kernel)
  have f41 := hts (.fieldLink RX8 41 "HorizonPeaksModel" "past" "[I") (by decide +kernel)
  have hn8 := hSM.2.1
  have hU := hPM.1
  refine lv_aload_n hx hb dX8_undo_0 rfl (lv_at hl 0 rfl) ?_
  refine lv_iconst (v := 0) hx hb dX8_undo_1 (by decide) ?_
  refine va_put (D := G.1) (ci := 8) (v := .int 0) (ty := .int) (C := RX8) (T := TX8) (N := 44) hx hb hts hin8 tyX8 tyX8_ok nmX8 hown hK.1 hP hD hS 0 rfl rfl 0 (by decide) f98 (fun _ h9 => h9) rfl (by decide +kernel) rfl rfl (Nat.le_of_ble_eq_true rfl) dX8_undo_2 (fun H locs hP hD hS => ?_)
  have hP : va_P G.1 vwCl [oB h 8 (oF8 (upd v 0 0) q), aI G (q 13) 17 sa, aI G (q 14) 170 pa] H := hP
  have hD : va_D A [oB h 8 (oF8 (upd v 0 0) q), aI G (q 13) 17 sa, aI G (q 14) 170 pa] := hD
  refine lv_aload_n hx hb dX8_undo_5 rfl (lv_at hl 0 rfl) ?_
  refine va_get (D := G.1) (ci := 8) (v := .int (v 15)) (C := RX8) (T := TX8) (N := 44) hx hb hts hin8 hown hK.1 hP 0 rfl rfl 15 (by decide) f157 (fun _ h9 => h9) rfl dX8_undo_6 ?_
  refine top_i (y := nI U) (hv15) ?_
  refine lv_if_ne (tgt := 15) hx hb dX8_undo_9 (by decide) (fun c_9 => ?_) (fun c_9 => ?_)
  · have c_9 : ¬ U = 0 := fun hne => c_9 ((c_eq (a := U) (b := 0) rfl rfl (by omega) (by omega)).mpr hne)
    refine lv_aload_n hx hb dX8_undo_15 rfl (lv_at hl 0 rfl) ?_
    refine lv_dup hx hb dX8_undo_16 rfl ?_
    refine va_get (D := G.1) (ci := 8) (v := .int (v 15)) (C := RX8) (T := TX8) (N := 44) hx hb hts hin8 hown hK.1 hP 0 rfl rfl 15 (by decide) f157 (fun _ h9 => h9) rfl dX8_undo_17 ?_
    refine top_i (y := nI U) (hv15) ?_
    refine lv_iconst (v := 1) hx hb dX8_undo_20 (by decide) ?_
    refine lv_isub hx hb dX8_undo_21 ?_
    refine top_i (y := nI (U - 1)) (nn_m1 (by omega)) ?_
    refine va_put (D := G.1) (ci := 8) (v := .int (nI (U - 1))) (ty := .int) (C := RX8) (T := TX8) (N := 44) hx hb hts hin8 tyX8 tyX8_ok nmX8 hown hK.1 hP hD hS 0 rfl rfl 15 (by decide) f157 (fun _ h9 => h9) rfl (by decide +kernel) rfl rfl (Nat.le_of_ble_eq_true rfl) dX8_undo_22 (fun H locs hP hD hS => ?_)
    have hP : va_P G.1 vwCl [oB h 8 (oF8 (upd (upd v 0 0) 15 (nI (U - 1))) q), aI G (q 13) 17 sa, aI G (q 14) 170 pa] H := hP
    have hD : va_D A [oB h 8 (oF8 (upd (upd v 0 0) 15 (nI (U - 1))) q), aI G (q 13) 17 sa, aI G (q 14) 170 pa] := hD
    refine lv_iconst (v := 0) hx hb dX8_undo_25 (by decide) ?_
    refine lv_istore_n (lv' := [(1, .int 0), (0, .ref h)]) hx hb dX8_undo_26 rfl hl (by decide) rfl (fun ls hl => ?_)
    have loop_27 : ∀ (nF : Nat) (k : Nat) (t : Nat → Int32), (17 - k) < nF → (k ≤ 17) → (∀ i, i < k → t i = pa (17 * (U - 1) + i)) → ∀ (H : Heap) (locs : List Loc), va_P G.1 vwCl [oB h 8 (oF8 (upd (upd v 0 0) 15 (nI (U - 1))) q), aI G (q 13) 17 t, aI G (q 14) 170 pa] H → va_D A [oB h 8 (oF8 (upd (upd v 0 0) 15 (nI (U - 1))) q), aI G (q 13) 17 t, aI G (q 14) 170 pa] → va_S A sM.heap H locs → ∀ (ls : Array Slot), lv_has ls 2 [(1, .int (nI k)), (0, .ref h)] → W pM l eM rX8_undo sM mM [.ref h].toArray bM tM cM H locs 0 0 Q (F0 mM 27 ls []) := by
      intro nF
      induction nF with
      | zero => intro k t hmF; exact absurd hmF (Nat.not_lt_zero _)
      | succ nF ih27 =>
        intro k t hmF hk hcp H locs hP hD hS ls hl
        refine lv_iload_n hx hb dX8_undo_27 rfl (lv_at hl 0 rfl) ?_
        refine lv_bipush (v := 17) hx hb dX8_undo_28 (by decide) ?_
        refine lv_icmp_ge (tgt := 59) hx hb dX8_undo_30 (by decide) (fun c_30 => ?_) (fun c_30 => ?_)
        · have c_30 : 17 ≤ k := (c_le (a := 17) (b := k) rfl rfl (by omega) (by omega)).mp c_30
          refine lv_aload_n hx hb dX8_undo_59 rfl (lv_at hl 1 rfl) ?_
          refine va_get (D := G.1) (ci := 8) (v := .int (nI (U - 1))) (C := RX8) (T := TX8) (N := 44) hx hb hts hin8 hown hK.1 hP 0 rfl rfl 15 (by decide) f157 (fun _ h9 => h9) rfl dX8_undo_60 ?_
          have hpost : (nI (U - 1) : Int32) = unR U ∧ (0 < U → SMr (PH (U - 1)) (upd (upd v 0 0) 15 (nI (U - 1)), t).2 ∧ (upd (upd v 0 0) 15 (nI (U - 1)), t).1 15 = nI (U - 1)) ∧ (U = 0 → (upd (upd v 0 0) 15 (nI (U - 1)), t).2 = sa ∧ (upd (upd v 0 0) 15 (nI (U - 1)), t).1 15 = v 15) ∧ (∀ k, ¬ k = 0 → ¬ k = 15 → (upd (upd v 0 0) 15 (nI (U - 1)), t).1 k = v k) := by
            exact ⟨by rw [unR, if_neg c_9], fun _ => ⟨(hPM.2 (U - 1) (by omega)).copy (fun k9 hk9 => hcp k9 (by omega)), rfl⟩, fun h9 => absurd h9 c_9, fun k h0 h15 => by simp [upd, h0, h15]⟩
          exact hret _ (upd (upd v 0 0) 15 (nI (U - 1)), t) _ _ _ _ (hpost) (rfl) hP hD hS dX8_undo_63
        · have c_30 : ¬ 17 ≤ k := fun hne => c_30 ((c_le (a := 17) (b := k) rfl rfl (by omega) (by omega)).mpr hne)
          refine lv_aload_n hx hb dX8_undo_33 rfl (lv_at hl 1 rfl) ?_
          refine va_get (D := G.1) (ci := 8) (v := .ref (q 13)) (C := RX8) (T := TX8) (N := 44) hx hb hts hin8 hown hK.1 hP 0 rfl rfl 13 (by decide) f38 (fun _ h9 => h9) rfl dX8_undo_34 ?_
          refine lv_iload_n hx hb dX8_undo_37 rfl (lv_at hl 0 rfl) ?_
          refine lv_aload_n hx hb dX8_undo_38 rfl (lv_at hl 1 rfl) ?_
          refine va_get (D := G.1) (ci := 8) (v := .ref (q 14)) (C := RX8) (T := TX8) (N := 44) hx hb hts hin8 hown hK.1 hP 0 rfl rfl 14 (by decide) f41 (fun _ h9 => h9) rfl dX8_undo_39 ?_
          refine lv_bipush (v := 17) hx hb dX8_undo_42 (by decide) ?_
          refine lv_aload_n hx hb dX8_undo_44 rfl (lv_at hl 1 rfl) ?_
          refine va_get (D := G.1) (ci := 8) (v := .int (nI (U - 1))) (C := RX8) (T := TX8) (N := 44) hx hb hts hin8 hown hK.1 hP 0 rfl rfl 15 (by decide) f157 (fun _ h9 => h9) rfl dX8_undo_45 ?_
          refine lv_imul hx hb dX8_undo_48 ?_
          refine lv_iload_n hx hb dX8_undo_49 rfl (lv_at hl 0 rfl) ?_
          refine lv_iadd hx hb dX8_undo_50 ?_
          refine top_i (y := nI (17 * (U - 1) + k)) (mul17 _ _) ?_
          refine al_i hx hb hK.1 hP 2 0 rfl rfl (j := 17 * (U - 1) + k) (by omega) (Nat.le_of_ble_eq_true rfl) dX8_undo_51 ?_
          refine as_i hx hb hK.1 hP hD hS 1 0 rfl rfl (j := k) (by omega) (Nat.le_of_ble_eq_true rfl) dX8_undo_52 (fun H locs hP hD hS => ?_)
          have hP : va_P G.1 vwCl [oB h 8 (oF8 (upd (upd v 0 0) 15 (nI (U - 1))) q), aI G (q 13) 17 (upd t k (pa (17 * (U - 1) + k))), aI G (q 14) 170 pa] H := hP
          have hD : va_D A [oB h 8 (oF8 (upd (upd v 0 0) 15 (nI (U - 1))) q), aI G (q 13) 17 (upd t k (pa (17 * (U - 1) + k))), aI G (q 14) 170 pa] := hD
          refine lv_iinc (v := nI (k + 1)) (lv' := [(1, .int (nI (k + 1))), (0, .ref h)]) hx hb dX8_undo_53 hl (k := 0) rfl (inc_nI _ 1) (by decide) rfl (fun ls hl => ?_)
          refine lv_goto (tgt := 27) hx hb dX8_undo_56 (by decide) ?_
          exact ih27 (k + 1) (upd t k (pa (17 * (U - 1) + k))) (by omega) (by omega) (fun i hi => (Nat.lt_succ_iff_lt_or_eq.mp hi).elim (fun e => by rw [pk_un (by omega)]; exact hcp i e) (fun e => by rw [e, pk_us])) _ _ hP hD hS _ (lv_sub hl [0, 1] rfl)
    exact loop_27 _ 0 sa (Nat.lt_succ_self _) (Nat.zero_le _) (fun i hi => absurd hi (Nat.not_lt_zero i)) _ _ hP hD hS _ (lv_sub hl [0, 1] rfl)
  · have c_9 : U = 0 := (c_eq (a := U) (b := 0) rfl rfl (by omega) (by omega)).mp c_9
    refine lv_bipush (v := -2) hx hb dX8_undo_12 (by decide) ?_
    have hpost : (-2 : Int32) = unR U ∧ (0 < U → SMr (PH (U - 1)) (upd v 0 0, sa).2 ∧ (upd v 0 0, sa).1 15 = nI (U - 1)) ∧ (U = 0 → (upd v 0 0, sa).2 = sa ∧ (upd v 0 0, sa).1 15 = v 15) ∧ (∀ k, ¬ k = 0 → ¬ k = 15 → (upd v 0 0, sa).1 k = v k) := by
      exact ⟨by rw [unR, if_pos c_9], fun h9 => by omega, fun _ => ⟨rfl, rfl⟩, fun k h0 h15 => pk_un h0⟩
    exact hret _ (upd v 0 0, sa) _ _ _ _ (hpost) (rfl) hP hD hS dX8_undo_14

abbrev rX8_notch : Room := { frames := 2, cells := 0, slots := 0, locals := 43 }
set_option maxHeartbeats 4000000 in
set_option maxRecDepth 100000 in
theorem c_X8_notch (l : Launch) (G : kG) (h : Nat) (v : Nat → Int32) (q : Nat → Nat) (sa : Nat → Int32) (N : NL) (x : Int32) (y : Int32) (hSM : SMr N sa) : Ci l G yX8_notch wsX8_notch rX8_notch [.ref h, .int x, .int y] [oB h 8 (oF8 v q), aI G (q 13) 17 sa] (fun r (u : Unit) => r = ntR N x y) (fun u => [oB h 8 (oF8 (upd v 0 0) q), aI G (q 13) 17 sa]) := by
  refine Ci.of (cc := cX8_notch) (maxL := 3) (by decide) rfl (Nat.le_of_ble_eq_true rfl) ?_
  intro pM eM sM mM bM tM cM Q A hx hb hts hown hml hA hK hP hD hS hret ls hl
  have hown : sM.vm.findClass RX8 = some mM.cls := hown
  have hl : lv_has ls 3 [(0, .ref h), (1, .int x), (2, .int y)] := hl
  have hin8 : ∀ w ∈ u_ws RX8 TX8 44, w ∈ wsX8_notch := by decide +kernel
  have f98 := hts (.fieldLink RX8 98 "HorizonPeaksModel" "thrown" "I") (by decide +kernel)
  have f38 := hts (.fieldLink RX8 38 "HorizonPeaksModel" "s" "[I") (by decide +kernel)
  have hn8 := hSM.2.1
  refine lv_aload_n hx hb dX8_notch_0 rfl (lv_at hl 0 rfl) ?_
  refine lv_iconst (v := 0) hx hb dX8_notch_1 (by decide) ?_
  refine va_put (D := G.1) (ci := 8) (v := .int 0) (ty := .int) (C := RX8) (T := TX8) (N := 44) hx hb hts hin8 tyX8 tyX8_ok nmX8 hown hK.1 hP hD hS 0 rfl rfl 0 (by decide) f98 (fun _ h9 => h9) rfl (by decide +kernel) rfl rfl (Nat.le_of_ble_eq_true rfl) dX8_notch_2 (fun H locs hP hD hS => ?_)
  have hP : va_P G.1 vwCl [oB h 8 (oF8 (upd v 0 0) q), aI G (q 13) 17 sa] H := hP
  have hD : va_D A [oB h 8 (oF8 (upd v 0 0) q), aI G (q 13) 17 sa] := hD
  refine lv_aload_n hx hb dX8_notch_5 rfl (lv_at hl 0 rfl) ?_
  refine lv_iload_n hx hb dX8_notch_6 rfl (lv_at hl 1 rfl) ?_
  refine rd_i (va_runV (As := [.int x]) (rest := []) ⟨hx, hb, hml, hown, hts⟩ (c_X8_isNotch l G h (upd v 0 0) q sa x N.1 (hSM.1) (hn8)) (cwV 1 hts gX8_notch_X8_isNotch rfl rfl rfl (by decide +kernel) ⟨Nat.le_of_ble_eq_true rfl, Nat.le_of_ble_eq_true rfl⟩) (rPre_V hK hP [0, 1] rfl 0 8 rfl rfl) rfl rfl hl.1 rfl (lv_room (Nat.le_of_ble_eq_true rfl)) dX8_notch_7 ⟨Nat.zero_le _, Nat.zero_le _⟩) (fun r_7 q_7 => ?_)
  obtain rfl : r_7 = b2i (pHas (nI N.1) x) := q_7
  refine lv_if_eq (tgt := 37) hx hb dX8_notch_10 (by decide) (fun c_10 => ?_) (fun c_10 => ?_)
  · have c_10 : (pHas (nI N.1) x) = false := b2i_0.mp c_10
    refine lv_iconst (v := -1) hx hb dX8_notch_37 (by decide) ?_
    have hpost : (-1 : Int32) = ntR N x y := by
      simp [ntR, c_10]
    exact hret _ () _ _ _ _ (hpost) (rfl) hP hD hS dX8_notch_38
  · have c_10 : (pHas (nI N.1) x) = true := b2i_n0.mp c_10
    obtain ⟨p, hp, rfl⟩ := pHas_of (by omega) c_10
    obtain ⟨hq1, hq2, hq3, hq4⟩ := hSM.2.2 p hp
    refine lv_iload_n hx hb dX8_notch_13 rfl (lv_at hl 2 rfl) ?_
    refine lv_iconst (v := 0) hx hb dX8_notch_14 (by decide) ?_
    refine lv_iconst (v := 1) hx hb dX8_notch_15 (by decide) ?_
    refine rd_i (va_runS (As := [.int y, .int 0, .int 1]) (rest := []) ⟨hx, hb, hml, hown, hts⟩ (c_X8_in l G y 0 1) (va_cwS 3 hts gX8_notch_X8_in rfl rfl rfl (by decide +kernel) ⟨Nat.le_of_ble_eq_true rfl, Nat.le_of_ble_eq_true rfl⟩) (rPre_S hK hP [] rfl) rfl rfl hl.1 rfl (lv_room (Nat.le_of_ble_eq_true rfl)) dX8_notch_16 ⟨Nat.zero_le _, Nat.zero_le _⟩) (fun r_16 q_16 => ?_)
    obtain rfl : r_16 = b2i (pIn y 0 1) := q_16
    refine lv_if_eq (tgt := 37) hx hb dX8_notch_19 (by decide) (fun c_19 => ?_) (fun c_19 => ?_)
    · have c_19 : (pIn y 0 1) = false := b2i_0.mp c_19
      refine lv_iconst (v := -1) hx hb dX8_notch_37 (by decide) ?_
      have hpost : (-1 : Int32) = ntR N (nI p) y := by
        obtain ⟨a0, a1⟩ := pIn1 c_19
        simp [ntR, a0, a1]
      exact hret _ () _ _ _ _ (hpost) (rfl) hP hD hS dX8_notch_38
    · have c_19 : (pIn y 0 1) = true := b2i_n0.mp c_19
      obtain ⟨e, he, rfl⟩ := pIn1e c_19
      refine lv_aload_n hx hb dX8_notch_22 rfl (lv_at hl 0 rfl) ?_
      refine va_get (D := G.1) (ci := 8) (v := .ref (q 13)) (C := RX8) (T := TX8) (N := 44) hx hb hts hin8 hown hK.1 hP 0 rfl rfl 13 (by decide) f38 (fun _ h9 => h9) rfl dX8_notch_23 ?_
      refine lv_iconst (v := 1) hx hb dX8_notch_26 (by decide) ?_
      refine lv_iconst (v := 2) hx hb dX8_notch_27 (by decide) ?_
      refine lv_iload_n hx hb dX8_notch_28 rfl (lv_at hl 1 rfl) ?_
      refine lv_imul hx hb dX8_notch_29 ?_
      refine lv_iadd hx hb dX8_notch_30 ?_
      refine top_i (y := nI (2 * p + 1)) (two1 p) ?_
      refine lv_iload_n hx hb dX8_notch_31 rfl (lv_at hl 2 rfl) ?_
      refine lv_iadd hx hb dX8_notch_32 ?_
      refine top_i (y := nI (2 * p + 1 + e)) (nI_add _ _) ?_
      refine al_i hx hb hK.1 hP 1 0 rfl rfl (j := 2 * p + 1 + e) (by omega) (Nat.le_of_ble_eq_true rfl) dX8_notch_33 ?_
      refine lv_goto (tgt := 38) hx hb dX8_notch_34 (by decide) ?_
      have hpost : (sa (2 * p + 1 + e) : Int32) = ntR N (nI p) (nI e) := by
        rw [ntR, if_pos c_10, nI_clamp (by omega)]
        rcases (show e = 0 ∨ e = 1 by omega) with rfl | rfl
        · rw [if_pos (show nI 0 = (0 : Int32) from rfl)]; exact hq1
        · rw [if_neg (by decide), if_pos (show nI 1 = (1 : Int32) from rfl)]; exact hq3
      exact hret _ () _ _ _ _ (hpost) (rfl) hP hD hS dX8_notch_38

abbrev rX8_clouds : Room := { frames := 2, cells := 0, slots := 0, locals := 44 }
set_option maxHeartbeats 4000000 in
set_option maxRecDepth 100000 in
theorem c_X8_clouds (l : Launch) (G : kG) (h : Nat) (v : Nat → Int32) (q : Nat → Nat) (px : Nat → Int32) (py : Nat → Int32) (hi : Nat → Int32) (la : Nat → Int32) (lb : Nat → Int32) (ip : Nat → Int32) (se : Nat → Int32) (be : Nat → Int32) (he : Nat → Int32) (σ : PS) (ca : Nat → Int32) (cl : Nat → Int32) (ci : Nat → Int32) (cc : Nat) (cpt : Nat → Nat) (clk : Nat → Nat) (cwh : Nat → Bool) (x : Int32) (y : Int32) (z : Int32) (w : Int32) (hLM : LM σ v px py hi la lb ip se be he) (hC : CRep cc cpt clk cwh (fun _ => v 18) ca cl ci) : Ci l G yX8_clouds wsX8_clouds rX8_clouds [.ref h, .int x, .int y, .int z, .int w] [oB h 8 (oF8 v q), aZ G (q 9) 64 ip, aI G (q 19) 6 ca, aI G (q 20) 6 cl, aI G (q 21) 6 ci] (fun r (u : (Nat → Int32) × (Nat → Int32) × (Nat → Int32) × (Nat → Int32)) => r = clR (cPk σ) cc x y z w ∧ (clO (cPk σ) x y z w = true ∧ cc < 6 → CRep (cc + 1) (updN cpt cc (ptN x y)) (updN clk cc z.toNatClampNeg) (updB cwh cc (decide (w = 1))) (fun _ => u.1 18) u.2.1 u.2.2.1 u.2.2.2) ∧ (clO (cPk σ) x y z w = false ∨ ¬ cc < 6 → u.1 18 = v 18 ∧ u.2.1 = ca ∧ u.2.2.1 = cl ∧ u.2.2.2 = ci) ∧ (∀ k, ¬ k = 0 → ¬ k = 18 → u.1 k = v k)) (fun u => [oB h 8 (oF8 u.1 q), aZ G (q 9) 64 ip, aI G (q 19) 6 u.2.1, aI G (q 20) 6 u.2.2.1, aI G (q 21) 6 u.2.2.2]) := by
  refine Ci.of (cc := cX8_clouds) (maxL := 5) (by decide) rfl (Nat.le_of_ble_eq_true rfl) ?_
  intro pM eM sM mM bM tM cM Q A hx hb hts hown hml hA hK hP hD hS hret ls hl
  have hown : sM.vm.findClass RX8 = some mM.cls := hown
  have hl : lv_has ls 5 [(0, .ref h), (1, .int x), (2, .int y), (3, .int z), (4, .int w)] := hl
  have hin8 : ∀ w ∈ u_ws RX8 TX8 44, w ∈ wsX8_clouds := by decide +kernel
  have f98 := hts (.fieldLink RX8 98 "HorizonPeaksModel" "thrown" "I") (by decide +kernel)
  have f160 := hts (.fieldLink RX8 160 "HorizonPeaksModel" "clouds" "I") (by decide +kernel)
  have f50 := hts (.fieldLink RX8 50 "HorizonPeaksModel" "cloudAt" "[I") (by decide +kernel)
  have f53 := hts (.fieldLink RX8 53 "HorizonPeaksModel" "cloudLook" "[I") (by decide +kernel)
  have f56 := hts (.fieldLink RX8 56 "HorizonPeaksModel" "cloudIs" "[I") (by decide +kernel)
  obtain ⟨hok, ⟨hv1, hv5, hv8⟩, har, hLP⟩ := hLM
  have hn10 := hok.1
  have hm8 := hok.2.1
  have hl3 := hok.2.2.1
  have hip : ∀ i, i < 64 → ip i = b2i (decide (cPk σ i = 0)) := fun i hh => (hLP i hh).1
  have hv18 : v 18 = nI cc := hC.1
  have hc6 := hC.2.1
  refine lv_aload_n hx hb dX8_clouds_0 rfl (lv_at hl 0 rfl) ?_
  refine lv_iconst (v := 0) hx hb dX8_clouds_1 (by decide) ?_
  refine va_put (D := G.1) (ci := 8) (v := .int 0) (ty := .int) (C := RX8) (T := TX8) (N := 44) hx hb hts hin8 tyX8 tyX8_ok nmX8 hown hK.1 hP hD hS 0 rfl rfl 0 (by decide) f98 (fun _ h9 => h9) rfl (by decide +kernel) rfl rfl (Nat.le_of_ble_eq_true rfl) dX8_clouds_2 (fun H locs hP hD hS => ?_)
  have hP : va_P G.1 vwCl [oB h 8 (oF8 (upd v 0 0) q), aZ G (q 9) 64 ip, aI G (q 19) 6 ca, aI G (q 20) 6 cl, aI G (q 21) 6 ci] H := hP
  have hD : va_D A [oB h 8 (oF8 (upd v 0 0) q), aZ G (q 9) 64 ip, aI G (q 19) 6 ca, aI G (q 20) 6 cl, aI G (q 21) 6 ci] := hD
  refine lv_aload_n hx hb dX8_clouds_5 rfl (lv_at hl 0 rfl) ?_
  refine lv_iload_n hx hb dX8_clouds_6 rfl (lv_at hl 1 rfl) ?_
  refine lv_iload_n hx hb dX8_clouds_7 rfl (lv_at hl 2 rfl) ?_
  refine rd_i (va_runV (As := [.int x, .int y]) (rest := []) ⟨hx, hb, hml, hown, hts⟩ (c_X8_isThere l G h (upd v 0 0) q ip (cPk σ) x y (hip)) (cwV 2 hts gX8_clouds_X8_isThere rfl rfl rfl (by decide +kernel) ⟨Nat.le_of_ble_eq_true rfl, Nat.le_of_ble_eq_true rfl⟩) (rPre_V hK hP [0, 1] rfl 0 8 rfl rfl) rfl rfl hl.1 rfl (lv_room (Nat.le_of_ble_eq_true rfl)) dX8_clouds_8 ⟨Nat.zero_le _, Nat.zero_le _⟩) (fun r_8 q_8 => ?_)
  obtain rfl : r_8 = b2i (pPlace (cPk σ) x y) := q_8
  refine lv_if_eq (tgt := 31) hx hb dX8_clouds_11 (by decide) (fun c_11 => ?_) (fun c_11 => ?_)
  · have c_11 : (pPlace (cPk σ) x y) = false := b2i_0.mp c_11
    refine lv_iconst (v := -1) hx hb dX8_clouds_31 (by decide) ?_
    have hpost : (-1 : Int32) = clR (cPk σ) cc x y z w ∧ (clO (cPk σ) x y z w = true ∧ cc < 6 → CRep (cc + 1) (updN cpt cc (ptN x y)) (updN clk cc z.toNatClampNeg) (updB cwh cc (decide (w = 1))) (fun _ => (upd v 0 0, ca, cl, ci).1 18) (upd v 0 0, ca, cl, ci).2.1 (upd v 0 0, ca, cl, ci).2.2.1 (upd v 0 0, ca, cl, ci).2.2.2) ∧ (clO (cPk σ) x y z w = false ∨ ¬ cc < 6 → (upd v 0 0, ca, cl, ci).1 18 = v 18 ∧ (upd v 0 0, ca, cl, ci).2.1 = ca ∧ (upd v 0 0, ca, cl, ci).2.2.1 = cl ∧ (upd v 0 0, ca, cl, ci).2.2.2 = ci) ∧ (∀ k, ¬ k = 0 → ¬ k = 18 → (upd v 0 0, ca, cl, ci).1 k = v k) := by
      have hO : clO (cPk σ) x y z w = false := by simp [clO, c_11]
      exact ⟨by rw [clR, if_neg (ne_t hO)], fun h9 => absurd h9.1 (ne_t hO), fun _ => ⟨rfl, rfl, rfl, rfl⟩, fun k h0 h18 => pk_un h0⟩
    exact hret _ (upd v 0 0, ca, cl, ci) _ _ _ _ (hpost) (rfl) hP hD hS dX8_clouds_32
  · have c_11 : (pPlace (cPk σ) x y) = true := b2i_n0.mp c_11
    obtain ⟨X, Y, hX, hY, rfl, rfl, hc⟩ := pPlace_of c_11
    refine lv_iload_n hx hb dX8_clouds_14 rfl (lv_at hl 3 rfl) ?_
    refine rd_i (va_runS (As := [.int z]) (rest := []) ⟨hx, hb, hml, hown, hts⟩ (c_X8_isLook l G z) (va_cwS 1 hts gX8_clouds_X8_isLook rfl rfl rfl (by decide +kernel) ⟨Nat.le_of_ble_eq_true rfl, Nat.le_of_ble_eq_true rfl⟩) (rPre_S hK hP [] rfl) rfl rfl hl.1 rfl (lv_room (Nat.le_of_ble_eq_true rfl)) dX8_clouds_15 ⟨Nat.zero_le _, Nat.zero_le _⟩) (fun r_15 q_15 => ?_)
    obtain rfl : r_15 = b2i (pLook z) := q_15
    refine lv_if_eq (tgt := 31) hx hb dX8_clouds_18 (by decide) (fun c_18 => ?_) (fun c_18 => ?_)
    · have c_18 : (pLook z) = false := b2i_0.mp c_18
      refine lv_iconst (v := -1) hx hb dX8_clouds_31 (by decide) ?_
      have hpost : (-1 : Int32) = clR (cPk σ) cc (nI X) (nI Y) z w ∧ (clO (cPk σ) (nI X) (nI Y) z w = true ∧ cc < 6 → CRep (cc + 1) (updN cpt cc (ptN (nI X) (nI Y))) (updN clk cc z.toNatClampNeg) (updB cwh cc (decide (w = 1))) (fun _ => (upd v 0 0, ca, cl, ci).1 18) (upd v 0 0, ca, cl, ci).2.1 (upd v 0 0, ca, cl, ci).2.2.1 (upd v 0 0, ca, cl, ci).2.2.2) ∧ (clO (cPk σ) (nI X) (nI Y) z w = false ∨ ¬ cc < 6 → (upd v 0 0, ca, cl, ci).1 18 = v 18 ∧ (upd v 0 0, ca, cl, ci).2.1 = ca ∧ (upd v 0 0, ca, cl, ci).2.2.1 = cl ∧ (upd v 0 0, ca, cl, ci).2.2.2 = ci) ∧ (∀ k, ¬ k = 0 → ¬ k = 18 → (upd v 0 0, ca, cl, ci).1 k = v k) := by
        have hO : clO (cPk σ) (nI X) (nI Y) z w = false := by simp [clO, c_11, c_18]
        exact ⟨by rw [clR, if_neg (ne_t hO)], fun h9 => absurd h9.1 (ne_t hO), fun _ => ⟨rfl, rfl, rfl, rfl⟩, fun k h0 h18 => pk_un h0⟩
      exact hret _ (upd v 0 0, ca, cl, ci) _ _ _ _ (hpost) (rfl) hP hD hS dX8_clouds_32
    · have c_18 : (pLook z) = true := b2i_n0.mp c_18
      obtain ⟨j0, hj0, rfl⟩ := pLook_of c_18
      refine lv_iload hx hb dX8_clouds_21 (lv_at hl 4 rfl) ?_
      refine lv_iconst (v := 0) hx hb dX8_clouds_23 (by decide) ?_
      refine lv_iconst (v := 1) hx hb dX8_clouds_24 (by decide) ?_
      refine rd_i (va_runS (As := [.int w, .int 0, .int 1]) (rest := []) ⟨hx, hb, hml, hown, hts⟩ (c_X8_in l G w 0 1) (va_cwS 3 hts gX8_clouds_X8_in rfl rfl rfl (by decide +kernel) ⟨Nat.le_of_ble_eq_true rfl, Nat.le_of_ble_eq_true rfl⟩) (rPre_S hK hP [] rfl) rfl rfl hl.1 rfl (lv_room (Nat.le_of_ble_eq_true rfl)) dX8_clouds_25 ⟨Nat.zero_le _, Nat.zero_le _⟩) (fun r_25 q_25 => ?_)
      obtain rfl : r_25 = b2i (pIn w 0 1) := q_25
      refine lv_if_ne (tgt := 33) hx hb dX8_clouds_28 (by decide) (fun c_28 => ?_) (fun c_28 => ?_)
      · have c_28 : (pIn w 0 1) = true := b2i_n0.mp c_28
        obtain ⟨e, he, rfl⟩ := pIn1e c_28
        refine lv_aload_n hx hb dX8_clouds_33 rfl (lv_at hl 0 rfl) ?_
        refine va_get (D := G.1) (ci := 8) (v := .int (v 18)) (C := RX8) (T := TX8) (N := 44) hx hb hts hin8 hown hK.1 hP 0 rfl rfl 18 (by decide) f160 (fun _ h9 => h9) rfl dX8_clouds_34 ?_
        refine top_i (y := nI cc) (hv18) ?_
        refine lv_bipush (v := 6) hx hb dX8_clouds_37 (by decide) ?_
        refine lv_icmp_ne (tgt := 45) hx hb dX8_clouds_39 (by decide) (fun c_39 => ?_) (fun c_39 => ?_)
        · have c_39 : ¬ cc = 6 := fun hne => c_39 ((c_eq (a := cc) (b := 6) rfl rfl (by omega) (by omega)).mpr hne)
          refine lv_aload_n hx hb dX8_clouds_45 rfl (lv_at hl 0 rfl) ?_
          refine va_get (D := G.1) (ci := 8) (v := .ref (q 19)) (C := RX8) (T := TX8) (N := 44) hx hb hts hin8 hown hK.1 hP 0 rfl rfl 19 (by decide) f50 (fun _ h9 => h9) rfl dX8_clouds_46 ?_
          refine lv_aload_n hx hb dX8_clouds_49 rfl (lv_at hl 0 rfl) ?_
          refine va_get (D := G.1) (ci := 8) (v := .int (v 18)) (C := RX8) (T := TX8) (N := 44) hx hb hts hin8 hown hK.1 hP 0 rfl rfl 18 (by decide) f160 (fun _ h9 => h9) rfl dX8_clouds_50 ?_
          refine top_i (y := nI cc) (hv18) ?_
          refine lv_bipush (v := 8) hx hb dX8_clouds_53 (by decide) ?_
          refine lv_iload_n hx hb dX8_clouds_55 rfl (lv_at hl 1 rfl) ?_
          refine lv_imul hx hb dX8_clouds_56 ?_
          refine lv_iload_n hx hb dX8_clouds_57 rfl (lv_at hl 2 rfl) ?_
          refine lv_iadd hx hb dX8_clouds_58 ?_
          refine top_i (y := nI (X * 8 + Y)) (mul8' X Y) ?_
          refine as_i hx hb hK.1 hP hD hS 2 0 rfl rfl (j := cc) (by omega) (Nat.le_of_ble_eq_true rfl) dX8_clouds_59 (fun H locs hP hD hS => ?_)
          have hP : va_P G.1 vwCl [oB h 8 (oF8 (upd v 0 0) q), aZ G (q 9) 64 ip, aI G (q 19) 6 (upd ca cc (nI (X * 8 + Y))), aI G (q 20) 6 cl, aI G (q 21) 6 ci] H := hP
          have hD : va_D A [oB h 8 (oF8 (upd v 0 0) q), aZ G (q 9) 64 ip, aI G (q 19) 6 (upd ca cc (nI (X * 8 + Y))), aI G (q 20) 6 cl, aI G (q 21) 6 ci] := hD
          refine lv_aload_n hx hb dX8_clouds_60 rfl (lv_at hl 0 rfl) ?_
          refine va_get (D := G.1) (ci := 8) (v := .ref (q 20)) (C := RX8) (T := TX8) (N := 44) hx hb hts hin8 hown hK.1 hP 0 rfl rfl 20 (by decide) f53 (fun _ h9 => h9) rfl dX8_clouds_61 ?_
          refine lv_aload_n hx hb dX8_clouds_64 rfl (lv_at hl 0 rfl) ?_
          refine va_get (D := G.1) (ci := 8) (v := .int (v 18)) (C := RX8) (T := TX8) (N := 44) hx hb hts hin8 hown hK.1 hP 0 rfl rfl 18 (by decide) f160 (fun _ h9 => h9) rfl dX8_clouds_65 ?_
          refine top_i (y := nI cc) (hv18) ?_
          refine lv_iload_n hx hb dX8_clouds_68 rfl (lv_at hl 3 rfl) ?_
          refine as_i hx hb hK.1 hP hD hS 3 0 rfl rfl (j := cc) (by omega) (Nat.le_of_ble_eq_true rfl) dX8_clouds_69 (fun H locs hP hD hS => ?_)
          have hP : va_P G.1 vwCl [oB h 8 (oF8 (upd v 0 0) q), aZ G (q 9) 64 ip, aI G (q 19) 6 (upd ca cc (nI (X * 8 + Y))), aI G (q 20) 6 (upd cl cc (nI j0)), aI G (q 21) 6 ci] H := hP
          have hD : va_D A [oB h 8 (oF8 (upd v 0 0) q), aZ G (q 9) 64 ip, aI G (q 19) 6 (upd ca cc (nI (X * 8 + Y))), aI G (q 20) 6 (upd cl cc (nI j0)), aI G (q 21) 6 ci] := hD
          refine lv_aload_n hx hb dX8_clouds_70 rfl (lv_at hl 0 rfl) ?_
          refine va_get (D := G.1) (ci := 8) (v := .ref (q 21)) (C := RX8) (T := TX8) (N := 44) hx hb hts hin8 hown hK.1 hP 0 rfl rfl 21 (by decide) f56 (fun _ h9 => h9) rfl dX8_clouds_71 ?_
          refine lv_aload_n hx hb dX8_clouds_74 rfl (lv_at hl 0 rfl) ?_
          refine va_get (D := G.1) (ci := 8) (v := .int (v 18)) (C := RX8) (T := TX8) (N := 44) hx hb hts hin8 hown hK.1 hP 0 rfl rfl 18 (by decide) f160 (fun _ h9 => h9) rfl dX8_clouds_75 ?_
          refine top_i (y := nI cc) (hv18) ?_
          refine lv_iload hx hb dX8_clouds_78 (lv_at hl 4 rfl) ?_
          refine as_i hx hb hK.1 hP hD hS 4 0 rfl rfl (j := cc) (by omega) (Nat.le_of_ble_eq_true rfl) dX8_clouds_80 (fun H locs hP hD hS => ?_)
          have hP : va_P G.1 vwCl [oB h 8 (oF8 (upd v 0 0) q), aZ G (q 9) 64 ip, aI G (q 19) 6 (upd ca cc (nI (X * 8 + Y))), aI G (q 20) 6 (upd cl cc (nI j0)), aI G (q 21) 6 (upd ci cc (nI e))] H := hP
          have hD : va_D A [oB h 8 (oF8 (upd v 0 0) q), aZ G (q 9) 64 ip, aI G (q 19) 6 (upd ca cc (nI (X * 8 + Y))), aI G (q 20) 6 (upd cl cc (nI j0)), aI G (q 21) 6 (upd ci cc (nI e))] := hD
          refine lv_aload_n hx hb dX8_clouds_81 rfl (lv_at hl 0 rfl) ?_
          refine lv_dup hx hb dX8_clouds_82 rfl ?_
          refine va_get (D := G.1) (ci := 8) (v := .int (v 18)) (C := RX8) (T := TX8) (N := 44) hx hb hts hin8 hown hK.1 hP 0 rfl rfl 18 (by decide) f160 (fun _ h9 => h9) rfl dX8_clouds_83 ?_
          refine top_i (y := nI cc) (hv18) ?_
          refine lv_iconst (v := 1) hx hb dX8_clouds_86 (by decide) ?_
          refine lv_iadd hx hb dX8_clouds_87 ?_
          refine top_i (y := nI (cc + 1)) (nI_1 cc) ?_
          refine va_put (D := G.1) (ci := 8) (v := .int (nI (cc + 1))) (ty := .int) (C := RX8) (T := TX8) (N := 44) hx hb hts hin8 tyX8 tyX8_ok nmX8 hown hK.1 hP hD hS 0 rfl rfl 18 (by decide) f160 (fun _ h9 => h9) rfl (by decide +kernel) rfl rfl (Nat.le_of_ble_eq_true rfl) dX8_clouds_88 (fun H locs hP hD hS => ?_)
          have hP : va_P G.1 vwCl [oB h 8 (oF8 (upd (upd v 0 0) 18 (nI (cc + 1))) q), aZ G (q 9) 64 ip, aI G (q 19) 6 (upd ca cc (nI (X * 8 + Y))), aI G (q 20) 6 (upd cl cc (nI j0)), aI G (q 21) 6 (upd ci cc (nI e))] H := hP
          have hD : va_D A [oB h 8 (oF8 (upd (upd v 0 0) 18 (nI (cc + 1))) q), aZ G (q 9) 64 ip, aI G (q 19) 6 (upd ca cc (nI (X * 8 + Y))), aI G (q 20) 6 (upd cl cc (nI j0)), aI G (q 21) 6 (upd ci cc (nI e))] := hD
          refine lv_aload_n hx hb dX8_clouds_91 rfl (lv_at hl 0 rfl) ?_
          refine va_get (D := G.1) (ci := 8) (v := .int (nI (cc + 1))) (C := RX8) (T := TX8) (N := 44) hx hb hts hin8 hown hK.1 hP 0 rfl rfl 18 (by decide) f160 (fun _ h9 => h9) rfl dX8_clouds_92 ?_
          have hpost : (nI (cc + 1) : Int32) = clR (cPk σ) cc (nI X) (nI Y) (nI j0) (nI e) ∧ (clO (cPk σ) (nI X) (nI Y) (nI j0) (nI e) = true ∧ cc < 6 → CRep (cc + 1) (updN cpt cc (ptN (nI X) (nI Y))) (updN clk cc (nI j0).toNatClampNeg) (updB cwh cc (decide ((nI e) = 1))) (fun _ => (upd (upd v 0 0) 18 (nI (cc + 1)), upd ca cc (nI (X * 8 + Y)), upd cl cc (nI j0), upd ci cc (nI e)).1 18) (upd (upd v 0 0) 18 (nI (cc + 1)), upd ca cc (nI (X * 8 + Y)), upd cl cc (nI j0), upd ci cc (nI e)).2.1 (upd (upd v 0 0) 18 (nI (cc + 1)), upd ca cc (nI (X * 8 + Y)), upd cl cc (nI j0), upd ci cc (nI e)).2.2.1 (upd (upd v 0 0) 18 (nI (cc + 1)), upd ca cc (nI (X * 8 + Y)), upd cl cc (nI j0), upd ci cc (nI e)).2.2.2) ∧ (clO (cPk σ) (nI X) (nI Y) (nI j0) (nI e) = false ∨ ¬ cc < 6 → (upd (upd v 0 0) 18 (nI (cc + 1)), upd ca cc (nI (X * 8 + Y)), upd cl cc (nI j0), upd ci cc (nI e)).1 18 = v 18 ∧ (upd (upd v 0 0) 18 (nI (cc + 1)), upd ca cc (nI (X * 8 + Y)), upd cl cc (nI j0), upd ci cc (nI e)).2.1 = ca ∧ (upd (upd v 0 0) 18 (nI (cc + 1)), upd ca cc (nI (X * 8 + Y)), upd cl cc (nI j0), upd ci cc (nI e)).2.2.1 = cl ∧ (upd (upd v 0 0) 18 (nI (cc + 1)), upd ca cc (nI (X * 8 + Y)), upd cl cc (nI j0), upd ci cc (nI e)).2.2.2 = ci) ∧ (∀ k, ¬ k = 0 → ¬ k = 18 → (upd (upd v 0 0) 18 (nI (cc + 1)), upd ca cc (nI (X * 8 + Y)), upd cl cc (nI j0), upd ci cc (nI e)).1 k = v k) := by
            have hO : clO (cPk σ) (nI X) (nI Y) (nI j0) (nI e) = true := by rw [clO, c_11, c_18, isOk_in, c_28]; rfl
            refine ⟨by rw [clR, if_pos hO, if_pos (by omega)], fun _ => ?_, fun h9 => h9.elim (fun e9 => absurd hO (ne_t e9)) (fun e9 => absurd (show cc < 6 by omega) e9), fun k h0 h18 => by simp [upd, h0, h18]⟩
            rw [ptN_nI hX hY, nI_clamp (by omega)]
            have h9 : CRep (cc + 1) (updN cpt cc (X * 8 + Y)) (updN clk cc j0) (updB cwh cc (decide (nI e = 1))) (fun _ => nI (cc + 1)) (upd ca cc (nI (X * 8 + Y))) (upd cl cc (nI j0)) (upd ci cc (b2i (decide (nI e = 1)))) := CRep_add hC (by omega) (by omega) hj0 rfl
            rw [← e_b2i he] at h9
            exact h9
          exact hret _ (upd (upd v 0 0) 18 (nI (cc + 1)), upd ca cc (nI (X * 8 + Y)), upd cl cc (nI j0), upd ci cc (nI e)) _ _ _ _ (hpost) (rfl) hP hD hS dX8_clouds_95
        · have c_39 : cc = 6 := (c_eq (a := cc) (b := 6) rfl rfl (by omega) (by omega)).mp c_39
          refine lv_bipush (v := -3) hx hb dX8_clouds_42 (by decide) ?_
          have hpost : (-3 : Int32) = clR (cPk σ) cc (nI X) (nI Y) (nI j0) (nI e) ∧ (clO (cPk σ) (nI X) (nI Y) (nI j0) (nI e) = true ∧ cc < 6 → CRep (cc + 1) (updN cpt cc (ptN (nI X) (nI Y))) (updN clk cc (nI j0).toNatClampNeg) (updB cwh cc (decide ((nI e) = 1))) (fun _ => (upd v 0 0, ca, cl, ci).1 18) (upd v 0 0, ca, cl, ci).2.1 (upd v 0 0, ca, cl, ci).2.2.1 (upd v 0 0, ca, cl, ci).2.2.2) ∧ (clO (cPk σ) (nI X) (nI Y) (nI j0) (nI e) = false ∨ ¬ cc < 6 → (upd v 0 0, ca, cl, ci).1 18 = v 18 ∧ (upd v 0 0, ca, cl, ci).2.1 = ca ∧ (upd v 0 0, ca, cl, ci).2.2.1 = cl ∧ (upd v 0 0, ca, cl, ci).2.2.2 = ci) ∧ (∀ k, ¬ k = 0 → ¬ k = 18 → (upd v 0 0, ca, cl, ci).1 k = v k) := by
            have hO : clO (cPk σ) (nI X) (nI Y) (nI j0) (nI e) = true := by rw [clO, c_11, c_18, isOk_in, c_28]; rfl
            exact ⟨by rw [clR, if_pos hO, if_neg (by omega)], fun h9 => absurd h9.2 (by omega), fun _ => ⟨rfl, rfl, rfl, rfl⟩, fun k h0 h18 => pk_un h0⟩
          exact hret _ (upd v 0 0, ca, cl, ci) _ _ _ _ (hpost) (rfl) hP hD hS dX8_clouds_44
      · have c_28 : (pIn w 0 1) = false := b2i_0.mp c_28
        refine lv_iconst (v := -1) hx hb dX8_clouds_31 (by decide) ?_
        have hpost : (-1 : Int32) = clR (cPk σ) cc (nI X) (nI Y) (nI j0) w ∧ (clO (cPk σ) (nI X) (nI Y) (nI j0) w = true ∧ cc < 6 → CRep (cc + 1) (updN cpt cc (ptN (nI X) (nI Y))) (updN clk cc (nI j0).toNatClampNeg) (updB cwh cc (decide (w = 1))) (fun _ => (upd v 0 0, ca, cl, ci).1 18) (upd v 0 0, ca, cl, ci).2.1 (upd v 0 0, ca, cl, ci).2.2.1 (upd v 0 0, ca, cl, ci).2.2.2) ∧ (clO (cPk σ) (nI X) (nI Y) (nI j0) w = false ∨ ¬ cc < 6 → (upd v 0 0, ca, cl, ci).1 18 = v 18 ∧ (upd v 0 0, ca, cl, ci).2.1 = ca ∧ (upd v 0 0, ca, cl, ci).2.2.1 = cl ∧ (upd v 0 0, ca, cl, ci).2.2.2 = ci) ∧ (∀ k, ¬ k = 0 → ¬ k = 18 → (upd v 0 0, ca, cl, ci).1 k = v k) := by
          have hO : clO (cPk σ) (nI X) (nI Y) (nI j0) w = false := by simp [clO, c_11, c_18, isOk_in, c_28]
          exact ⟨by rw [clR, if_neg (ne_t hO)], fun h9 => absurd h9.1 (ne_t hO), fun _ => ⟨rfl, rfl, rfl, rfl⟩, fun k h0 h18 => pk_un h0⟩
        exact hret _ (upd v 0 0, ca, cl, ci) _ _ _ _ (hpost) (rfl) hP hD hS dX8_clouds_32

abbrev rX8_forget : Room := { frames := 0, cells := 0, slots := 0, locals := 0 }
set_option maxHeartbeats 4000000 in
set_option maxRecDepth 100000 in
theorem c_X8_forget (l : Launch) (G : kG) (h : Nat) (v : Nat → Int32) (q : Nat → Nat) (cc : Nat) (hv18 : v 18 = nI cc) : Ci l G yX8_forget wsX8_forget rX8_forget [.ref h] [oB h 8 (oF8 v q)] (fun r (u : (Nat → Int32)) => r = nI cc ∧ u 18 = 0 ∧ (∀ k, ¬ k = 0 → ¬ k = 18 → u k = v k)) (fun u => [oB h 8 (oF8 u q)]) := by
  refine Ci.of (cc := cX8_forget) (maxL := 2) (by decide) rfl (Nat.le_of_ble_eq_true rfl) ?_
  intro pM eM sM mM bM tM cM Q A hx hb hts hown hml hA hK hP hD hS hret ls hl
  have hown : sM.vm.findClass RX8 = some mM.cls := hown
  have hl : lv_has ls 2 [(0, .ref h)] := hl
  have hin8 : ∀ w ∈ u_ws RX8 TX8 44, w ∈ wsX8_forget := by decide +kernel
  have f98 := hts (.fieldLink RX8 98 "HorizonPeaksModel" "thrown" "I") (by decide +kernel)
  have f160 := hts (.fieldLink RX8 160 "HorizonPeaksModel" "clouds" "I") (by decide +kernel)
  refine lv_aload_n hx hb dX8_forget_0 rfl (lv_at hl 0 rfl) ?_
  refine lv_iconst (v := 0) hx hb dX8_forget_1 (by decide) ?_
  refine va_put (D := G.1) (ci := 8) (v := .int 0) (ty := .int) (C := RX8) (T := TX8) (N := 44) hx hb hts hin8 tyX8 tyX8_ok nmX8 hown hK.1 hP hD hS 0 rfl rfl 0 (by decide) f98 (fun _ h9 => h9) rfl (by decide +kernel) rfl rfl (Nat.le_of_ble_eq_true rfl) dX8_forget_2 (fun H locs hP hD hS => ?_)
  have hP : va_P G.1 vwCl [oB h 8 (oF8 (upd v 0 0) q)] H := hP
  have hD : va_D A [oB h 8 (oF8 (upd v 0 0) q)] := hD
  refine lv_aload_n hx hb dX8_forget_5 rfl (lv_at hl 0 rfl) ?_
  refine va_get (D := G.1) (ci := 8) (v := .int (v 18)) (C := RX8) (T := TX8) (N := 44) hx hb hts hin8 hown hK.1 hP 0 rfl rfl 18 (by decide) f160 (fun _ h9 => h9) rfl dX8_forget_6 ?_
  refine top_i (y := nI cc) (hv18) ?_
  refine lv_istore_n (lv' := [(1, .int (nI cc)), (0, .ref h)]) hx hb dX8_forget_9 rfl hl (by decide) rfl (fun ls hl => ?_)
  refine lv_aload_n hx hb dX8_forget_10 rfl (lv_at hl 1 rfl) ?_
  refine lv_iconst (v := 0) hx hb dX8_forget_11 (by decide) ?_
  refine va_put (D := G.1) (ci := 8) (v := .int 0) (ty := .int) (C := RX8) (T := TX8) (N := 44) hx hb hts hin8 tyX8 tyX8_ok nmX8 hown hK.1 hP hD hS 0 rfl rfl 18 (by decide) f160 (fun _ h9 => h9) rfl (by decide +kernel) rfl rfl (Nat.le_of_ble_eq_true rfl) dX8_forget_12 (fun H locs hP hD hS => ?_)
  have hP : va_P G.1 vwCl [oB h 8 (oF8 (upd (upd v 0 0) 18 0) q)] H := hP
  have hD : va_D A [oB h 8 (oF8 (upd (upd v 0 0) 18 0) q)] := hD
  refine lv_iload_n hx hb dX8_forget_15 rfl (lv_at hl 0 rfl) ?_
  have hpost : (nI cc : Int32) = nI cc ∧ (upd (upd v 0 0) 18 0) 18 = 0 ∧ (∀ k, ¬ k = 0 → ¬ k = 18 → (upd (upd v 0 0) 18 0) k = v k) := by
    exact ⟨rfl, rfl, fun k h0 h18 => by simp [upd, h0, h18]⟩
  exact hret _ (upd (upd v 0 0) 18 0) _ _ _ _ (hpost) (rfl) hP hD hS dX8_forget_16

abbrev rX8_keep : Room := { frames := 1, cells := 0, slots := 0, locals := 22 }
set_option maxHeartbeats 4000000 in
set_option maxRecDepth 100000 in
theorem c_X8_keep (l : Launch) (G : kG) (h : Nat) (v : Nat → Int32) (q : Nat → Nat) (sa : Nat → Int32) (ke : Nat → Int32) (kp : Nat → Int32) (N : NL) (k0 : Nat) (x : Int32) (hSM : SMr N sa) (hk0 : k0 < 2) (hx0 : imOk x = true → x = nI k0) : Ci l G yX8_keep wsX8_keep rX8_keep [.ref h, .int x] [oB h 8 (oF8 v q), aI G (q 13) 17 sa, aI G (q 16) 34 ke, aZ G (q 17) 2 kp] (fun r (u : (Nat → Int32) × (Nat → Int32)) => r = (if imOk x = true then nI N.1 else -1) ∧ (imOk x = true → (∀ k, k < 17 → u.1 (17 * k0 + k) = sa k) ∧ (∀ i, i < 17 * k0 ∨ 17 * k0 + 17 ≤ i → u.1 i = ke i) ∧ u.2 = upd kp k0 1) ∧ (imOk x = false → u.1 = ke ∧ u.2 = kp)) (fun u => [oB h 8 (oF8 (upd v 0 0) q), aI G (q 13) 17 sa, aI G (q 16) 34 u.1, aZ G (q 17) 2 u.2]) := by
  refine Ci.of (cc := cX8_keep) (maxL := 3) (by decide) rfl (Nat.le_of_ble_eq_true rfl) ?_
  intro pM eM sM mM bM tM cM Q A hx hb hts hown hml hA hK hP hD hS hret ls hl
  have hown : sM.vm.findClass RX8 = some mM.cls := hown
  have hl : lv_has ls 3 [(0, .ref h), (1, .int x)] := hl
  have hin8 : ∀ w ∈ u_ws RX8 TX8 44, w ∈ wsX8_keep := by decide +kernel
  have f98 := hts (.fieldLink RX8 98 "HorizonPeaksModel" "thrown" "I") (by decide +kernel)
  have f44 := hts (.fieldLink RX8 44 "HorizonPeaksModel" "kept" "[I") (by decide +kernel)
  have f38 := hts (.fieldLink RX8 38 "HorizonPeaksModel" "s" "[I") (by decide +kernel)
  have f47 := hts (.fieldLink RX8 47 "HorizonPeaksModel" "isKept" "[Z") (by decide +kernel)
  refine lv_aload_n hx hb dX8_keep_0 rfl (lv_at hl 0 rfl) ?_
  refine lv_iconst (v := 0) hx hb dX8_keep_1 (by decide) ?_
  refine va_put (D := G.1) (ci := 8) (v := .int 0) (ty := .int) (C := RX8) (T := TX8) (N := 44) hx hb hts hin8 tyX8 tyX8_ok nmX8 hown hK.1 hP hD hS 0 rfl rfl 0 (by decide) f98 (fun _ h9 => h9) rfl (by decide +kernel) rfl rfl (Nat.le_of_ble_eq_true rfl) dX8_keep_2 (fun H locs hP hD hS => ?_)
  have hP : va_P G.1 vwCl [oB h 8 (oF8 (upd v 0 0) q), aI G (q 13) 17 sa, aI G (q 16) 34 ke, aZ G (q 17) 2 kp] H := hP
  have hD : va_D A [oB h 8 (oF8 (upd v 0 0) q), aI G (q 13) 17 sa, aI G (q 16) 34 ke, aZ G (q 17) 2 kp] := hD
  refine lv_iload_n hx hb dX8_keep_5 rfl (lv_at hl 1 rfl) ?_
  refine lv_iconst (v := 0) hx hb dX8_keep_6 (by decide) ?_
  refine lv_iconst (v := 1) hx hb dX8_keep_7 (by decide) ?_
  refine rd_i (va_runS (As := [.int x, .int 0, .int 1]) (rest := []) ⟨hx, hb, hml, hown, hts⟩ (c_X8_in l G x 0 1) (va_cwS 3 hts gX8_keep_X8_in rfl rfl rfl (by decide +kernel) ⟨Nat.le_of_ble_eq_true rfl, Nat.le_of_ble_eq_true rfl⟩) (rPre_S hK hP [] rfl) rfl rfl hl.1 rfl (lv_room (Nat.le_of_ble_eq_true rfl)) dX8_keep_8 ⟨Nat.zero_le _, Nat.zero_le _⟩) (fun r_8 q_8 => ?_)
  obtain rfl : r_8 = b2i (pIn x 0 1) := q_8
  refine lv_if_ne (tgt := 16) hx hb dX8_keep_11 (by decide) (fun c_11 => ?_) (fun c_11 => ?_)
  · have c_11 : (pIn x 0 1) = true := b2i_n0.mp c_11
    have hx9 := hx0 (by rw [im_in]; exact c_11)
    subst hx9
    refine lv_iconst (v := 0) hx hb dX8_keep_16 (by decide) ?_
    refine lv_istore_n (lv' := [(2, .int 0), (0, .ref h), (1, .int (nI k0))]) hx hb dX8_keep_17 rfl hl (by decide) rfl (fun ls hl => ?_)
    have loop_18 : ∀ (nF : Nat) (k : Nat) (t : Nat → Int32), (17 - k) < nF → (k ≤ 17) → (∀ i, i < k → t (17 * k0 + i) = sa i) → (∀ i, i < 17 * k0 ∨ 17 * k0 + 17 ≤ i → t i = ke i) → ∀ (H : Heap) (locs : List Loc), va_P G.1 vwCl [oB h 8 (oF8 (upd v 0 0) q), aI G (q 13) 17 sa, aI G (q 16) 34 t, aZ G (q 17) 2 kp] H → va_D A [oB h 8 (oF8 (upd v 0 0) q), aI G (q 13) 17 sa, aI G (q 16) 34 t, aZ G (q 17) 2 kp] → va_S A sM.heap H locs → ∀ (ls : Array Slot), lv_has ls 3 [(2, .int (nI k)), (0, .ref h), (1, .int (nI k0))] → W pM l eM rX8_keep sM mM [.ref h, .int (nI k0)].toArray bM tM cM H locs 0 0 Q (F0 mM 18 ls []) := by
      intro nF
      induction nF with
      | zero => intro k t hmF; exact absurd hmF (Nat.not_lt_zero _)
      | succ nF ih18 =>
        intro k t hmF hk hcp hlo H locs hP hD hS ls hl
        refine lv_iload_n hx hb dX8_keep_18 rfl (lv_at hl 0 rfl) ?_
        refine lv_bipush (v := 17) hx hb dX8_keep_19 (by decide) ?_
        refine lv_icmp_ge (tgt := 47) hx hb dX8_keep_21 (by decide) (fun c_21 => ?_) (fun c_21 => ?_)
        · have c_21 : 17 ≤ k := (c_le (a := 17) (b := k) rfl rfl (by omega) (by omega)).mp c_21
          refine lv_aload_n hx hb dX8_keep_47 rfl (lv_at hl 1 rfl) ?_
          refine va_get (D := G.1) (ci := 8) (v := .ref (q 17)) (C := RX8) (T := TX8) (N := 44) hx hb hts hin8 hown hK.1 hP 0 rfl rfl 17 (by decide) f47 (fun _ h9 => h9) rfl dX8_keep_48 ?_
          refine lv_iload_n hx hb dX8_keep_51 rfl (lv_at hl 2 rfl) ?_
          refine lv_iconst (v := 1) hx hb dX8_keep_52 (by decide) ?_
          refine as_z hx hb hK.1 hP hD hS 3 2 rfl rfl (j := k0) (rfl) (by omega) (Nat.le_of_ble_eq_true rfl) dX8_keep_53 (fun H locs hP hD hS => ?_)
          have hP : va_P G.1 vwCl [oB h 8 (oF8 (upd v 0 0) q), aI G (q 13) 17 sa, aI G (q 16) 34 t, aZ G (q 17) 2 (upd kp k0 1)] H := hP
          have hD : va_D A [oB h 8 (oF8 (upd v 0 0) q), aI G (q 13) 17 sa, aI G (q 16) 34 t, aZ G (q 17) 2 (upd kp k0 1)] := hD
          refine lv_aload_n hx hb dX8_keep_54 rfl (lv_at hl 1 rfl) ?_
          refine va_get (D := G.1) (ci := 8) (v := .ref (q 13)) (C := RX8) (T := TX8) (N := 44) hx hb hts hin8 hown hK.1 hP 0 rfl rfl 13 (by decide) f38 (fun _ h9 => h9) rfl dX8_keep_55 ?_
          refine lv_iconst (v := 0) hx hb dX8_keep_58 (by decide) ?_
          refine top_i (y := nI 0) rfl ?_
          refine al_i hx hb hK.1 hP 1 0 rfl rfl (j := 0) (by omega) (Nat.le_of_ble_eq_true rfl) dX8_keep_59 ?_
          refine top_i (y := nI N.1) (hSM.1) ?_
          have hpost : (nI N.1 : Int32) = (if imOk (nI k0) = true then nI N.1 else -1) ∧ (imOk (nI k0) = true → (∀ k, k < 17 → (t, upd kp k0 1).1 (17 * k0 + k) = sa k) ∧ (∀ i, i < 17 * k0 ∨ 17 * k0 + 17 ≤ i → (t, upd kp k0 1).1 i = ke i) ∧ (t, upd kp k0 1).2 = upd kp k0 1) ∧ (imOk (nI k0) = false → (t, upd kp k0 1).1 = ke ∧ (t, upd kp k0 1).2 = kp) := by
            have e9 : imOk (nI k0) = true := by rw [im_in]; exact c_11
            exact ⟨by rw [if_pos e9], fun _ => ⟨fun k9 hk9 => hcp k9 (by omega), hlo, rfl⟩, fun h9 => absurd e9 (ne_t h9)⟩
          exact hret _ (t, upd kp k0 1) _ _ _ _ (hpost) (rfl) hP hD hS dX8_keep_60
        · have c_21 : ¬ 17 ≤ k := fun hne => c_21 ((c_le (a := 17) (b := k) rfl rfl (by omega) (by omega)).mpr hne)
          refine lv_aload_n hx hb dX8_keep_24 rfl (lv_at hl 1 rfl) ?_
          refine va_get (D := G.1) (ci := 8) (v := .ref (q 16)) (C := RX8) (T := TX8) (N := 44) hx hb hts hin8 hown hK.1 hP 0 rfl rfl 16 (by decide) f44 (fun _ h9 => h9) rfl dX8_keep_25 ?_
          refine lv_bipush (v := 17) hx hb dX8_keep_28 (by decide) ?_
          refine lv_iload_n hx hb dX8_keep_30 rfl (lv_at hl 2 rfl) ?_
          refine lv_imul hx hb dX8_keep_31 ?_
          refine lv_iload_n hx hb dX8_keep_32 rfl (lv_at hl 0 rfl) ?_
          refine lv_iadd hx hb dX8_keep_33 ?_
          refine top_i (y := nI (17 * k0 + k)) (mul17 k0 k) ?_
          refine lv_aload_n hx hb dX8_keep_34 rfl (lv_at hl 1 rfl) ?_
          refine va_get (D := G.1) (ci := 8) (v := .ref (q 13)) (C := RX8) (T := TX8) (N := 44) hx hb hts hin8 hown hK.1 hP 0 rfl rfl 13 (by decide) f38 (fun _ h9 => h9) rfl dX8_keep_35 ?_
          refine lv_iload_n hx hb dX8_keep_38 rfl (lv_at hl 0 rfl) ?_
          refine al_i hx hb hK.1 hP 1 0 rfl rfl (j := k) (by omega) (Nat.le_of_ble_eq_true rfl) dX8_keep_39 ?_
          refine as_i hx hb hK.1 hP hD hS 2 0 rfl rfl (j := 17 * k0 + k) (by omega) (Nat.le_of_ble_eq_true rfl) dX8_keep_40 (fun H locs hP hD hS => ?_)
          have hP : va_P G.1 vwCl [oB h 8 (oF8 (upd v 0 0) q), aI G (q 13) 17 sa, aI G (q 16) 34 (upd t (17 * k0 + k) (sa k)), aZ G (q 17) 2 kp] H := hP
          have hD : va_D A [oB h 8 (oF8 (upd v 0 0) q), aI G (q 13) 17 sa, aI G (q 16) 34 (upd t (17 * k0 + k) (sa k)), aZ G (q 17) 2 kp] := hD
          refine lv_iinc (v := nI (k + 1)) (lv' := [(2, .int (nI (k + 1))), (0, .ref h), (1, .int (nI k0))]) hx hb dX8_keep_41 hl (k := 0) rfl (inc_nI _ 1) (by decide) rfl (fun ls hl => ?_)
          refine lv_goto (tgt := 18) hx hb dX8_keep_44 (by decide) ?_
          exact ih18 (k + 1) (upd t (17 * k0 + k) (sa k)) (by omega) (by omega) (fun i hi => (Nat.lt_succ_iff_lt_or_eq.mp hi).elim (fun e => by rw [pk_un (by omega)]; exact hcp i e) (fun e => by rw [e, pk_us])) (fun i hi => by rw [pk_un (by omega)]; exact hlo i hi) _ _ hP hD hS _ (lv_sub hl [0, 1, 2] rfl)
    exact loop_18 _ 0 ke (Nat.lt_succ_self _) (Nat.zero_le _) (fun i hi => absurd hi (Nat.not_lt_zero i)) (fun _ _ => rfl) _ _ hP hD hS _ (lv_sub hl [0, 1, 2] rfl)
  · have c_11 : (pIn x 0 1) = false := b2i_0.mp c_11
    refine lv_iconst (v := -1) hx hb dX8_keep_14 (by decide) ?_
    have hpost : (-1 : Int32) = (if imOk x = true then nI N.1 else -1) ∧ (imOk x = true → (∀ k, k < 17 → (ke, kp).1 (17 * k0 + k) = sa k) ∧ (∀ i, i < 17 * k0 ∨ 17 * k0 + 17 ≤ i → (ke, kp).1 i = ke i) ∧ (ke, kp).2 = upd kp k0 1) ∧ (imOk x = false → (ke, kp).1 = ke ∧ (ke, kp).2 = kp) := by
      have e9 : imOk x = false := by rw [im_in]; exact c_11
      exact ⟨by rw [if_neg (ne_t e9)], fun h9 => absurd h9 (ne_t e9), fun _ => ⟨rfl, rfl⟩⟩
    exact hret _ (ke, kp) _ _ _ _ (hpost) (rfl) hP hD hS dX8_keep_15

abbrev rX8_back : Room := { frames := 1, cells := 0, slots := 0, locals := 22 }
set_option maxHeartbeats 4000000 in
set_option maxRecDepth 100000 in
theorem c_X8_back (l : Launch) (G : kG) (h : Nat) (v : Nat → Int32) (q : Nat → Nat) (sa : Nat → Int32) (ke : Nat → Int32) (kp : Nat → Int32) (NE : NL) (k0 : Nat) (x : Int32) (hI : ¬ kp k0 = 0 → SMr NE (fun k => ke (17 * k0 + k))) (hk0 : k0 < 2) (hx0 : imOk x = true → x = nI k0) : Ci l G yX8_back wsX8_back rX8_back [.ref h, .int x] [oB h 8 (oF8 v q), aI G (q 13) 17 sa, aI G (q 16) 34 ke, aZ G (q 17) 2 kp] (fun r (u : (Nat → Int32) × (Nat → Int32)) => r = (if imOk x = true then (if kp k0 = 0 then -2 else nI NE.1) else -1) ∧ (imOk x = true ∧ ¬ kp k0 = 0 → SMr NE u.2 ∧ u.1 15 = 0) ∧ (imOk x = false ∨ kp k0 = 0 → u.2 = sa ∧ u.1 15 = v 15) ∧ (∀ k, ¬ k = 0 → ¬ k = 15 → u.1 k = v k)) (fun u => [oB h 8 (oF8 u.1 q), aI G (q 13) 17 u.2, aI G (q 16) 34 ke, aZ G (q 17) 2 kp]) := by
  refine Ci.of (cc := cX8_back) (maxL := 3) (by decide) rfl (Nat.le_of_ble_eq_true rfl) ?_
  intro pM eM sM mM bM tM cM Q A hx hb hts hown hml hA hK hP hD hS hret ls hl
  have hown : sM.vm.findClass RX8 = some mM.cls := hown
  have hl : lv_has ls 3 [(0, .ref h), (1, .int x)] := hl
  have hin8 : ∀ w ∈ u_ws RX8 TX8 44, w ∈ wsX8_back := by decide +kernel
  have f98 := hts (.fieldLink RX8 98 "HorizonPeaksModel" "thrown" "I") (by decide +kernel)
  have f47 := hts (.fieldLink RX8 47 "HorizonPeaksModel" "isKept" "[Z") (by decide +kernel)
  have f38 := hts (.fieldLink RX8 38 "HorizonPeaksModel" "s" "[I") (by decide +kernel)
  have f44 := hts (.fieldLink RX8 44 "HorizonPeaksModel" "kept" "[I") (by decide +kernel)
  have f157 := hts (.fieldLink RX8 157 "HorizonPeaksModel" "undos" "I") (by decide +kernel)
  refine lv_aload_n hx hb dX8_back_0 rfl (lv_at hl 0 rfl) ?_
  refine lv_iconst (v := 0) hx hb dX8_back_1 (by decide) ?_
  refine va_put (D := G.1) (ci := 8) (v := .int 0) (ty := .int) (C := RX8) (T := TX8) (N := 44) hx hb hts hin8 tyX8 tyX8_ok nmX8 hown hK.1 hP hD hS 0 rfl rfl 0 (by decide) f98 (fun _ h9 => h9) rfl (by decide +kernel) rfl rfl (Nat.le_of_ble_eq_true rfl) dX8_back_2 (fun H locs hP hD hS => ?_)
  have hP : va_P G.1 vwCl [oB h 8 (oF8 (upd v 0 0) q), aI G (q 13) 17 sa, aI G (q 16) 34 ke, aZ G (q 17) 2 kp] H := hP
  have hD : va_D A [oB h 8 (oF8 (upd v 0 0) q), aI G (q 13) 17 sa, aI G (q 16) 34 ke, aZ G (q 17) 2 kp] := hD
  refine lv_iload_n hx hb dX8_back_5 rfl (lv_at hl 1 rfl) ?_
  refine lv_iconst (v := 0) hx hb dX8_back_6 (by decide) ?_
  refine lv_iconst (v := 1) hx hb dX8_back_7 (by decide) ?_
  refine rd_i (va_runS (As := [.int x, .int 0, .int 1]) (rest := []) ⟨hx, hb, hml, hown, hts⟩ (c_X8_in l G x 0 1) (va_cwS 3 hts gX8_back_X8_in rfl rfl rfl (by decide +kernel) ⟨Nat.le_of_ble_eq_true rfl, Nat.le_of_ble_eq_true rfl⟩) (rPre_S hK hP [] rfl) rfl rfl hl.1 rfl (lv_room (Nat.le_of_ble_eq_true rfl)) dX8_back_8 ⟨Nat.zero_le _, Nat.zero_le _⟩) (fun r_8 q_8 => ?_)
  obtain rfl : r_8 = b2i (pIn x 0 1) := q_8
  refine lv_if_ne (tgt := 16) hx hb dX8_back_11 (by decide) (fun c_11 => ?_) (fun c_11 => ?_)
  · have c_11 : (pIn x 0 1) = true := b2i_n0.mp c_11
    have hx9 := hx0 (by rw [im_in]; exact c_11)
    subst hx9
    refine lv_aload_n hx hb dX8_back_16 rfl (lv_at hl 0 rfl) ?_
    refine va_get (D := G.1) (ci := 8) (v := .ref (q 17)) (C := RX8) (T := TX8) (N := 44) hx hb hts hin8 hown hK.1 hP 0 rfl rfl 17 (by decide) f47 (fun _ h9 => h9) rfl dX8_back_17 ?_
    refine lv_iload_n hx hb dX8_back_20 rfl (lv_at hl 1 rfl) ?_
    refine al_z hx hb hK.1 hP 3 2 rfl rfl (j := k0) (by omega) (Nat.le_of_ble_eq_true rfl) dX8_back_21 ?_
    refine lv_if_ne (tgt := 28) hx hb dX8_back_22 (by decide) (fun c_22 => ?_) (fun c_22 => ?_)
    · refine lv_iconst (v := 0) hx hb dX8_back_28 (by decide) ?_
      refine lv_istore_n (lv' := [(2, .int 0), (0, .ref h), (1, .int (nI k0))]) hx hb dX8_back_29 rfl hl (by decide) rfl (fun ls hl => ?_)
      have loop_30 : ∀ (nF : Nat) (k : Nat) (t : Nat → Int32), (17 - k) < nF → (k ≤ 17) → (∀ i, i < k → t i = ke (17 * k0 + i)) → ∀ (H : Heap) (locs : List Loc), va_P G.1 vwCl [oB h 8 (oF8 (upd v 0 0) q), aI G (q 13) 17 t, aI G (q 16) 34 ke, aZ G (q 17) 2 kp] H → va_D A [oB h 8 (oF8 (upd v 0 0) q), aI G (q 13) 17 t, aI G (q 16) 34 ke, aZ G (q 17) 2 kp] → va_S A sM.heap H locs → ∀ (ls : Array Slot), lv_has ls 3 [(2, .int (nI k)), (0, .ref h), (1, .int (nI k0))] → W pM l eM rX8_back sM mM [.ref h, .int (nI k0)].toArray bM tM cM H locs 0 0 Q (F0 mM 30 ls []) := by
        intro nF
        induction nF with
        | zero => intro k t hmF; exact absurd hmF (Nat.not_lt_zero _)
        | succ nF ih30 =>
          intro k t hmF hk hcp H locs hP hD hS ls hl
          refine lv_iload_n hx hb dX8_back_30 rfl (lv_at hl 0 rfl) ?_
          refine lv_bipush (v := 17) hx hb dX8_back_31 (by decide) ?_
          refine lv_icmp_ge (tgt := 59) hx hb dX8_back_33 (by decide) (fun c_33 => ?_) (fun c_33 => ?_)
          · have c_33 : 17 ≤ k := (c_le (a := 17) (b := k) rfl rfl (by omega) (by omega)).mp c_33
            have hE : SMr NE t := (hI c_22).copy (fun k9 hk9 => hcp k9 (by omega))
            refine lv_aload_n hx hb dX8_back_59 rfl (lv_at hl 1 rfl) ?_
            refine lv_iconst (v := 0) hx hb dX8_back_60 (by decide) ?_
            refine va_put (D := G.1) (ci := 8) (v := .int 0) (ty := .int) (C := RX8) (T := TX8) (N := 44) hx hb hts hin8 tyX8 tyX8_ok nmX8 hown hK.1 hP hD hS 0 rfl rfl 15 (by decide) f157 (fun _ h9 => h9) rfl (by decide +kernel) rfl rfl (Nat.le_of_ble_eq_true rfl) dX8_back_61 (fun H locs hP hD hS => ?_)
            have hP : va_P G.1 vwCl [oB h 8 (oF8 (upd (upd v 0 0) 15 0) q), aI G (q 13) 17 t, aI G (q 16) 34 ke, aZ G (q 17) 2 kp] H := hP
            have hD : va_D A [oB h 8 (oF8 (upd (upd v 0 0) 15 0) q), aI G (q 13) 17 t, aI G (q 16) 34 ke, aZ G (q 17) 2 kp] := hD
            refine lv_aload_n hx hb dX8_back_64 rfl (lv_at hl 1 rfl) ?_
            refine va_get (D := G.1) (ci := 8) (v := .ref (q 13)) (C := RX8) (T := TX8) (N := 44) hx hb hts hin8 hown hK.1 hP 0 rfl rfl 13 (by decide) f38 (fun _ h9 => h9) rfl dX8_back_65 ?_
            refine lv_iconst (v := 0) hx hb dX8_back_68 (by decide) ?_
            refine top_i (y := nI 0) rfl ?_
            refine al_i hx hb hK.1 hP 1 0 rfl rfl (j := 0) (by omega) (Nat.le_of_ble_eq_true rfl) dX8_back_69 ?_
            refine top_i (y := nI NE.1) (hE.1) ?_
            have hpost : (nI NE.1 : Int32) = (if imOk (nI k0) = true then (if kp k0 = 0 then -2 else nI NE.1) else -1) ∧ (imOk (nI k0) = true ∧ ¬ kp k0 = 0 → SMr NE (upd (upd v 0 0) 15 0, t).2 ∧ (upd (upd v 0 0) 15 0, t).1 15 = 0) ∧ (imOk (nI k0) = false ∨ kp k0 = 0 → (upd (upd v 0 0) 15 0, t).2 = sa ∧ (upd (upd v 0 0) 15 0, t).1 15 = v 15) ∧ (∀ k, ¬ k = 0 → ¬ k = 15 → (upd (upd v 0 0) 15 0, t).1 k = v k) := by
              have e9 : imOk (nI k0) = true := by rw [im_in]; exact c_11
              exact ⟨by rw [if_pos e9, if_neg c_22], fun _ => ⟨hE, rfl⟩, fun h9 => h9.elim (fun e8 => absurd e9 (ne_t e8)) (fun e8 => absurd e8 c_22), fun k h0 h15 => by simp [upd, h0, h15]⟩
            exact hret _ (upd (upd v 0 0) 15 0, t) _ _ _ _ (hpost) (rfl) hP hD hS dX8_back_70
          · have c_33 : ¬ 17 ≤ k := fun hne => c_33 ((c_le (a := 17) (b := k) rfl rfl (by omega) (by omega)).mpr hne)
            refine lv_aload_n hx hb dX8_back_36 rfl (lv_at hl 1 rfl) ?_
            refine va_get (D := G.1) (ci := 8) (v := .ref (q 13)) (C := RX8) (T := TX8) (N := 44) hx hb hts hin8 hown hK.1 hP 0 rfl rfl 13 (by decide) f38 (fun _ h9 => h9) rfl dX8_back_37 ?_
            refine lv_iload_n hx hb dX8_back_40 rfl (lv_at hl 0 rfl) ?_
            refine lv_aload_n hx hb dX8_back_41 rfl (lv_at hl 1 rfl) ?_
            refine va_get (D := G.1) (ci := 8) (v := .ref (q 16)) (C := RX8) (T := TX8) (N := 44) hx hb hts hin8 hown hK.1 hP 0 rfl rfl 16 (by decide) f44 (fun _ h9 => h9) rfl dX8_back_42 ?_
            refine lv_bipush (v := 17) hx hb dX8_back_45 (by decide) ?_
            refine lv_iload_n hx hb dX8_back_47 rfl (lv_at hl 2 rfl) ?_
            refine lv_imul hx hb dX8_back_48 ?_
            refine lv_iload_n hx hb dX8_back_49 rfl (lv_at hl 0 rfl) ?_
            refine lv_iadd hx hb dX8_back_50 ?_
            refine top_i (y := nI (17 * k0 + k)) (mul17 k0 k) ?_
            refine al_i hx hb hK.1 hP 2 0 rfl rfl (j := 17 * k0 + k) (by omega) (Nat.le_of_ble_eq_true rfl) dX8_back_51 ?_
            refine as_i hx hb hK.1 hP hD hS 1 0 rfl rfl (j := k) (by omega) (Nat.le_of_ble_eq_true rfl) dX8_back_52 (fun H locs hP hD hS => ?_)
            have hP : va_P G.1 vwCl [oB h 8 (oF8 (upd v 0 0) q), aI G (q 13) 17 (upd t k (ke (17 * k0 + k))), aI G (q 16) 34 ke, aZ G (q 17) 2 kp] H := hP
            have hD : va_D A [oB h 8 (oF8 (upd v 0 0) q), aI G (q 13) 17 (upd t k (ke (17 * k0 + k))), aI G (q 16) 34 ke, aZ G (q 17) 2 kp] := hD
            refine lv_iinc (v := nI (k + 1)) (lv' := [(2, .int (nI (k + 1))), (0, .ref h), (1, .int (nI k0))]) hx hb dX8_back_53 hl (k := 0) rfl (inc_nI _ 1) (by decide) rfl (fun ls hl => ?_)
            refine lv_goto (tgt := 30) hx hb dX8_back_56 (by decide) ?_
            exact ih30 (k + 1) (upd t k (ke (17 * k0 + k))) (by omega) (by omega) (fun i hi => (Nat.lt_succ_iff_lt_or_eq.mp hi).elim (fun e => by rw [pk_un (by omega)]; exact hcp i e) (fun e => by rw [e, pk_us])) _ _ hP hD hS _ (lv_sub hl [0, 1, 2] rfl)
      exact loop_30 _ 0 sa (Nat.lt_succ_self _) (Nat.zero_le _) (fun i hi => absurd hi (Nat.not_lt_zero i)) _ _ hP hD hS _ (lv_sub hl [0, 1, 2] rfl)
    · refine lv_bipush (v := -2) hx hb dX8_back_25 (by decide) ?_
      have hpost : (-2 : Int32) = (if imOk (nI k0) = true then (if kp k0 = 0 then -2 else nI NE.1) else -1) ∧ (imOk (nI k0) = true ∧ ¬ kp k0 = 0 → SMr NE (upd v 0 0, sa).2 ∧ (upd v 0 0, sa).1 15 = 0) ∧ (imOk (nI k0) = false ∨ kp k0 = 0 → (upd v 0 0, sa).2 = sa ∧ (upd v 0 0, sa).1 15 = v 15) ∧ (∀ k, ¬ k = 0 → ¬ k = 15 → (upd v 0 0, sa).1 k = v k) := by
        have e9 : imOk (nI k0) = true := by rw [im_in]; exact c_11
        exact ⟨by rw [if_pos e9, if_pos c_22], fun h9 => absurd c_22 h9.2, fun _ => ⟨rfl, rfl⟩, fun k h0 h15 => pk_un h0⟩
      exact hret _ (upd v 0 0, sa) _ _ _ _ (hpost) (rfl) hP hD hS dX8_back_27
  · have c_11 : (pIn x 0 1) = false := b2i_0.mp c_11
    refine lv_iconst (v := -1) hx hb dX8_back_14 (by decide) ?_
    have hpost : (-1 : Int32) = (if imOk x = true then (if kp k0 = 0 then -2 else nI NE.1) else -1) ∧ (imOk x = true ∧ ¬ kp k0 = 0 → SMr NE (upd v 0 0, sa).2 ∧ (upd v 0 0, sa).1 15 = 0) ∧ (imOk x = false ∨ kp k0 = 0 → (upd v 0 0, sa).2 = sa ∧ (upd v 0 0, sa).1 15 = v 15) ∧ (∀ k, ¬ k = 0 → ¬ k = 15 → (upd v 0 0, sa).1 k = v k) := by
      have e9 : imOk x = false := by rw [im_in]; exact c_11
      exact ⟨by rw [if_neg (ne_t e9)], fun h9 => absurd h9.1 (ne_t e9), fun _ => ⟨rfl, rfl⟩, fun k h0 h15 => pk_un h0⟩
    exact hret _ (upd v 0 0, sa) _ _ _ _ (hpost) (rfl) hP hD hS dX8_back_15

abbrev rX8_count : Room := { frames := 0, cells := 0, slots := 0, locals := 0 }
set_option maxHeartbeats 4000000 in
set_option maxRecDepth 100000 in
theorem c_X8_count (l : Launch) (G : kG) (h : Nat) (v : Nat → Int32) (q : Nat → Nat) (sa : Nat → Int32) (σ : PS) (len : Nat) (nn : Nat) (cc : Nat) (U : Nat) (x : Int32) (hv1 : v 1 = nI (zn σ)) (hv5 : v 5 = nI (zm σ)) (hv8 : v 8 = nI (zl σ)) (hs0 : sa 0 = nI nn) (hv18 : v 18 = nI cc) (hv22 : v 22 = nI len) (hv15 : v 15 = nI U) : Ci l G yX8_count wsX8_count rX8_count [.ref h, .int x] [oB h 8 (oF8 v q), aI G (q 13) 17 sa] (fun r (u : Unit) => r = coR σ len nn cc U x) (fun u => [oB h 8 (oF8 (upd v 0 0) q), aI G (q 13) 17 sa]) := by
  refine Ci.of (cc := cX8_count) (maxL := 2) (by decide) rfl (Nat.le_of_ble_eq_true rfl) ?_
  intro pM eM sM mM bM tM cM Q A hx hb hts hown hml hA hK hP hD hS hret ls hl
  have hown : sM.vm.findClass RX8 = some mM.cls := hown
  have hl : lv_has ls 2 [(0, .ref h), (1, .int x)] := hl
  have hin8 : ∀ w ∈ u_ws RX8 TX8 44, w ∈ wsX8_count := by decide +kernel
  have f98 := hts (.fieldLink RX8 98 "HorizonPeaksModel" "thrown" "I") (by decide +kernel)
  have f102 := hts (.fieldLink RX8 102 "HorizonPeaksModel" "peaks" "I") (by decide +kernel)
  have f151 := hts (.fieldLink RX8 151 "HorizonPeaksModel" "ridges" "I") (by decide +kernel)
  have f154 := hts (.fieldLink RX8 154 "HorizonPeaksModel" "slack" "I") (by decide +kernel)
  have f38 := hts (.fieldLink RX8 38 "HorizonPeaksModel" "s" "[I") (by decide +kernel)
  have f160 := hts (.fieldLink RX8 160 "HorizonPeaksModel" "clouds" "I") (by decide +kernel)
  have f109 := hts (.fieldLink RX8 109 "HorizonPeaksModel" "letters" "I") (by decide +kernel)
  have f157 := hts (.fieldLink RX8 157 "HorizonPeaksModel" "undos" "I") (by decide +kernel)
  refine lv_aload_n hx hb dX8_count_0 rfl (lv_at hl 0 rfl) ?_
  refine lv_iconst (v := 0) hx hb dX8_count_1 (by decide) ?_
  refine va_put (D := G.1) (ci := 8) (v := .int 0) (ty := .int) (C := RX8) (T := TX8) (N := 44) hx hb hts hin8 tyX8 tyX8_ok nmX8 hown hK.1 hP hD hS 0 rfl rfl 0 (by decide) f98 (fun _ h9 => h9) rfl (by decide +kernel) rfl rfl (Nat.le_of_ble_eq_true rfl) dX8_count_2 (fun H locs hP hD hS => ?_)
  have hP : va_P G.1 vwCl [oB h 8 (oF8 (upd v 0 0) q), aI G (q 13) 17 sa] H := hP
  have hD : va_D A [oB h 8 (oF8 (upd v 0 0) q), aI G (q 13) 17 sa] := hD
  refine lv_iload_n hx hb dX8_count_5 rfl (lv_at hl 1 rfl) ?_
  rcases sw7 x with rfl | rfl | rfl | rfl | rfl | rfl | rfl | c_6
  · refine lv_tableIn (off := 42) (tgt := 48) hx hb dX8_count_6 (by decide) (by decide) rfl (by decide) ?_
    refine lv_aload_n hx hb dX8_count_48 rfl (lv_at hl 0 rfl) ?_
    refine va_get (D := G.1) (ci := 8) (v := .int (v 1)) (C := RX8) (T := TX8) (N := 44) hx hb hts hin8 hown hK.1 hP 0 rfl rfl 1 (by decide) f102 (fun _ h9 => h9) rfl dX8_count_49 ?_
    refine top_i (y := nI (zn σ)) (hv1) ?_
    exact hret _ () _ _ _ _ (rfl) (rfl) hP hD hS dX8_count_52
  · refine lv_tableIn (off := 47) (tgt := 53) hx hb dX8_count_6 (by decide) (by decide) rfl (by decide) ?_
    refine lv_aload_n hx hb dX8_count_53 rfl (lv_at hl 0 rfl) ?_
    refine va_get (D := G.1) (ci := 8) (v := .int (v 5)) (C := RX8) (T := TX8) (N := 44) hx hb hts hin8 hown hK.1 hP 0 rfl rfl 5 (by decide) f151 (fun _ h9 => h9) rfl dX8_count_54 ?_
    refine top_i (y := nI (zm σ)) (hv5) ?_
    exact hret _ () _ _ _ _ (rfl) (rfl) hP hD hS dX8_count_57
  · refine lv_tableIn (off := 52) (tgt := 58) hx hb dX8_count_6 (by decide) (by decide) rfl (by decide) ?_
    refine lv_aload_n hx hb dX8_count_58 rfl (lv_at hl 0 rfl) ?_
    refine va_get (D := G.1) (ci := 8) (v := .int (v 8)) (C := RX8) (T := TX8) (N := 44) hx hb hts hin8 hown hK.1 hP 0 rfl rfl 8 (by decide) f154 (fun _ h9 => h9) rfl dX8_count_59 ?_
    refine top_i (y := nI (zl σ)) (hv8) ?_
    exact hret _ () _ _ _ _ (rfl) (rfl) hP hD hS dX8_count_62
  · refine lv_tableIn (off := 57) (tgt := 63) hx hb dX8_count_6 (by decide) (by decide) rfl (by decide) ?_
    refine lv_aload_n hx hb dX8_count_63 rfl (lv_at hl 0 rfl) ?_
    refine va_get (D := G.1) (ci := 8) (v := .ref (q 13)) (C := RX8) (T := TX8) (N := 44) hx hb hts hin8 hown hK.1 hP 0 rfl rfl 13 (by decide) f38 (fun _ h9 => h9) rfl dX8_count_64 ?_
    refine lv_iconst (v := 0) hx hb dX8_count_67 (by decide) ?_
    refine top_i (y := nI 0) rfl ?_
    refine al_i hx hb hK.1 hP 1 0 rfl rfl (j := 0) (by omega) (Nat.le_of_ble_eq_true rfl) dX8_count_68 ?_
    refine top_i (y := nI nn) (hs0) ?_
    exact hret _ () _ _ _ _ (rfl) (rfl) hP hD hS dX8_count_69
  · refine lv_tableIn (off := 64) (tgt := 70) hx hb dX8_count_6 (by decide) (by decide) rfl (by decide) ?_
    refine lv_aload_n hx hb dX8_count_70 rfl (lv_at hl 0 rfl) ?_
    refine va_get (D := G.1) (ci := 8) (v := .int (v 18)) (C := RX8) (T := TX8) (N := 44) hx hb hts hin8 hown hK.1 hP 0 rfl rfl 18 (by decide) f160 (fun _ h9 => h9) rfl dX8_count_71 ?_
    refine top_i (y := nI cc) (hv18) ?_
    exact hret _ () _ _ _ _ (rfl) (rfl) hP hD hS dX8_count_74
  · refine lv_tableIn (off := 69) (tgt := 75) hx hb dX8_count_6 (by decide) (by decide) rfl (by decide) ?_
    refine lv_aload_n hx hb dX8_count_75 rfl (lv_at hl 0 rfl) ?_
    refine va_get (D := G.1) (ci := 8) (v := .int (v 22)) (C := RX8) (T := TX8) (N := 44) hx hb hts hin8 hown hK.1 hP 0 rfl rfl 22 (by decide) f109 (fun _ h9 => h9) rfl dX8_count_76 ?_
    refine top_i (y := nI len) (hv22) ?_
    exact hret _ () _ _ _ _ (rfl) (rfl) hP hD hS dX8_count_79
  · refine lv_tableIn (off := 74) (tgt := 80) hx hb dX8_count_6 (by decide) (by decide) rfl (by decide) ?_
    refine lv_aload_n hx hb dX8_count_80 rfl (lv_at hl 0 rfl) ?_
    refine va_get (D := G.1) (ci := 8) (v := .int (v 15)) (C := RX8) (T := TX8) (N := 44) hx hb hts hin8 hown hK.1 hP 0 rfl rfl 15 (by decide) f157 (fun _ h9 => h9) rfl dX8_count_81 ?_
    refine top_i (y := nI U) (hv15) ?_
    exact hret _ () _ _ _ _ (rfl) (rfl) hP hD hS dX8_count_84
  · refine lv_tableOut (tgt := 85) hx hb dX8_count_6 c_6 (by decide) ?_
    refine lv_iconst (v := -1) hx hb dX8_count_85 (by decide) ?_
    have hpost : (-1 : Int32) = coR σ len nn cc U x := by
      obtain ⟨n0, n1, n2, n3, n4, n5, n6⟩ := sw7_ne c_6
      simp [coR, n0, n1, n2, n3, n4, n5, n6]
    exact hret _ () _ _ _ _ (hpost) (rfl) hP hD hS dX8_count_86
