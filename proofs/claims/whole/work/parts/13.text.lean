/-! the text's tokens -/
def tskF (tx : Nat → Int32) (len : Nat) : Nat → Nat → Nat
  | 0, i => i
  | f + 1, i => if i < len ∧ tx i = 32 then tskF tx len f (i + 1) else i
def tsk (tx : Nat → Int32) (len i : Nat) : Nat := tskF tx len (len - i) i
theorem tsk_step {tx : Nat → Int32} {len i : Nat} (h : i < len) (h2 : tx i = 32) : tsk tx len i = tsk tx len (i + 1) := by
  unfold tsk
  obtain ⟨d, hd⟩ : ∃ d, len - i = d + 1 := ⟨len - i - 1, by omega⟩
  rw [hd, show len - (i + 1) = d by omega, tskF, if_pos ⟨h, h2⟩]
theorem tsk_stop {tx : Nat → Int32} {len i : Nat} (h : ¬ (i < len ∧ tx i = 32)) : tsk tx len i = i := by
  unfold tsk
  cases hd : len - i with
  | zero => rfl
  | succ d => rw [tskF, if_neg h]
def teF (tx : Nat → Int32) (len : Nat) : Nat → Nat → Nat
  | 0, i => i
  | f + 1, i => if i < len ∧ pFig (tx i) = true then teF tx len f (i + 1) else i
def te (tx : Nat → Int32) (len i : Nat) : Nat := teF tx len (len - i) i
theorem te_step {tx : Nat → Int32} {len i : Nat} (h : i < len) (h2 : pFig (tx i) = true) : te tx len i = te tx len (i + 1) := by
  unfold te
  obtain ⟨d, hd⟩ : ∃ d, len - i = d + 1 := ⟨len - i - 1, by omega⟩
  rw [hd, show len - (i + 1) = d by omega, teF, if_pos ⟨h, h2⟩]
theorem te_stop {tx : Nat → Int32} {len i : Nat} (h : ¬ (i < len ∧ pFig (tx i) = true)) : te tx len i = i := by
  unfold te
  cases hd : len - i with
  | zero => rfl
  | succ d => rw [teF, if_neg h]
def dg (x : Int32) : Nat := x.toNatClampNeg - 48
def tvF (tx : Nat → Int32) (len : Nat) : Nat → Nat → Nat → Nat
  | 0, _, a => a
  | f + 1, i, a => if i < len ∧ pFig (tx i) = true then tvF tx len f (i + 1) (min (a * 10 + dg (tx i)) 100) else a
def tv (tx : Nat → Int32) (len i a : Nat) : Nat := tvF tx len (len - i) i a
theorem tv_step {tx : Nat → Int32} {len i a : Nat} (h : i < len) (h2 : pFig (tx i) = true) : tv tx len i a = tv tx len (i + 1) (min (a * 10 + dg (tx i)) 100) := by
  unfold tv
  obtain ⟨d, hd⟩ : ∃ d, len - i = d + 1 := ⟨len - i - 1, by omega⟩
  rw [hd, show len - (i + 1) = d by omega, tvF, if_pos ⟨h, h2⟩]
theorem tv_stop {tx : Nat → Int32} {len i a : Nat} (h : ¬ (i < len ∧ pFig (tx i) = true)) : tv tx len i a = a := by
  unfold tv
  cases hd : len - i with
  | zero => rfl
  | succ d => rw [tvF, if_neg h]
theorem pFig_of {x : Int32} (h : pFig x = true) : ∃ d : Nat, d ≤ 9 ∧ x = nI (48 + d) := by
  simp only [pFig, Bool.and_eq_true, Bool.not_eq_true', decide_eq_false_iff_not] at h
  have h1 : ¬ x.toInt < 48 := fun q => h.1 (Int32.lt_iff_toInt_lt.mpr q)
  have h0 : ¬ x < 0 := fun q => by
    have h2 : x.toInt < 0 := Int32.lt_iff_toInt_lt.mp q
    omega
  obtain ⟨j, hj, rfl⟩ := nI_of h0
  have h3 : ¬ j < 48 := fun q => h.1 ((c_lt (b := 48) rfl rfl (by omega) (by omega)).mpr q)
  have h4 : ¬ 57 < j := fun q => h.2 ((c_lt (a := 57) rfl rfl (by omega) (by omega)).mpr q)
  exact ⟨j - 48, by omega, by rw [show 48 + (j - 48) = j by omega]⟩
theorem dg_of {d : Nat} (h : d ≤ 9) : dg (nI (48 + d)) = d := by rw [dg, nI_clamp (by omega)]; omega
theorem fig_val {x : Int32} {a : Nat} (h : pFig x = true) (ha : a ≤ 100) : imin (nI a * 10 + x - 48) 100 = nI (min (a * 10 + dg x) 100) := by
  obtain ⟨d, hd, rfl⟩ := pFig_of h
  rw [dg_of hd, show (10 : Int32) = nI 10 from rfl, show (48 : Int32) = nI 48 from rfl, show (100 : Int32) = nI 100 from rfl, pk_mul, nI_add, pk_sub (by omega), imin]
  rw [show a * 10 + (48 + d) - 48 = a * 10 + d by omega]
  by_cases hh : 100 < a * 10 + d
  · rw [if_pos (nI_lt hh (by omega)), Nat.min_eq_right (by omega)]
  · rw [if_neg (nI_nlt (by omega) (by omega)), Nat.min_eq_left (by omega)]
def tkn (tx : Nat → Int32) (len s : Nat) : Int32 := if (tx s = 48 ∧ 1 < te tx len s - s) ∨ 99 < tv tx len s 0 then -3 else -2
def tkS (tx : Nat → Int32) (len i : Nat) : Nat := tsk tx len i
def tkE (tx : Nat → Int32) (len i : Nat) : Nat := if len ≤ tsk tx len i then tsk tx len i else if pFig (tx (tsk tx len i)) then te tx len (tsk tx len i) else tsk tx len i + 1
def tkK (tx : Nat → Int32) (len i : Nat) : Int32 := if len ≤ tsk tx len i then -1 else if pFig (tx (tsk tx len i)) then tkn tx len (tsk tx len i) else if tx (tsk tx len i) = 112 ∨ tx (tsk tx len i) = 114 ∨ tx (tsk tx len i) = 115 ∨ tx (tsk tx len i) = 59 then tx (tsk tx len i) else -3
def tkV (tx : Nat → Int32) (len i : Nat) : Nat := tv tx len (tsk tx len i) 0
theorem tk_end {tx : Nat → Int32} {len i j : Nat} (hs : tsk tx len i = j) (h : len ≤ j) : tkS tx len i = j ∧ tkE tx len i = j ∧ tkK tx len i = -1 := by
  subst hs
  exact ⟨rfl, by rw [tkE, if_pos h], by rw [tkK, if_pos h]⟩
theorem tk_let {tx : Nat → Int32} {len i j : Nat} (hs : tsk tx len i = j) (h : j < len) (hf : pFig (tx j) = false) : tkS tx len i = j ∧ tkE tx len i = j + 1 ∧ tkK tx len i = (if tx j = 112 ∨ tx j = 114 ∨ tx j = 115 ∨ tx j = 59 then tx j else -3) := by
  subst hs
  have h' : ¬ len ≤ tsk tx len i := by omega
  exact ⟨rfl, by rw [tkE, if_neg h', if_neg (by rw [hf]; decide)], by rw [tkK, if_neg h', if_neg (by rw [hf]; decide)]⟩
theorem tk_fig {tx : Nat → Int32} {len i j : Nat} (hs : tsk tx len i = j) (h : j < len) (hf : pFig (tx j) = true) : tkS tx len i = j ∧ tkE tx len i = te tx len j ∧ tkK tx len i = tkn tx len j ∧ tkV tx len i = tv tx len j 0 := by
  subst hs
  have h' : ¬ len ≤ tsk tx len i := by omega
  exact ⟨rfl, by rw [tkE, if_neg h', if_pos hf], by rw [tkK, if_neg h', if_pos hf], rfl⟩
theorem tsk_ge {tx : Nat → Int32} {len : Nat} : ∀ (d i : Nat), len - i = d → i ≤ tsk tx len i
  | 0, i, h => by rw [tsk, h]; exact Nat.le_refl i
  | d + 1, i, h => by
    by_cases hc : i < len ∧ tx i = 32
    · rw [tsk_step hc.1 hc.2]
      have := tsk_ge (tx := tx) (len := len) d (i + 1) (by omega)
      omega
    · rw [tsk_stop hc]; exact Nat.le_refl i
theorem tsk_le {tx : Nat → Int32} {len : Nat} : ∀ (d i : Nat), len - i = d → i ≤ len → tsk tx len i ≤ len
  | 0, i, h, hi => by rw [tsk, h]; exact hi
  | d + 1, i, h, hi => by
    by_cases hc : i < len ∧ tx i = 32
    · rw [tsk_step hc.1 hc.2]
      exact tsk_le (tx := tx) (len := len) d (i + 1) (by omega) (by omega)
    · rw [tsk_stop hc]; exact hi
theorem te_ge {tx : Nat → Int32} {len : Nat} : ∀ (d i : Nat), len - i = d → i ≤ te tx len i
  | 0, i, h => by rw [te, h]; exact Nat.le_refl i
  | d + 1, i, h => by
    by_cases hc : i < len ∧ pFig (tx i) = true
    · rw [te_step hc.1 hc.2]
      have := te_ge (tx := tx) (len := len) d (i + 1) (by omega)
      omega
    · rw [te_stop hc]; exact Nat.le_refl i
theorem te_le {tx : Nat → Int32} {len : Nat} : ∀ (d i : Nat), len - i = d → i ≤ len → te tx len i ≤ len
  | 0, i, h, hi => by rw [te, h]; exact hi
  | d + 1, i, h, hi => by
    by_cases hc : i < len ∧ pFig (tx i) = true
    · rw [te_step hc.1 hc.2]
      exact te_le (tx := tx) (len := len) d (i + 1) (by omega) (by omega)
    · rw [te_stop hc]; exact hi
theorem tv_le {tx : Nat → Int32} {len : Nat} : ∀ (d i a : Nat), len - i = d → a ≤ 100 → tv tx len i a ≤ 100
  | 0, i, a, h, ha => by rw [tv, h]; exact ha
  | d + 1, i, a, h, ha => by
    by_cases hc : i < len ∧ pFig (tx i) = true
    · rw [tv_step hc.1 hc.2]
      exact tv_le (tx := tx) (len := len) d (i + 1) _ (by omega) (Nat.min_le_right _ _)
    · rw [tv_stop hc]; exact ha
theorem tkV_le (tx : Nat → Int32) (len i : Nat) : tkV tx len i ≤ 100 := tv_le _ _ _ rfl (by omega)
theorem tk_le {tx : Nat → Int32} {len i : Nat} (h : i ≤ len) : i ≤ tkS tx len i ∧ tkS tx len i ≤ tkE tx len i ∧ tkE tx len i ≤ len := by
  have h1 := tsk_ge (tx := tx) (len := len) _ i rfl
  have h2 := tsk_le (tx := tx) (len := len) _ i rfl h
  refine ⟨h1, ?_⟩
  unfold tkS tkE
  split
  · exact ⟨Nat.le_refl _, h2⟩
  · split
    · exact ⟨te_ge _ _ rfl, te_le _ _ rfl h2⟩
    · omega
theorem tk_lt {tx : Nat → Int32} {len i : Nat} (h : i ≤ len) (hk : ¬ tkK tx len i = -1) : i < tkE tx len i := by
  have h1 := tsk_ge (tx := tx) (len := len) _ i rfl
  have h2 := tsk_le (tx := tx) (len := len) _ i rfl h
  have h3 : ¬ len ≤ tsk tx len i := fun q => hk (by rw [tkK, if_pos q])
  unfold tkE
  rw [if_neg h3]
  split
  · rename_i hf
    rw [te_step (by omega) hf]
    have := te_ge (tx := tx) (len := len) _ (tsk tx len i + 1) rfl
    omega
  · omega
theorem u3 {v : Nat → Int32} {a : Int32} {k j : Nat} {b : Int32} (h : k ≠ j) (e : v j = b) : upd v k a j = b := by rw [pk_un (Ne.symm h)]; exact e
def tN (tx : Nat → Int32) (len i : Nat) (lo hi : Int32) : Bool := decide (tkK tx len i = -2) && (!decide (nI (tkV tx len i) < lo) && !decide (hi < nI (tkV tx len i)))
abbrev rX5_takeFigures : Room := { frames := 1, cells := 0, slots := 0, locals := 21 }
set_option maxHeartbeats 4000000 in
set_option maxRecDepth 100000 in
theorem c_X5_takeFigures (l : Launch) (G : kG) (h : Nat) (v : Nat → Int32) (q : Nat → Nat) (tx : Nat → Int32) (len : Nat) (s0 : Nat) (hv1 : v 1 = nI len) (hlen : len ≤ 140) (hv2 : v 2 = nI s0) (hv3 : v 3 = nI s0) (hs0 : s0 < len) : Cv l G yX5_takeFigures wsX5_takeFigures rX5_takeFigures [.ref h] [oB h 5 (oF5 v q), aI G (q 0) 140 tx] (fun (u : Nat → Int32) => u 1 = nI len ∧ u 2 = nI s0 ∧ u 3 = nI (te tx len s0) ∧ u 4 = tkn tx len s0 ∧ u 5 = nI (tv tx len s0 0)) (fun u => [oB h 5 (oF5 u q), aI G (q 0) 140 tx]) 0 0 := by
  refine Cv.of (cc := cX5_takeFigures) (maxL := 2) (by decide) rfl (Nat.le_of_ble_eq_true rfl) ?_
  intro pM eM sM mM bM tM cM Q A hx hb hts hown hml hnm hA hK hP hD hS hret ls hl
  have hown : sM.vm.findClass RX5 = some mM.cls := hown
  have hl : lv_has ls 2 [(0, .ref h)] := hl
  have hin5 : ∀ w ∈ u_ws RX5 TX5 6, w ∈ wsX5_takeFigures := by decide +kernel
  have f53 := hts (.fieldLink RX5 53 "HorizonPeaks$Text" "value" "I") (by decide +kernel)
  have f24 := hts (.fieldLink RX5 24 "HorizonPeaks$Text" "behind" "I") (by decide +kernel)
  have f15 := hts (.fieldLink RX5 15 "HorizonPeaks$Text" "length" "I") (by decide +kernel)
  have f9 := hts (.fieldLink RX5 9 "HorizonPeaks$Text" "letters" "[I") (by decide +kernel)
  have f43 := hts (.fieldLink RX5 43 "HorizonPeaks$Text" "start" "I") (by decide +kernel)
  have f30 := hts (.fieldLink RX5 30 "HorizonPeaks$Text" "kind" "I") (by decide +kernel)
  refine lv_aload_n hx hb dX5_takeFigures_0 rfl (lv_at hl 0 rfl) ?_
  refine lv_iconst (v := 0) hx hb dX5_takeFigures_1 (by decide) ?_
  refine va_put (D := G.1) (ci := 5) (v := .int 0) (ty := .int) (C := RX5) (T := TX5) (N := 6) hx hb hts hin5 tyX5 tyX5_ok nmX5 hown hK.1 hP hD hS 0 rfl rfl 5 (by decide) f53 (fun _ h9 => h9) rfl (by decide +kernel) rfl rfl (Nat.le_of_ble_eq_true rfl) dX5_takeFigures_2 (fun H locs hP hD hS => ?_)
  have hP : va_P G.1 vwCl [oB h 5 (oF5 (upd v 5 0) q), aI G (q 0) 140 tx] H := hP
  have hD : va_D A [oB h 5 (oF5 (upd v 5 0) q), aI G (q 0) 140 tx] := hD
  have loop_5 : ∀ (nF : Nat) (w : Nat → Int32) (e : Nat) (a : Nat), (len - e) < nF → (s0 ≤ e ∧ e ≤ len) → (a ≤ 100) → (te tx len e = te tx len s0) → (tv tx len e a = tv tx len s0 0) → (w 1 = nI len) → (w 2 = nI s0) → (w 3 = nI e) → (w 5 = nI a) → ∀ (H : Heap) (locs : List Loc), va_P G.1 vwCl [oB h 5 (oF5 w q), aI G (q 0) 140 tx] H → va_D A [oB h 5 (oF5 w q), aI G (q 0) 140 tx] → va_S A sM.heap H locs → ∀ (ls : Array Slot), lv_has ls 2 [(0, .ref h)] → W pM l eM rX5_takeFigures sM mM [.ref h].toArray bM tM cM H locs 0 0 Q (F0 mM 5 ls []) := by
    intro nF
    induction nF with
    | zero => intro w e a hmF; exact absurd hmF (Nat.not_lt_zero _)
    | succ nF ih5 =>
      intro w e a hmF he ha hte htv hw1 hw2 hw3 hw5 H locs hP hD hS ls hl
      refine lv_aload_n hx hb dX5_takeFigures_5 rfl (lv_at hl 0 rfl) ?_
      refine va_get (D := G.1) (ci := 5) (v := .int (w 3)) (C := RX5) (T := TX5) (N := 6) hx hb hts hin5 hown hK.1 hP 0 rfl rfl 3 (by decide) f24 (fun _ h9 => h9) rfl dX5_takeFigures_6 ?_
      refine top_i (y := nI e) (hw3) ?_
      refine lv_aload_n hx hb dX5_takeFigures_9 rfl (lv_at hl 0 rfl) ?_
      refine va_get (D := G.1) (ci := 5) (v := .int (w 1)) (C := RX5) (T := TX5) (N := 6) hx hb hts hin5 hown hK.1 hP 0 rfl rfl 1 (by decide) f15 (fun _ h9 => h9) rfl dX5_takeFigures_10 ?_
      refine top_i (y := nI len) (hw1) ?_
      refine lv_icmp_ge (tgt := 73) hx hb dX5_takeFigures_13 (by decide) (fun c_13 => ?_) (fun c_13 => ?_)
      · have c_13 : len ≤ e := (c_le (a := len) (b := e) rfl rfl (by omega) (by omega)).mp c_13
        refine lv_aload_n hx hb dX5_takeFigures_73 rfl (lv_at hl 0 rfl) ?_
        refine va_get (D := G.1) (ci := 5) (v := .ref (q 0)) (C := RX5) (T := TX5) (N := 6) hx hb hts hin5 hown hK.1 hP 0 rfl rfl 0 (by decide) f9 (fun _ h9 => h9) rfl dX5_takeFigures_74 ?_
        refine lv_aload_n hx hb dX5_takeFigures_77 rfl (lv_at hl 0 rfl) ?_
        refine va_get (D := G.1) (ci := 5) (v := .int (w 2)) (C := RX5) (T := TX5) (N := 6) hx hb hts hin5 hown hK.1 hP 0 rfl rfl 2 (by decide) f43 (fun _ h9 => h9) rfl dX5_takeFigures_78 ?_
        refine top_i (y := nI s0) (hw2) ?_
        refine al_i hx hb hK.1 hP 1 0 rfl rfl (j := s0) (by omega) (Nat.le_of_ble_eq_true rfl) dX5_takeFigures_81 ?_
        refine lv_bipush (v := 48) hx hb dX5_takeFigures_82 (by decide) ?_
        refine lv_icmp_ne (tgt := 104) hx hb dX5_takeFigures_84 (by decide) (fun c_84 => ?_) (fun c_84 => ?_)
        · refine lv_iconst (v := 0) hx hb dX5_takeFigures_104 (by decide) ?_
          refine lv_istore_n (lv' := [(1, .int 0), (0, .ref h)]) hx hb dX5_takeFigures_105 rfl hl (by decide) rfl (fun ls hl => ?_)
          refine lv_aload_n hx hb dX5_takeFigures_106 rfl (lv_at hl 1 rfl) ?_
          refine lv_iload_n hx hb dX5_takeFigures_107 rfl (lv_at hl 0 rfl) ?_
          refine lv_if_ne (tgt := 120) hx hb dX5_takeFigures_108 (by decide) (fun c_108 => ?_) (fun c_108 => ?_)
          · exfalso
            revert c_108
            decide
          · refine lv_aload_n hx hb dX5_takeFigures_111 rfl (lv_at hl 1 rfl) ?_
            refine va_get (D := G.1) (ci := 5) (v := .int (w 5)) (C := RX5) (T := TX5) (N := 6) hx hb hts hin5 hown hK.1 hP 0 rfl rfl 5 (by decide) f53 (fun _ h9 => h9) rfl dX5_takeFigures_112 ?_
            refine top_i (y := nI a) (hw5) ?_
            refine lv_bipush (v := 99) hx hb dX5_takeFigures_115 (by decide) ?_
            refine lv_icmp_le (tgt := 125) hx hb dX5_takeFigures_117 (by decide) (fun c_117 => ?_) (fun c_117 => ?_)
            · have c_117 : a ≤ 99 := (c_le (a := a) (b := 99) rfl rfl (by omega) (by omega)).mp c_117
              refine lv_bipush (v := -2) hx hb dX5_takeFigures_125 (by decide) ?_
              refine va_put (D := G.1) (ci := 5) (v := .int (-2)) (ty := .int) (C := RX5) (T := TX5) (N := 6) hx hb hts hin5 tyX5 tyX5_ok nmX5 hown hK.1 hP hD hS 0 rfl rfl 4 (by decide) f30 (fun _ h9 => h9) rfl (by decide +kernel) rfl rfl (Nat.le_of_ble_eq_true rfl) dX5_takeFigures_127 (fun H locs hP hD hS => ?_)
              have hP : va_P G.1 vwCl [oB h 5 (oF5 (upd w 4 (-2)) q), aI G (q 0) 140 tx] H := hP
              have hD : va_D A [oB h 5 (oF5 (upd w 4 (-2)) q), aI G (q 0) 140 tx] := hD
              have hpost : (upd w 4 (-2)) 1 = nI len ∧ (upd w 4 (-2)) 2 = nI s0 ∧ (upd w 4 (-2)) 3 = nI (te tx len s0) ∧ (upd w 4 (-2)) 4 = tkn tx len s0 ∧ (upd w 4 (-2)) 5 = nI (tv tx len s0 0) := by
                rw [te_stop (fun h => absurd h.1 (by omega))] at hte
                rw [tv_stop (fun h => absurd h.1 (by omega))] at htv
                refine ⟨hw1, hw2, ?_, ?_, ?_⟩
                · rw [← hte]; exact hw3
                · rw [tkn, ← hte, ← htv]
                  first
                  | exact (if_pos (Or.inr (by omega))).symm
                  | exact (if_pos (Or.inl ⟨c_84, by omega⟩)).symm
                  | exact (if_neg (fun h => Or.elim h (fun q => absurd q.1 c_84) (fun q => by omega))).symm
                  | exact (if_neg (fun h => Or.elim h (fun q => absurd q.2 (by omega)) (fun q => by omega))).symm
                · rw [← htv]; exact hw5
              exact hret (upd w 4 (-2)) _ _ _ _ (hpost) hP hD hS dX5_takeFigures_130
            · have c_117 : ¬ a ≤ 99 := fun hne => c_117 ((c_le (a := a) (b := 99) rfl rfl (by omega) (by omega)).mpr hne)
              refine lv_bipush (v := -3) hx hb dX5_takeFigures_120 (by decide) ?_
              refine lv_goto (tgt := 127) hx hb dX5_takeFigures_122 (by decide) ?_
              refine va_put (D := G.1) (ci := 5) (v := .int (-3)) (ty := .int) (C := RX5) (T := TX5) (N := 6) hx hb hts hin5 tyX5 tyX5_ok nmX5 hown hK.1 hP hD hS 0 rfl rfl 4 (by decide) f30 (fun _ h9 => h9) rfl (by decide +kernel) rfl rfl (Nat.le_of_ble_eq_true rfl) dX5_takeFigures_127 (fun H locs hP hD hS => ?_)
              have hP : va_P G.1 vwCl [oB h 5 (oF5 (upd w 4 (-3)) q), aI G (q 0) 140 tx] H := hP
              have hD : va_D A [oB h 5 (oF5 (upd w 4 (-3)) q), aI G (q 0) 140 tx] := hD
              have hpost : (upd w 4 (-3)) 1 = nI len ∧ (upd w 4 (-3)) 2 = nI s0 ∧ (upd w 4 (-3)) 3 = nI (te tx len s0) ∧ (upd w 4 (-3)) 4 = tkn tx len s0 ∧ (upd w 4 (-3)) 5 = nI (tv tx len s0 0) := by
                rw [te_stop (fun h => absurd h.1 (by omega))] at hte
                rw [tv_stop (fun h => absurd h.1 (by omega))] at htv
                refine ⟨hw1, hw2, ?_, ?_, ?_⟩
                · rw [← hte]; exact hw3
                · rw [tkn, ← hte, ← htv]
                  first
                  | exact (if_pos (Or.inr (by omega))).symm
                  | exact (if_pos (Or.inl ⟨c_84, by omega⟩)).symm
                  | exact (if_neg (fun h => Or.elim h (fun q => absurd q.1 c_84) (fun q => by omega))).symm
                  | exact (if_neg (fun h => Or.elim h (fun q => absurd q.2 (by omega)) (fun q => by omega))).symm
                · rw [← htv]; exact hw5
              exact hret (upd w 4 (-3)) _ _ _ _ (hpost) hP hD hS dX5_takeFigures_130
        · refine lv_aload_n hx hb dX5_takeFigures_87 rfl (lv_at hl 0 rfl) ?_
          refine va_get (D := G.1) (ci := 5) (v := .int (w 3)) (C := RX5) (T := TX5) (N := 6) hx hb hts hin5 hown hK.1 hP 0 rfl rfl 3 (by decide) f24 (fun _ h9 => h9) rfl dX5_takeFigures_88 ?_
          refine top_i (y := nI e) (hw3) ?_
          refine lv_aload_n hx hb dX5_takeFigures_91 rfl (lv_at hl 0 rfl) ?_
          refine va_get (D := G.1) (ci := 5) (v := .int (w 2)) (C := RX5) (T := TX5) (N := 6) hx hb hts hin5 hown hK.1 hP 0 rfl rfl 2 (by decide) f43 (fun _ h9 => h9) rfl dX5_takeFigures_92 ?_
          refine top_i (y := nI s0) (hw2) ?_
          refine lv_isub hx hb dX5_takeFigures_95 ?_
          refine top_i (y := nI (e - s0)) (pk_sub (by omega)) ?_
          refine lv_iconst (v := 1) hx hb dX5_takeFigures_96 (by decide) ?_
          refine lv_icmp_le (tgt := 104) hx hb dX5_takeFigures_97 (by decide) (fun c_97 => ?_) (fun c_97 => ?_)
          · have c_97 : (e - s0) ≤ 1 := (c_le (a := e - s0) (b := 1) rfl rfl (by omega) (by omega)).mp c_97
            refine lv_iconst (v := 0) hx hb dX5_takeFigures_104 (by decide) ?_
            refine lv_istore_n (lv' := [(1, .int 0), (0, .ref h)]) hx hb dX5_takeFigures_105 rfl hl (by decide) rfl (fun ls hl => ?_)
            refine lv_aload_n hx hb dX5_takeFigures_106 rfl (lv_at hl 1 rfl) ?_
            refine lv_iload_n hx hb dX5_takeFigures_107 rfl (lv_at hl 0 rfl) ?_
            refine lv_if_ne (tgt := 120) hx hb dX5_takeFigures_108 (by decide) (fun c_108 => ?_) (fun c_108 => ?_)
            · exfalso
              revert c_108
              decide
            · refine lv_aload_n hx hb dX5_takeFigures_111 rfl (lv_at hl 1 rfl) ?_
              refine va_get (D := G.1) (ci := 5) (v := .int (w 5)) (C := RX5) (T := TX5) (N := 6) hx hb hts hin5 hown hK.1 hP 0 rfl rfl 5 (by decide) f53 (fun _ h9 => h9) rfl dX5_takeFigures_112 ?_
              refine top_i (y := nI a) (hw5) ?_
              refine lv_bipush (v := 99) hx hb dX5_takeFigures_115 (by decide) ?_
              refine lv_icmp_le (tgt := 125) hx hb dX5_takeFigures_117 (by decide) (fun c_117 => ?_) (fun c_117 => ?_)
              · have c_117 : a ≤ 99 := (c_le (a := a) (b := 99) rfl rfl (by omega) (by omega)).mp c_117
                refine lv_bipush (v := -2) hx hb dX5_takeFigures_125 (by decide) ?_
                refine va_put (D := G.1) (ci := 5) (v := .int (-2)) (ty := .int) (C := RX5) (T := TX5) (N := 6) hx hb hts hin5 tyX5 tyX5_ok nmX5 hown hK.1 hP hD hS 0 rfl rfl 4 (by decide) f30 (fun _ h9 => h9) rfl (by decide +kernel) rfl rfl (Nat.le_of_ble_eq_true rfl) dX5_takeFigures_127 (fun H locs hP hD hS => ?_)
                have hP : va_P G.1 vwCl [oB h 5 (oF5 (upd w 4 (-2)) q), aI G (q 0) 140 tx] H := hP
                have hD : va_D A [oB h 5 (oF5 (upd w 4 (-2)) q), aI G (q 0) 140 tx] := hD
                have hpost : (upd w 4 (-2)) 1 = nI len ∧ (upd w 4 (-2)) 2 = nI s0 ∧ (upd w 4 (-2)) 3 = nI (te tx len s0) ∧ (upd w 4 (-2)) 4 = tkn tx len s0 ∧ (upd w 4 (-2)) 5 = nI (tv tx len s0 0) := by
                  rw [te_stop (fun h => absurd h.1 (by omega))] at hte
                  rw [tv_stop (fun h => absurd h.1 (by omega))] at htv
                  refine ⟨hw1, hw2, ?_, ?_, ?_⟩
                  · rw [← hte]; exact hw3
                  · rw [tkn, ← hte, ← htv]
                    first
                    | exact (if_pos (Or.inr (by omega))).symm
                    | exact (if_pos (Or.inl ⟨c_84, by omega⟩)).symm
                    | exact (if_neg (fun h => Or.elim h (fun q => absurd q.1 c_84) (fun q => by omega))).symm
                    | exact (if_neg (fun h => Or.elim h (fun q => absurd q.2 (by omega)) (fun q => by omega))).symm
                  · rw [← htv]; exact hw5
                exact hret (upd w 4 (-2)) _ _ _ _ (hpost) hP hD hS dX5_takeFigures_130
              · have c_117 : ¬ a ≤ 99 := fun hne => c_117 ((c_le (a := a) (b := 99) rfl rfl (by omega) (by omega)).mpr hne)
                refine lv_bipush (v := -3) hx hb dX5_takeFigures_120 (by decide) ?_
                refine lv_goto (tgt := 127) hx hb dX5_takeFigures_122 (by decide) ?_
                refine va_put (D := G.1) (ci := 5) (v := .int (-3)) (ty := .int) (C := RX5) (T := TX5) (N := 6) hx hb hts hin5 tyX5 tyX5_ok nmX5 hown hK.1 hP hD hS 0 rfl rfl 4 (by decide) f30 (fun _ h9 => h9) rfl (by decide +kernel) rfl rfl (Nat.le_of_ble_eq_true rfl) dX5_takeFigures_127 (fun H locs hP hD hS => ?_)
                have hP : va_P G.1 vwCl [oB h 5 (oF5 (upd w 4 (-3)) q), aI G (q 0) 140 tx] H := hP
                have hD : va_D A [oB h 5 (oF5 (upd w 4 (-3)) q), aI G (q 0) 140 tx] := hD
                have hpost : (upd w 4 (-3)) 1 = nI len ∧ (upd w 4 (-3)) 2 = nI s0 ∧ (upd w 4 (-3)) 3 = nI (te tx len s0) ∧ (upd w 4 (-3)) 4 = tkn tx len s0 ∧ (upd w 4 (-3)) 5 = nI (tv tx len s0 0) := by
                  rw [te_stop (fun h => absurd h.1 (by omega))] at hte
                  rw [tv_stop (fun h => absurd h.1 (by omega))] at htv
                  refine ⟨hw1, hw2, ?_, ?_, ?_⟩
                  · rw [← hte]; exact hw3
                  · rw [tkn, ← hte, ← htv]
                    first
                    | exact (if_pos (Or.inr (by omega))).symm
                    | exact (if_pos (Or.inl ⟨c_84, by omega⟩)).symm
                    | exact (if_neg (fun h => Or.elim h (fun q => absurd q.1 c_84) (fun q => by omega))).symm
                    | exact (if_neg (fun h => Or.elim h (fun q => absurd q.2 (by omega)) (fun q => by omega))).symm
                  · rw [← htv]; exact hw5
                exact hret (upd w 4 (-3)) _ _ _ _ (hpost) hP hD hS dX5_takeFigures_130
          · have c_97 : ¬ (e - s0) ≤ 1 := fun hne => c_97 ((c_le (a := e - s0) (b := 1) rfl rfl (by omega) (by omega)).mpr hne)
            refine lv_iconst (v := 1) hx hb dX5_takeFigures_100 (by decide) ?_
            refine lv_goto (tgt := 105) hx hb dX5_takeFigures_101 (by decide) ?_
            refine lv_istore_n (lv' := [(1, .int 1), (0, .ref h)]) hx hb dX5_takeFigures_105 rfl hl (by decide) rfl (fun ls hl => ?_)
            refine lv_aload_n hx hb dX5_takeFigures_106 rfl (lv_at hl 1 rfl) ?_
            refine lv_iload_n hx hb dX5_takeFigures_107 rfl (lv_at hl 0 rfl) ?_
            refine lv_if_ne (tgt := 120) hx hb dX5_takeFigures_108 (by decide) (fun c_108 => ?_) (fun c_108 => ?_)
            · refine lv_bipush (v := -3) hx hb dX5_takeFigures_120 (by decide) ?_
              refine lv_goto (tgt := 127) hx hb dX5_takeFigures_122 (by decide) ?_
              refine va_put (D := G.1) (ci := 5) (v := .int (-3)) (ty := .int) (C := RX5) (T := TX5) (N := 6) hx hb hts hin5 tyX5 tyX5_ok nmX5 hown hK.1 hP hD hS 0 rfl rfl 4 (by decide) f30 (fun _ h9 => h9) rfl (by decide +kernel) rfl rfl (Nat.le_of_ble_eq_true rfl) dX5_takeFigures_127 (fun H locs hP hD hS => ?_)
              have hP : va_P G.1 vwCl [oB h 5 (oF5 (upd w 4 (-3)) q), aI G (q 0) 140 tx] H := hP
              have hD : va_D A [oB h 5 (oF5 (upd w 4 (-3)) q), aI G (q 0) 140 tx] := hD
              have hpost : (upd w 4 (-3)) 1 = nI len ∧ (upd w 4 (-3)) 2 = nI s0 ∧ (upd w 4 (-3)) 3 = nI (te tx len s0) ∧ (upd w 4 (-3)) 4 = tkn tx len s0 ∧ (upd w 4 (-3)) 5 = nI (tv tx len s0 0) := by
                rw [te_stop (fun h => absurd h.1 (by omega))] at hte
                rw [tv_stop (fun h => absurd h.1 (by omega))] at htv
                refine ⟨hw1, hw2, ?_, ?_, ?_⟩
                · rw [← hte]; exact hw3
                · rw [tkn, ← hte, ← htv]
                  first
                  | exact (if_pos (Or.inr (by omega))).symm
                  | exact (if_pos (Or.inl ⟨c_84, by omega⟩)).symm
                  | exact (if_neg (fun h => Or.elim h (fun q => absurd q.1 c_84) (fun q => by omega))).symm
                  | exact (if_neg (fun h => Or.elim h (fun q => absurd q.2 (by omega)) (fun q => by omega))).symm
                · rw [← htv]; exact hw5
              exact hret (upd w 4 (-3)) _ _ _ _ (hpost) hP hD hS dX5_takeFigures_130
            · exfalso
              revert c_108
              decide
      · have c_13 : ¬ len ≤ e := fun hne => c_13 ((c_le (a := len) (b := e) rfl rfl (by omega) (by omega)).mpr hne)
        have c_13b : e < len := by omega
        refine lv_aload_n hx hb dX5_takeFigures_16 rfl (lv_at hl 0 rfl) ?_
        refine va_get (D := G.1) (ci := 5) (v := .ref (q 0)) (C := RX5) (T := TX5) (N := 6) hx hb hts hin5 hown hK.1 hP 0 rfl rfl 0 (by decide) f9 (fun _ h9 => h9) rfl dX5_takeFigures_17 ?_
        refine lv_aload_n hx hb dX5_takeFigures_20 rfl (lv_at hl 0 rfl) ?_
        refine va_get (D := G.1) (ci := 5) (v := .int (w 3)) (C := RX5) (T := TX5) (N := 6) hx hb hts hin5 hown hK.1 hP 0 rfl rfl 3 (by decide) f24 (fun _ h9 => h9) rfl dX5_takeFigures_21 ?_
        refine top_i (y := nI e) (hw3) ?_
        refine al_i hx hb hK.1 hP 1 0 rfl rfl (j := e) (by omega) (Nat.le_of_ble_eq_true rfl) dX5_takeFigures_24 ?_
        refine rd_i (va_runS (As := [.int (tx e)]) (rest := []) ⟨hx, hb, hml, hown, hts⟩ (c_X5_isFigure l G (tx e)) (va_cwS 1 hts gX5_takeFigures_X5_isFigure rfl rfl rfl (by decide +kernel) ⟨Nat.le_of_ble_eq_true rfl, Nat.le_of_ble_eq_true rfl⟩) (rPre_S hK hP [] rfl) rfl rfl hl.1 rfl (lv_room (Nat.le_of_ble_eq_true rfl)) dX5_takeFigures_25 ⟨Nat.zero_le _, Nat.zero_le _⟩) (fun r_25 q_25 => ?_)
        obtain rfl : r_25 = b2i (pFig (tx e)) := q_25
        refine lv_if_eq (tgt := 73) hx hb dX5_takeFigures_28 (by decide) (fun c_28 => ?_) (fun c_28 => ?_)
        · have c_28 : (pFig (tx e)) = false := b2i_0.mp c_28
          refine lv_aload_n hx hb dX5_takeFigures_73 rfl (lv_at hl 0 rfl) ?_
          refine va_get (D := G.1) (ci := 5) (v := .ref (q 0)) (C := RX5) (T := TX5) (N := 6) hx hb hts hin5 hown hK.1 hP 0 rfl rfl 0 (by decide) f9 (fun _ h9 => h9) rfl dX5_takeFigures_74 ?_
          refine lv_aload_n hx hb dX5_takeFigures_77 rfl (lv_at hl 0 rfl) ?_
          refine va_get (D := G.1) (ci := 5) (v := .int (w 2)) (C := RX5) (T := TX5) (N := 6) hx hb hts hin5 hown hK.1 hP 0 rfl rfl 2 (by decide) f43 (fun _ h9 => h9) rfl dX5_takeFigures_78 ?_
          refine top_i (y := nI s0) (hw2) ?_
          refine al_i hx hb hK.1 hP 1 0 rfl rfl (j := s0) (by omega) (Nat.le_of_ble_eq_true rfl) dX5_takeFigures_81 ?_
          refine lv_bipush (v := 48) hx hb dX5_takeFigures_82 (by decide) ?_
          refine lv_icmp_ne (tgt := 104) hx hb dX5_takeFigures_84 (by decide) (fun c_84 => ?_) (fun c_84 => ?_)
          · refine lv_iconst (v := 0) hx hb dX5_takeFigures_104 (by decide) ?_
            refine lv_istore_n (lv' := [(1, .int 0), (0, .ref h)]) hx hb dX5_takeFigures_105 rfl hl (by decide) rfl (fun ls hl => ?_)
            refine lv_aload_n hx hb dX5_takeFigures_106 rfl (lv_at hl 1 rfl) ?_
            refine lv_iload_n hx hb dX5_takeFigures_107 rfl (lv_at hl 0 rfl) ?_
            refine lv_if_ne (tgt := 120) hx hb dX5_takeFigures_108 (by decide) (fun c_108 => ?_) (fun c_108 => ?_)
            · exfalso
              revert c_108
              decide
            · refine lv_aload_n hx hb dX5_takeFigures_111 rfl (lv_at hl 1 rfl) ?_
              refine va_get (D := G.1) (ci := 5) (v := .int (w 5)) (C := RX5) (T := TX5) (N := 6) hx hb hts hin5 hown hK.1 hP 0 rfl rfl 5 (by decide) f53 (fun _ h9 => h9) rfl dX5_takeFigures_112 ?_
              refine top_i (y := nI a) (hw5) ?_
              refine lv_bipush (v := 99) hx hb dX5_takeFigures_115 (by decide) ?_
              refine lv_icmp_le (tgt := 125) hx hb dX5_takeFigures_117 (by decide) (fun c_117 => ?_) (fun c_117 => ?_)
              · have c_117 : a ≤ 99 := (c_le (a := a) (b := 99) rfl rfl (by omega) (by omega)).mp c_117
                refine lv_bipush (v := -2) hx hb dX5_takeFigures_125 (by decide) ?_
                refine va_put (D := G.1) (ci := 5) (v := .int (-2)) (ty := .int) (C := RX5) (T := TX5) (N := 6) hx hb hts hin5 tyX5 tyX5_ok nmX5 hown hK.1 hP hD hS 0 rfl rfl 4 (by decide) f30 (fun _ h9 => h9) rfl (by decide +kernel) rfl rfl (Nat.le_of_ble_eq_true rfl) dX5_takeFigures_127 (fun H locs hP hD hS => ?_)
                have hP : va_P G.1 vwCl [oB h 5 (oF5 (upd w 4 (-2)) q), aI G (q 0) 140 tx] H := hP
                have hD : va_D A [oB h 5 (oF5 (upd w 4 (-2)) q), aI G (q 0) 140 tx] := hD
                have hpost : (upd w 4 (-2)) 1 = nI len ∧ (upd w 4 (-2)) 2 = nI s0 ∧ (upd w 4 (-2)) 3 = nI (te tx len s0) ∧ (upd w 4 (-2)) 4 = tkn tx len s0 ∧ (upd w 4 (-2)) 5 = nI (tv tx len s0 0) := by
                  rw [te_stop (fun h => by rw [c_28] at h; exact absurd h.2 (by decide))] at hte
                  rw [tv_stop (fun h => by rw [c_28] at h; exact absurd h.2 (by decide))] at htv
                  refine ⟨hw1, hw2, ?_, ?_, ?_⟩
                  · rw [← hte]; exact hw3
                  · rw [tkn, ← hte, ← htv]
                    first
                    | exact (if_pos (Or.inr (by omega))).symm
                    | exact (if_pos (Or.inl ⟨c_84, by omega⟩)).symm
                    | exact (if_neg (fun h => Or.elim h (fun q => absurd q.1 c_84) (fun q => by omega))).symm
                    | exact (if_neg (fun h => Or.elim h (fun q => absurd q.2 (by omega)) (fun q => by omega))).symm
                  · rw [← htv]; exact hw5
                exact hret (upd w 4 (-2)) _ _ _ _ (hpost) hP hD hS dX5_takeFigures_130
              · have c_117 : ¬ a ≤ 99 := fun hne => c_117 ((c_le (a := a) (b := 99) rfl rfl (by omega) (by omega)).mpr hne)
                refine lv_bipush (v := -3) hx hb dX5_takeFigures_120 (by decide) ?_
                refine lv_goto (tgt := 127) hx hb dX5_takeFigures_122 (by decide) ?_
                refine va_put (D := G.1) (ci := 5) (v := .int (-3)) (ty := .int) (C := RX5) (T := TX5) (N := 6) hx hb hts hin5 tyX5 tyX5_ok nmX5 hown hK.1 hP hD hS 0 rfl rfl 4 (by decide) f30 (fun _ h9 => h9) rfl (by decide +kernel) rfl rfl (Nat.le_of_ble_eq_true rfl) dX5_takeFigures_127 (fun H locs hP hD hS => ?_)
                have hP : va_P G.1 vwCl [oB h 5 (oF5 (upd w 4 (-3)) q), aI G (q 0) 140 tx] H := hP
                have hD : va_D A [oB h 5 (oF5 (upd w 4 (-3)) q), aI G (q 0) 140 tx] := hD
                have hpost : (upd w 4 (-3)) 1 = nI len ∧ (upd w 4 (-3)) 2 = nI s0 ∧ (upd w 4 (-3)) 3 = nI (te tx len s0) ∧ (upd w 4 (-3)) 4 = tkn tx len s0 ∧ (upd w 4 (-3)) 5 = nI (tv tx len s0 0) := by
                  rw [te_stop (fun h => by rw [c_28] at h; exact absurd h.2 (by decide))] at hte
                  rw [tv_stop (fun h => by rw [c_28] at h; exact absurd h.2 (by decide))] at htv
                  refine ⟨hw1, hw2, ?_, ?_, ?_⟩
                  · rw [← hte]; exact hw3
                  · rw [tkn, ← hte, ← htv]
                    first
                    | exact (if_pos (Or.inr (by omega))).symm
                    | exact (if_pos (Or.inl ⟨c_84, by omega⟩)).symm
                    | exact (if_neg (fun h => Or.elim h (fun q => absurd q.1 c_84) (fun q => by omega))).symm
                    | exact (if_neg (fun h => Or.elim h (fun q => absurd q.2 (by omega)) (fun q => by omega))).symm
                  · rw [← htv]; exact hw5
                exact hret (upd w 4 (-3)) _ _ _ _ (hpost) hP hD hS dX5_takeFigures_130
          · refine lv_aload_n hx hb dX5_takeFigures_87 rfl (lv_at hl 0 rfl) ?_
            refine va_get (D := G.1) (ci := 5) (v := .int (w 3)) (C := RX5) (T := TX5) (N := 6) hx hb hts hin5 hown hK.1 hP 0 rfl rfl 3 (by decide) f24 (fun _ h9 => h9) rfl dX5_takeFigures_88 ?_
            refine top_i (y := nI e) (hw3) ?_
            refine lv_aload_n hx hb dX5_takeFigures_91 rfl (lv_at hl 0 rfl) ?_
            refine va_get (D := G.1) (ci := 5) (v := .int (w 2)) (C := RX5) (T := TX5) (N := 6) hx hb hts hin5 hown hK.1 hP 0 rfl rfl 2 (by decide) f43 (fun _ h9 => h9) rfl dX5_takeFigures_92 ?_
            refine top_i (y := nI s0) (hw2) ?_
            refine lv_isub hx hb dX5_takeFigures_95 ?_
            refine top_i (y := nI (e - s0)) (pk_sub (by omega)) ?_
            refine lv_iconst (v := 1) hx hb dX5_takeFigures_96 (by decide) ?_
            refine lv_icmp_le (tgt := 104) hx hb dX5_takeFigures_97 (by decide) (fun c_97 => ?_) (fun c_97 => ?_)
            · have c_97 : (e - s0) ≤ 1 := (c_le (a := e - s0) (b := 1) rfl rfl (by omega) (by omega)).mp c_97
              refine lv_iconst (v := 0) hx hb dX5_takeFigures_104 (by decide) ?_
              refine lv_istore_n (lv' := [(1, .int 0), (0, .ref h)]) hx hb dX5_takeFigures_105 rfl hl (by decide) rfl (fun ls hl => ?_)
              refine lv_aload_n hx hb dX5_takeFigures_106 rfl (lv_at hl 1 rfl) ?_
              refine lv_iload_n hx hb dX5_takeFigures_107 rfl (lv_at hl 0 rfl) ?_
              refine lv_if_ne (tgt := 120) hx hb dX5_takeFigures_108 (by decide) (fun c_108 => ?_) (fun c_108 => ?_)
              · exfalso
                revert c_108
                decide
              · refine lv_aload_n hx hb dX5_takeFigures_111 rfl (lv_at hl 1 rfl) ?_
                refine va_get (D := G.1) (ci := 5) (v := .int (w 5)) (C := RX5) (T := TX5) (N := 6) hx hb hts hin5 hown hK.1 hP 0 rfl rfl 5 (by decide) f53 (fun _ h9 => h9) rfl dX5_takeFigures_112 ?_
                refine top_i (y := nI a) (hw5) ?_
                refine lv_bipush (v := 99) hx hb dX5_takeFigures_115 (by decide) ?_
                refine lv_icmp_le (tgt := 125) hx hb dX5_takeFigures_117 (by decide) (fun c_117 => ?_) (fun c_117 => ?_)
                · have c_117 : a ≤ 99 := (c_le (a := a) (b := 99) rfl rfl (by omega) (by omega)).mp c_117
                  refine lv_bipush (v := -2) hx hb dX5_takeFigures_125 (by decide) ?_
                  refine va_put (D := G.1) (ci := 5) (v := .int (-2)) (ty := .int) (C := RX5) (T := TX5) (N := 6) hx hb hts hin5 tyX5 tyX5_ok nmX5 hown hK.1 hP hD hS 0 rfl rfl 4 (by decide) f30 (fun _ h9 => h9) rfl (by decide +kernel) rfl rfl (Nat.le_of_ble_eq_true rfl) dX5_takeFigures_127 (fun H locs hP hD hS => ?_)
                  have hP : va_P G.1 vwCl [oB h 5 (oF5 (upd w 4 (-2)) q), aI G (q 0) 140 tx] H := hP
                  have hD : va_D A [oB h 5 (oF5 (upd w 4 (-2)) q), aI G (q 0) 140 tx] := hD
                  have hpost : (upd w 4 (-2)) 1 = nI len ∧ (upd w 4 (-2)) 2 = nI s0 ∧ (upd w 4 (-2)) 3 = nI (te tx len s0) ∧ (upd w 4 (-2)) 4 = tkn tx len s0 ∧ (upd w 4 (-2)) 5 = nI (tv tx len s0 0) := by
                    rw [te_stop (fun h => by rw [c_28] at h; exact absurd h.2 (by decide))] at hte
                    rw [tv_stop (fun h => by rw [c_28] at h; exact absurd h.2 (by decide))] at htv
                    refine ⟨hw1, hw2, ?_, ?_, ?_⟩
                    · rw [← hte]; exact hw3
                    · rw [tkn, ← hte, ← htv]
                      first
                      | exact (if_pos (Or.inr (by omega))).symm
                      | exact (if_pos (Or.inl ⟨c_84, by omega⟩)).symm
                      | exact (if_neg (fun h => Or.elim h (fun q => absurd q.1 c_84) (fun q => by omega))).symm
                      | exact (if_neg (fun h => Or.elim h (fun q => absurd q.2 (by omega)) (fun q => by omega))).symm
                    · rw [← htv]; exact hw5
                  exact hret (upd w 4 (-2)) _ _ _ _ (hpost) hP hD hS dX5_takeFigures_130
                · have c_117 : ¬ a ≤ 99 := fun hne => c_117 ((c_le (a := a) (b := 99) rfl rfl (by omega) (by omega)).mpr hne)
                  refine lv_bipush (v := -3) hx hb dX5_takeFigures_120 (by decide) ?_
                  refine lv_goto (tgt := 127) hx hb dX5_takeFigures_122 (by decide) ?_
                  refine va_put (D := G.1) (ci := 5) (v := .int (-3)) (ty := .int) (C := RX5) (T := TX5) (N := 6) hx hb hts hin5 tyX5 tyX5_ok nmX5 hown hK.1 hP hD hS 0 rfl rfl 4 (by decide) f30 (fun _ h9 => h9) rfl (by decide +kernel) rfl rfl (Nat.le_of_ble_eq_true rfl) dX5_takeFigures_127 (fun H locs hP hD hS => ?_)
                  have hP : va_P G.1 vwCl [oB h 5 (oF5 (upd w 4 (-3)) q), aI G (q 0) 140 tx] H := hP
                  have hD : va_D A [oB h 5 (oF5 (upd w 4 (-3)) q), aI G (q 0) 140 tx] := hD
                  have hpost : (upd w 4 (-3)) 1 = nI len ∧ (upd w 4 (-3)) 2 = nI s0 ∧ (upd w 4 (-3)) 3 = nI (te tx len s0) ∧ (upd w 4 (-3)) 4 = tkn tx len s0 ∧ (upd w 4 (-3)) 5 = nI (tv tx len s0 0) := by
                    rw [te_stop (fun h => by rw [c_28] at h; exact absurd h.2 (by decide))] at hte
                    rw [tv_stop (fun h => by rw [c_28] at h; exact absurd h.2 (by decide))] at htv
                    refine ⟨hw1, hw2, ?_, ?_, ?_⟩
                    · rw [← hte]; exact hw3
                    · rw [tkn, ← hte, ← htv]
                      first
                      | exact (if_pos (Or.inr (by omega))).symm
                      | exact (if_pos (Or.inl ⟨c_84, by omega⟩)).symm
                      | exact (if_neg (fun h => Or.elim h (fun q => absurd q.1 c_84) (fun q => by omega))).symm
                      | exact (if_neg (fun h => Or.elim h (fun q => absurd q.2 (by omega)) (fun q => by omega))).symm
                    · rw [← htv]; exact hw5
                  exact hret (upd w 4 (-3)) _ _ _ _ (hpost) hP hD hS dX5_takeFigures_130
            · have c_97 : ¬ (e - s0) ≤ 1 := fun hne => c_97 ((c_le (a := e - s0) (b := 1) rfl rfl (by omega) (by omega)).mpr hne)
              refine lv_iconst (v := 1) hx hb dX5_takeFigures_100 (by decide) ?_
              refine lv_goto (tgt := 105) hx hb dX5_takeFigures_101 (by decide) ?_
              refine lv_istore_n (lv' := [(1, .int 1), (0, .ref h)]) hx hb dX5_takeFigures_105 rfl hl (by decide) rfl (fun ls hl => ?_)
              refine lv_aload_n hx hb dX5_takeFigures_106 rfl (lv_at hl 1 rfl) ?_
              refine lv_iload_n hx hb dX5_takeFigures_107 rfl (lv_at hl 0 rfl) ?_
              refine lv_if_ne (tgt := 120) hx hb dX5_takeFigures_108 (by decide) (fun c_108 => ?_) (fun c_108 => ?_)
              · refine lv_bipush (v := -3) hx hb dX5_takeFigures_120 (by decide) ?_
                refine lv_goto (tgt := 127) hx hb dX5_takeFigures_122 (by decide) ?_
                refine va_put (D := G.1) (ci := 5) (v := .int (-3)) (ty := .int) (C := RX5) (T := TX5) (N := 6) hx hb hts hin5 tyX5 tyX5_ok nmX5 hown hK.1 hP hD hS 0 rfl rfl 4 (by decide) f30 (fun _ h9 => h9) rfl (by decide +kernel) rfl rfl (Nat.le_of_ble_eq_true rfl) dX5_takeFigures_127 (fun H locs hP hD hS => ?_)
                have hP : va_P G.1 vwCl [oB h 5 (oF5 (upd w 4 (-3)) q), aI G (q 0) 140 tx] H := hP
                have hD : va_D A [oB h 5 (oF5 (upd w 4 (-3)) q), aI G (q 0) 140 tx] := hD
                have hpost : (upd w 4 (-3)) 1 = nI len ∧ (upd w 4 (-3)) 2 = nI s0 ∧ (upd w 4 (-3)) 3 = nI (te tx len s0) ∧ (upd w 4 (-3)) 4 = tkn tx len s0 ∧ (upd w 4 (-3)) 5 = nI (tv tx len s0 0) := by
                  rw [te_stop (fun h => by rw [c_28] at h; exact absurd h.2 (by decide))] at hte
                  rw [tv_stop (fun h => by rw [c_28] at h; exact absurd h.2 (by decide))] at htv
                  refine ⟨hw1, hw2, ?_, ?_, ?_⟩
                  · rw [← hte]; exact hw3
                  · rw [tkn, ← hte, ← htv]
                    first
                    | exact (if_pos (Or.inr (by omega))).symm
                    | exact (if_pos (Or.inl ⟨c_84, by omega⟩)).symm
                    | exact (if_neg (fun h => Or.elim h (fun q => absurd q.1 c_84) (fun q => by omega))).symm
                    | exact (if_neg (fun h => Or.elim h (fun q => absurd q.2 (by omega)) (fun q => by omega))).symm
                  · rw [← htv]; exact hw5
                exact hret (upd w 4 (-3)) _ _ _ _ (hpost) hP hD hS dX5_takeFigures_130
              · exfalso
                revert c_108
                decide
        · have c_28 : (pFig (tx e)) = true := b2i_n0.mp c_28
          refine lv_aload_n hx hb dX5_takeFigures_31 rfl (lv_at hl 0 rfl) ?_
          refine lv_aload_n hx hb dX5_takeFigures_32 rfl (lv_at hl 0 rfl) ?_
          refine va_get (D := G.1) (ci := 5) (v := .int (w 5)) (C := RX5) (T := TX5) (N := 6) hx hb hts hin5 hown hK.1 hP 0 rfl rfl 5 (by decide) f53 (fun _ h9 => h9) rfl dX5_takeFigures_33 ?_
          refine top_i (y := nI a) (hw5) ?_
          refine lv_bipush (v := 10) hx hb dX5_takeFigures_36 (by decide) ?_
          refine lv_imul hx hb dX5_takeFigures_38 ?_
          refine lv_aload_n hx hb dX5_takeFigures_39 rfl (lv_at hl 0 rfl) ?_
          refine va_get (D := G.1) (ci := 5) (v := .ref (q 0)) (C := RX5) (T := TX5) (N := 6) hx hb hts hin5 hown hK.1 hP 0 rfl rfl 0 (by decide) f9 (fun _ h9 => h9) rfl dX5_takeFigures_40 ?_
          refine lv_aload_n hx hb dX5_takeFigures_43 rfl (lv_at hl 0 rfl) ?_
          refine va_get (D := G.1) (ci := 5) (v := .int (w 3)) (C := RX5) (T := TX5) (N := 6) hx hb hts hin5 hown hK.1 hP 0 rfl rfl 3 (by decide) f24 (fun _ h9 => h9) rfl dX5_takeFigures_44 ?_
          refine top_i (y := nI e) (hw3) ?_
          refine al_i hx hb hK.1 hP 1 0 rfl rfl (j := e) (by omega) (Nat.le_of_ble_eq_true rfl) dX5_takeFigures_47 ?_
          refine lv_iadd hx hb dX5_takeFigures_48 ?_
          refine lv_bipush (v := 48) hx hb dX5_takeFigures_49 (by decide) ?_
          refine lv_isub hx hb dX5_takeFigures_51 ?_
          refine lv_bipush (v := 100) hx hb dX5_takeFigures_52 (by decide) ?_
          refine va_mmin hx hb (hml.trans hl.1.symm) hown (hts (.methodLink RX5 84 Lib.Math.min.name) (by decide +kernel)) (hts (.static Lib.Math.min.name) (by decide +kernel)) (hts (.initialized "java/lang/Math") (by decide +kernel)) (hts (.code Lib.Math.min.name Lib.Math.min.code 2 (some .int)) (by decide +kernel)) (Nat.le_of_ble_eq_true rfl) (Nat.le_of_ble_eq_true rfl) (Nat.zero_le _) (Nat.zero_le _) dX5_takeFigures_54 ?_
          refine top_i (y := imin ((((nI a) * 10) + (tx e)) - 48) 100) rfl ?_
          refine top_i (y := nI (min (a * 10 + dg (tx e)) 100)) (fig_val c_28 ha) ?_
          refine va_put (D := G.1) (ci := 5) (v := .int (nI (min (a * 10 + dg (tx e)) 100))) (ty := .int) (C := RX5) (T := TX5) (N := 6) hx hb hts hin5 tyX5 tyX5_ok nmX5 hown hK.1 hP hD hS 0 rfl rfl 5 (by decide) f53 (fun _ h9 => h9) rfl (by decide +kernel) rfl rfl (Nat.le_of_ble_eq_true rfl) dX5_takeFigures_57 (fun H locs hP hD hS => ?_)
          have hP : va_P G.1 vwCl [oB h 5 (oF5 (upd w 5 (nI (min (a * 10 + dg (tx e)) 100))) q), aI G (q 0) 140 tx] H := hP
          have hD : va_D A [oB h 5 (oF5 (upd w 5 (nI (min (a * 10 + dg (tx e)) 100))) q), aI G (q 0) 140 tx] := hD
          refine lv_aload_n hx hb dX5_takeFigures_60 rfl (lv_at hl 0 rfl) ?_
          refine lv_dup hx hb dX5_takeFigures_61 rfl ?_
          refine va_get (D := G.1) (ci := 5) (v := .int (w 3)) (C := RX5) (T := TX5) (N := 6) hx hb hts hin5 hown hK.1 hP 0 rfl rfl 3 (by decide) f24 (fun _ h9 => h9) rfl dX5_takeFigures_62 ?_
          refine top_i (y := nI e) (hw3) ?_
          refine lv_iconst (v := 1) hx hb dX5_takeFigures_65 (by decide) ?_
          refine lv_iadd hx hb dX5_takeFigures_66 ?_
          refine top_i (y := nI (e + 1)) (nI_1 e) ?_
          refine va_put (D := G.1) (ci := 5) (v := .int (nI (e + 1))) (ty := .int) (C := RX5) (T := TX5) (N := 6) hx hb hts hin5 tyX5 tyX5_ok nmX5 hown hK.1 hP hD hS 0 rfl rfl 3 (by decide) f24 (fun _ h9 => h9) rfl (by decide +kernel) rfl rfl (Nat.le_of_ble_eq_true rfl) dX5_takeFigures_67 (fun H locs hP hD hS => ?_)
          have hP : va_P G.1 vwCl [oB h 5 (oF5 (upd (upd w 5 (nI (min (a * 10 + dg (tx e)) 100))) 3 (nI (e + 1))) q), aI G (q 0) 140 tx] H := hP
          have hD : va_D A [oB h 5 (oF5 (upd (upd w 5 (nI (min (a * 10 + dg (tx e)) 100))) 3 (nI (e + 1))) q), aI G (q 0) 140 tx] := hD
          refine lv_goto (tgt := 5) hx hb dX5_takeFigures_70 (by decide) ?_
          exact ih5 (upd (upd w 5 (nI (min (a * 10 + dg (tx e)) 100))) 3 (nI (e + 1))) (e + 1) (min (a * 10 + dg (tx e)) 100) (by omega) (by omega) (by omega) (by rw [← te_step c_13b c_28]; exact hte) (by rw [← tv_step c_13b c_28]; exact htv) (hw1) (hw2) (rfl) (rfl) _ _ hP hD hS _ (lv_sub hl [0] rfl)
  exact loop_5 _ (upd v 5 0) s0 0 (Nat.lt_succ_self _) (by omega) (by omega) (rfl) (rfl) (hv1) (hv2) (hv3) (rfl) _ _ hP hD hS _ (lv_sub hl [0] rfl)

abbrev rX5_advance : Room := { frames := 2, cells := 0, slots := 0, locals := 42 }
set_option maxHeartbeats 4000000 in
set_option maxRecDepth 100000 in
theorem c_X5_advance (l : Launch) (G : kG) (h : Nat) (v : Nat → Int32) (q : Nat → Nat) (tx : Nat → Int32) (len : Nat) (i : Nat) (hv1 : v 1 = nI len) (hlen : len ≤ 140) (hv3 : v 3 = nI i) (hi : i ≤ len) : Cv l G yX5_advance wsX5_advance rX5_advance [.ref h] [oB h 5 (oF5 v q), aI G (q 0) 140 tx] (fun (u : Nat → Int32) => u 1 = nI len ∧ u 2 = nI (tkS tx len i) ∧ u 3 = nI (tkE tx len i) ∧ u 4 = tkK tx len i ∧ (tkK tx len i = -2 → u 5 = nI (tkV tx len i))) (fun u => [oB h 5 (oF5 u q), aI G (q 0) 140 tx]) 0 0 := by
  refine Cv.of (cc := cX5_advance) (maxL := 2) (by decide) rfl (Nat.le_of_ble_eq_true rfl) ?_
  intro pM eM sM mM bM tM cM Q A hx hb hts hown hml hnm hA hK hP hD hS hret ls hl
  have hown : sM.vm.findClass RX5 = some mM.cls := hown
  have hl : lv_has ls 2 [(0, .ref h)] := hl
  have hin5 : ∀ w ∈ u_ws RX5 TX5 6, w ∈ wsX5_advance := by decide +kernel
  have f24 := hts (.fieldLink RX5 24 "HorizonPeaks$Text" "behind" "I") (by decide +kernel)
  have f43 := hts (.fieldLink RX5 43 "HorizonPeaks$Text" "start" "I") (by decide +kernel)
  have f15 := hts (.fieldLink RX5 15 "HorizonPeaks$Text" "length" "I") (by decide +kernel)
  have f9 := hts (.fieldLink RX5 9 "HorizonPeaks$Text" "letters" "[I") (by decide +kernel)
  have f30 := hts (.fieldLink RX5 30 "HorizonPeaks$Text" "kind" "I") (by decide +kernel)
  refine lv_aload_n hx hb dX5_advance_0 rfl (lv_at hl 0 rfl) ?_
  refine lv_aload_n hx hb dX5_advance_1 rfl (lv_at hl 0 rfl) ?_
  refine va_get (D := G.1) (ci := 5) (v := .int (v 3)) (C := RX5) (T := TX5) (N := 6) hx hb hts hin5 hown hK.1 hP 0 rfl rfl 3 (by decide) f24 (fun _ h9 => h9) rfl dX5_advance_2 ?_
  refine top_i (y := nI i) (hv3) ?_
  refine va_put (D := G.1) (ci := 5) (v := .int (nI i)) (ty := .int) (C := RX5) (T := TX5) (N := 6) hx hb hts hin5 tyX5 tyX5_ok nmX5 hown hK.1 hP hD hS 0 rfl rfl 2 (by decide) f43 (fun _ h9 => h9) rfl (by decide +kernel) rfl rfl (Nat.le_of_ble_eq_true rfl) dX5_advance_5 (fun H locs hP hD hS => ?_)
  have hP : va_P G.1 vwCl [oB h 5 (oF5 (upd v 2 (nI i)) q), aI G (q 0) 140 tx] H := hP
  have hD : va_D A [oB h 5 (oF5 (upd v 2 (nI i)) q), aI G (q 0) 140 tx] := hD
  have loop_8 : ∀ (nF : Nat) (w : Nat → Int32) (j : Nat), (len - j) < nF → (i ≤ j ∧ j ≤ len) → (tsk tx len j = tsk tx len i) → (w 1 = nI len) → (w 2 = nI j) → ∀ (H : Heap) (locs : List Loc), va_P G.1 vwCl [oB h 5 (oF5 w q), aI G (q 0) 140 tx] H → va_D A [oB h 5 (oF5 w q), aI G (q 0) 140 tx] → va_S A sM.heap H locs → ∀ (ls : Array Slot), lv_has ls 2 [(0, .ref h)] → W pM l eM rX5_advance sM mM [.ref h].toArray bM tM cM H locs 0 0 Q (F0 mM 8 ls []) := by
    intro nF
    induction nF with
    | zero => intro w j hmF; exact absurd hmF (Nat.not_lt_zero _)
    | succ nF ih8 =>
      intro w j hmF hj hj2 hw1 hw2 H locs hP hD hS ls hl
      refine lv_aload_n hx hb dX5_advance_8 rfl (lv_at hl 0 rfl) ?_
      refine va_get (D := G.1) (ci := 5) (v := .int (w 2)) (C := RX5) (T := TX5) (N := 6) hx hb hts hin5 hown hK.1 hP 0 rfl rfl 2 (by decide) f43 (fun _ h9 => h9) rfl dX5_advance_9 ?_
      refine top_i (y := nI j) (hw2) ?_
      refine lv_aload_n hx hb dX5_advance_12 rfl (lv_at hl 0 rfl) ?_
      refine va_get (D := G.1) (ci := 5) (v := .int (w 1)) (C := RX5) (T := TX5) (N := 6) hx hb hts hin5 hown hK.1 hP 0 rfl rfl 1 (by decide) f15 (fun _ h9 => h9) rfl dX5_advance_13 ?_
      refine top_i (y := nI len) (hw1) ?_
      refine lv_icmp_ge (tgt := 46) hx hb dX5_advance_16 (by decide) (fun c_16 => ?_) (fun c_16 => ?_)
      · have c_16 : len ≤ j := (c_le (a := len) (b := j) rfl rfl (by omega) (by omega)).mp c_16
        refine lv_aload_n hx hb dX5_advance_46 rfl (lv_at hl 0 rfl) ?_
        refine lv_aload_n hx hb dX5_advance_47 rfl (lv_at hl 0 rfl) ?_
        refine va_get (D := G.1) (ci := 5) (v := .int (w 2)) (C := RX5) (T := TX5) (N := 6) hx hb hts hin5 hown hK.1 hP 0 rfl rfl 2 (by decide) f43 (fun _ h9 => h9) rfl dX5_advance_48 ?_
        refine top_i (y := nI j) (hw2) ?_
        refine va_put (D := G.1) (ci := 5) (v := .int (nI j)) (ty := .int) (C := RX5) (T := TX5) (N := 6) hx hb hts hin5 tyX5 tyX5_ok nmX5 hown hK.1 hP hD hS 0 rfl rfl 3 (by decide) f24 (fun _ h9 => h9) rfl (by decide +kernel) rfl rfl (Nat.le_of_ble_eq_true rfl) dX5_advance_51 (fun H locs hP hD hS => ?_)
        have hP : va_P G.1 vwCl [oB h 5 (oF5 (upd w 3 (nI j)) q), aI G (q 0) 140 tx] H := hP
        have hD : va_D A [oB h 5 (oF5 (upd w 3 (nI j)) q), aI G (q 0) 140 tx] := hD
        refine lv_aload_n hx hb dX5_advance_54 rfl (lv_at hl 0 rfl) ?_
        refine va_get (D := G.1) (ci := 5) (v := .int (w 2)) (C := RX5) (T := TX5) (N := 6) hx hb hts hin5 hown hK.1 hP 0 rfl rfl 2 (by decide) f43 (fun _ h9 => h9) rfl dX5_advance_55 ?_
        refine top_i (y := nI j) (hw2) ?_
        refine lv_aload_n hx hb dX5_advance_58 rfl (lv_at hl 0 rfl) ?_
        refine va_get (D := G.1) (ci := 5) (v := .int (w 1)) (C := RX5) (T := TX5) (N := 6) hx hb hts hin5 hown hK.1 hP 0 rfl rfl 1 (by decide) f15 (fun _ h9 => h9) rfl dX5_advance_59 ?_
        refine top_i (y := nI len) (hw1) ?_
        refine lv_icmp_lt (tgt := 71) hx hb dX5_advance_62 (by decide) (fun c_62 => ?_) (fun c_62 => ?_)
        · have c_62 : j < len := (c_lt (a := j) (b := len) rfl rfl (by omega) (by omega)).mp c_62
          refine lv_aload_n hx hb dX5_advance_71 rfl (lv_at hl 0 rfl) ?_
          refine va_get (D := G.1) (ci := 5) (v := .ref (q 0)) (C := RX5) (T := TX5) (N := 6) hx hb hts hin5 hown hK.1 hP 0 rfl rfl 0 (by decide) f9 (fun _ h9 => h9) rfl dX5_advance_72 ?_
          refine lv_aload_n hx hb dX5_advance_75 rfl (lv_at hl 0 rfl) ?_
          refine va_get (D := G.1) (ci := 5) (v := .int (w 2)) (C := RX5) (T := TX5) (N := 6) hx hb hts hin5 hown hK.1 hP 0 rfl rfl 2 (by decide) f43 (fun _ h9 => h9) rfl dX5_advance_76 ?_
          refine top_i (y := nI j) (hw2) ?_
          refine al_i hx hb hK.1 hP 1 0 rfl rfl (j := j) (by omega) (Nat.le_of_ble_eq_true rfl) dX5_advance_79 ?_
          refine lv_istore_n (lv' := [(1, .int (tx j)), (0, .ref h)]) hx hb dX5_advance_80 rfl hl (by decide) rfl (fun ls hl => ?_)
          refine lv_iload_n hx hb dX5_advance_81 rfl (lv_at hl 0 rfl) ?_
          refine rd_i (va_runS (As := [.int (tx j)]) (rest := []) ⟨hx, hb, hml, hown, hts⟩ (c_X5_isFigure l G (tx j)) (va_cwS 1 hts gX5_advance_X5_isFigure rfl rfl rfl (by decide +kernel) ⟨Nat.le_of_ble_eq_true rfl, Nat.le_of_ble_eq_true rfl⟩) (rPre_S hK hP [] rfl) rfl rfl hl.1 rfl (lv_room (Nat.le_of_ble_eq_true rfl)) dX5_advance_82 ⟨Nat.zero_le _, Nat.zero_le _⟩) (fun r_82 q_82 => ?_)
          obtain rfl : r_82 = b2i (pFig (tx j)) := q_82
          refine lv_if_eq (tgt := 93) hx hb dX5_advance_85 (by decide) (fun c_85 => ?_) (fun c_85 => ?_)
          · have c_85 : (pFig (tx j)) = false := b2i_0.mp c_85
            refine lv_aload_n hx hb dX5_advance_93 rfl (lv_at hl 1 rfl) ?_
            refine lv_aload_n hx hb dX5_advance_94 rfl (lv_at hl 1 rfl) ?_
            refine va_get (D := G.1) (ci := 5) (v := .int (w 2)) (C := RX5) (T := TX5) (N := 6) hx hb hts hin5 hown hK.1 hP 0 rfl rfl 2 (by decide) f43 (fun _ h9 => h9) rfl dX5_advance_95 ?_
            refine top_i (y := nI j) (hw2) ?_
            refine lv_iconst (v := 1) hx hb dX5_advance_98 (by decide) ?_
            refine lv_iadd hx hb dX5_advance_99 ?_
            refine top_i (y := nI (j + 1)) (nI_1 j) ?_
            refine va_put (D := G.1) (ci := 5) (v := .int (nI (j + 1))) (ty := .int) (C := RX5) (T := TX5) (N := 6) hx hb hts hin5 tyX5 tyX5_ok nmX5 hown hK.1 hP hD hS 0 rfl rfl 3 (by decide) f24 (fun _ h9 => h9) rfl (by decide +kernel) rfl rfl (Nat.le_of_ble_eq_true rfl) dX5_advance_100 (fun H locs hP hD hS => ?_)
            have hP : va_P G.1 vwCl [oB h 5 (oF5 (upd w 3 (nI (j + 1))) q), aI G (q 0) 140 tx] H := hP
            have hD : va_D A [oB h 5 (oF5 (upd w 3 (nI (j + 1))) q), aI G (q 0) 140 tx] := hD
            refine lv_aload_n hx hb dX5_advance_103 rfl (lv_at hl 1 rfl) ?_
            refine lv_iload_n hx hb dX5_advance_104 rfl (lv_at hl 0 rfl) ?_
            refine lv_bipush (v := 112) hx hb dX5_advance_105 (by decide) ?_
            refine lv_icmp_eq (tgt := 128) hx hb dX5_advance_107 (by decide) (fun c_107 => ?_) (fun c_107 => ?_)
            · refine lv_iload_n hx hb dX5_advance_128 rfl (lv_at hl 0 rfl) ?_
              refine lv_goto (tgt := 134) hx hb dX5_advance_129 (by decide) ?_
              refine va_put (D := G.1) (ci := 5) (v := .int (tx j)) (ty := .int) (C := RX5) (T := TX5) (N := 6) hx hb hts hin5 tyX5 tyX5_ok nmX5 hown hK.1 hP hD hS 0 rfl rfl 4 (by decide) f30 (fun _ h9 => h9) rfl (by decide +kernel) rfl rfl (Nat.le_of_ble_eq_true rfl) dX5_advance_134 (fun H locs hP hD hS => ?_)
              have hP : va_P G.1 vwCl [oB h 5 (oF5 (upd (upd w 3 (nI (j + 1))) 4 (tx j)) q), aI G (q 0) 140 tx] H := hP
              have hD : va_D A [oB h 5 (oF5 (upd (upd w 3 (nI (j + 1))) 4 (tx j)) q), aI G (q 0) 140 tx] := hD
              have hpost : (upd (upd w 3 (nI (j + 1))) 4 (tx j)) 1 = nI len ∧ (upd (upd w 3 (nI (j + 1))) 4 (tx j)) 2 = nI (tkS tx len i) ∧ (upd (upd w 3 (nI (j + 1))) 4 (tx j)) 3 = nI (tkE tx len i) ∧ (upd (upd w 3 (nI (j + 1))) 4 (tx j)) 4 = tkK tx len i ∧ (tkK tx len i = -2 → (upd (upd w 3 (nI (j + 1))) 4 (tx j)) 5 = nI (tkV tx len i)) := by
                have hts2 : tsk tx len i = j := by rw [← hj2, tsk_stop (fun h => absurd h.1 (by omega))]
                obtain ⟨e1, e2, e3⟩ := tk_let hts2 c_62 c_85
                rw [e1, e2, e3]
                refine ⟨hw1, hw2, rfl, ?_, ?_⟩
                · show _ = if _ then _ else _
                  first
                  | exact (if_pos (Or.inl c_107)).symm
                  | exact (if_pos (Or.inr (Or.inl c_113))).symm
                  | exact (if_pos (Or.inr (Or.inr (Or.inl c_119)))).symm
                  | exact (if_pos (Or.inr (Or.inr (Or.inr c_125)))).symm
                  | exact (if_neg (fun h => h.elim c_107 (fun h => h.elim c_113 (fun h => h.elim c_119 c_125)))).symm
                · intro h
                  exfalso
                  revert h
                  split
                  · rename_i hh; intro h; rw [h] at hh; revert hh; decide
                  · decide
              exact hret (upd (upd w 3 (nI (j + 1))) 4 (tx j)) _ _ _ _ (hpost) hP hD hS dX5_advance_137
            · refine lv_iload_n hx hb dX5_advance_110 rfl (lv_at hl 0 rfl) ?_
              refine lv_bipush (v := 114) hx hb dX5_advance_111 (by decide) ?_
              refine lv_icmp_eq (tgt := 128) hx hb dX5_advance_113 (by decide) (fun c_113 => ?_) (fun c_113 => ?_)
              · refine lv_iload_n hx hb dX5_advance_128 rfl (lv_at hl 0 rfl) ?_
                refine lv_goto (tgt := 134) hx hb dX5_advance_129 (by decide) ?_
                refine va_put (D := G.1) (ci := 5) (v := .int (tx j)) (ty := .int) (C := RX5) (T := TX5) (N := 6) hx hb hts hin5 tyX5 tyX5_ok nmX5 hown hK.1 hP hD hS 0 rfl rfl 4 (by decide) f30 (fun _ h9 => h9) rfl (by decide +kernel) rfl rfl (Nat.le_of_ble_eq_true rfl) dX5_advance_134 (fun H locs hP hD hS => ?_)
                have hP : va_P G.1 vwCl [oB h 5 (oF5 (upd (upd w 3 (nI (j + 1))) 4 (tx j)) q), aI G (q 0) 140 tx] H := hP
                have hD : va_D A [oB h 5 (oF5 (upd (upd w 3 (nI (j + 1))) 4 (tx j)) q), aI G (q 0) 140 tx] := hD
                have hpost : (upd (upd w 3 (nI (j + 1))) 4 (tx j)) 1 = nI len ∧ (upd (upd w 3 (nI (j + 1))) 4 (tx j)) 2 = nI (tkS tx len i) ∧ (upd (upd w 3 (nI (j + 1))) 4 (tx j)) 3 = nI (tkE tx len i) ∧ (upd (upd w 3 (nI (j + 1))) 4 (tx j)) 4 = tkK tx len i ∧ (tkK tx len i = -2 → (upd (upd w 3 (nI (j + 1))) 4 (tx j)) 5 = nI (tkV tx len i)) := by
                  have hts2 : tsk tx len i = j := by rw [← hj2, tsk_stop (fun h => absurd h.1 (by omega))]
                  obtain ⟨e1, e2, e3⟩ := tk_let hts2 c_62 c_85
                  rw [e1, e2, e3]
                  refine ⟨hw1, hw2, rfl, ?_, ?_⟩
                  · show _ = if _ then _ else _
                    first
                    | exact (if_pos (Or.inl c_107)).symm
                    | exact (if_pos (Or.inr (Or.inl c_113))).symm
                    | exact (if_pos (Or.inr (Or.inr (Or.inl c_119)))).symm
                    | exact (if_pos (Or.inr (Or.inr (Or.inr c_125)))).symm
                    | exact (if_neg (fun h => h.elim c_107 (fun h => h.elim c_113 (fun h => h.elim c_119 c_125)))).symm
                  · intro h
                    exfalso
                    revert h
                    split
                    · rename_i hh; intro h; rw [h] at hh; revert hh; decide
                    · decide
                exact hret (upd (upd w 3 (nI (j + 1))) 4 (tx j)) _ _ _ _ (hpost) hP hD hS dX5_advance_137
              · refine lv_iload_n hx hb dX5_advance_116 rfl (lv_at hl 0 rfl) ?_
                refine lv_bipush (v := 115) hx hb dX5_advance_117 (by decide) ?_
                refine lv_icmp_eq (tgt := 128) hx hb dX5_advance_119 (by decide) (fun c_119 => ?_) (fun c_119 => ?_)
                · refine lv_iload_n hx hb dX5_advance_128 rfl (lv_at hl 0 rfl) ?_
                  refine lv_goto (tgt := 134) hx hb dX5_advance_129 (by decide) ?_
                  refine va_put (D := G.1) (ci := 5) (v := .int (tx j)) (ty := .int) (C := RX5) (T := TX5) (N := 6) hx hb hts hin5 tyX5 tyX5_ok nmX5 hown hK.1 hP hD hS 0 rfl rfl 4 (by decide) f30 (fun _ h9 => h9) rfl (by decide +kernel) rfl rfl (Nat.le_of_ble_eq_true rfl) dX5_advance_134 (fun H locs hP hD hS => ?_)
                  have hP : va_P G.1 vwCl [oB h 5 (oF5 (upd (upd w 3 (nI (j + 1))) 4 (tx j)) q), aI G (q 0) 140 tx] H := hP
                  have hD : va_D A [oB h 5 (oF5 (upd (upd w 3 (nI (j + 1))) 4 (tx j)) q), aI G (q 0) 140 tx] := hD
                  have hpost : (upd (upd w 3 (nI (j + 1))) 4 (tx j)) 1 = nI len ∧ (upd (upd w 3 (nI (j + 1))) 4 (tx j)) 2 = nI (tkS tx len i) ∧ (upd (upd w 3 (nI (j + 1))) 4 (tx j)) 3 = nI (tkE tx len i) ∧ (upd (upd w 3 (nI (j + 1))) 4 (tx j)) 4 = tkK tx len i ∧ (tkK tx len i = -2 → (upd (upd w 3 (nI (j + 1))) 4 (tx j)) 5 = nI (tkV tx len i)) := by
                    have hts2 : tsk tx len i = j := by rw [← hj2, tsk_stop (fun h => absurd h.1 (by omega))]
                    obtain ⟨e1, e2, e3⟩ := tk_let hts2 c_62 c_85
                    rw [e1, e2, e3]
                    refine ⟨hw1, hw2, rfl, ?_, ?_⟩
                    · show _ = if _ then _ else _
                      first
                      | exact (if_pos (Or.inl c_107)).symm
                      | exact (if_pos (Or.inr (Or.inl c_113))).symm
                      | exact (if_pos (Or.inr (Or.inr (Or.inl c_119)))).symm
                      | exact (if_pos (Or.inr (Or.inr (Or.inr c_125)))).symm
                      | exact (if_neg (fun h => h.elim c_107 (fun h => h.elim c_113 (fun h => h.elim c_119 c_125)))).symm
                    · intro h
                      exfalso
                      revert h
                      split
                      · rename_i hh; intro h; rw [h] at hh; revert hh; decide
                      · decide
                  exact hret (upd (upd w 3 (nI (j + 1))) 4 (tx j)) _ _ _ _ (hpost) hP hD hS dX5_advance_137
                · refine lv_iload_n hx hb dX5_advance_122 rfl (lv_at hl 0 rfl) ?_
                  refine lv_bipush (v := 59) hx hb dX5_advance_123 (by decide) ?_
                  refine lv_icmp_ne (tgt := 132) hx hb dX5_advance_125 (by decide) (fun c_125 => ?_) (fun c_125 => ?_)
                  · refine lv_bipush (v := -3) hx hb dX5_advance_132 (by decide) ?_
                    refine va_put (D := G.1) (ci := 5) (v := .int (-3)) (ty := .int) (C := RX5) (T := TX5) (N := 6) hx hb hts hin5 tyX5 tyX5_ok nmX5 hown hK.1 hP hD hS 0 rfl rfl 4 (by decide) f30 (fun _ h9 => h9) rfl (by decide +kernel) rfl rfl (Nat.le_of_ble_eq_true rfl) dX5_advance_134 (fun H locs hP hD hS => ?_)
                    have hP : va_P G.1 vwCl [oB h 5 (oF5 (upd (upd w 3 (nI (j + 1))) 4 (-3)) q), aI G (q 0) 140 tx] H := hP
                    have hD : va_D A [oB h 5 (oF5 (upd (upd w 3 (nI (j + 1))) 4 (-3)) q), aI G (q 0) 140 tx] := hD
                    have hpost : (upd (upd w 3 (nI (j + 1))) 4 (-3)) 1 = nI len ∧ (upd (upd w 3 (nI (j + 1))) 4 (-3)) 2 = nI (tkS tx len i) ∧ (upd (upd w 3 (nI (j + 1))) 4 (-3)) 3 = nI (tkE tx len i) ∧ (upd (upd w 3 (nI (j + 1))) 4 (-3)) 4 = tkK tx len i ∧ (tkK tx len i = -2 → (upd (upd w 3 (nI (j + 1))) 4 (-3)) 5 = nI (tkV tx len i)) := by
                      have hts2 : tsk tx len i = j := by rw [← hj2, tsk_stop (fun h => absurd h.1 (by omega))]
                      obtain ⟨e1, e2, e3⟩ := tk_let hts2 c_62 c_85
                      rw [e1, e2, e3]
                      refine ⟨hw1, hw2, rfl, ?_, ?_⟩
                      · show _ = if _ then _ else _
                        first
                        | exact (if_pos (Or.inl c_107)).symm
                        | exact (if_pos (Or.inr (Or.inl c_113))).symm
                        | exact (if_pos (Or.inr (Or.inr (Or.inl c_119)))).symm
                        | exact (if_pos (Or.inr (Or.inr (Or.inr c_125)))).symm
                        | exact (if_neg (fun h => h.elim c_107 (fun h => h.elim c_113 (fun h => h.elim c_119 c_125)))).symm
                      · intro h
                        exfalso
                        revert h
                        split
                        · rename_i hh; intro h; rw [h] at hh; revert hh; decide
                        · decide
                    exact hret (upd (upd w 3 (nI (j + 1))) 4 (-3)) _ _ _ _ (hpost) hP hD hS dX5_advance_137
                  · refine lv_iload_n hx hb dX5_advance_128 rfl (lv_at hl 0 rfl) ?_
                    refine lv_goto (tgt := 134) hx hb dX5_advance_129 (by decide) ?_
                    refine va_put (D := G.1) (ci := 5) (v := .int (tx j)) (ty := .int) (C := RX5) (T := TX5) (N := 6) hx hb hts hin5 tyX5 tyX5_ok nmX5 hown hK.1 hP hD hS 0 rfl rfl 4 (by decide) f30 (fun _ h9 => h9) rfl (by decide +kernel) rfl rfl (Nat.le_of_ble_eq_true rfl) dX5_advance_134 (fun H locs hP hD hS => ?_)
                    have hP : va_P G.1 vwCl [oB h 5 (oF5 (upd (upd w 3 (nI (j + 1))) 4 (tx j)) q), aI G (q 0) 140 tx] H := hP
                    have hD : va_D A [oB h 5 (oF5 (upd (upd w 3 (nI (j + 1))) 4 (tx j)) q), aI G (q 0) 140 tx] := hD
                    have hpost : (upd (upd w 3 (nI (j + 1))) 4 (tx j)) 1 = nI len ∧ (upd (upd w 3 (nI (j + 1))) 4 (tx j)) 2 = nI (tkS tx len i) ∧ (upd (upd w 3 (nI (j + 1))) 4 (tx j)) 3 = nI (tkE tx len i) ∧ (upd (upd w 3 (nI (j + 1))) 4 (tx j)) 4 = tkK tx len i ∧ (tkK tx len i = -2 → (upd (upd w 3 (nI (j + 1))) 4 (tx j)) 5 = nI (tkV tx len i)) := by
                      have hts2 : tsk tx len i = j := by rw [← hj2, tsk_stop (fun h => absurd h.1 (by omega))]
                      obtain ⟨e1, e2, e3⟩ := tk_let hts2 c_62 c_85
                      rw [e1, e2, e3]
                      refine ⟨hw1, hw2, rfl, ?_, ?_⟩
                      · show _ = if _ then _ else _
                        first
                        | exact (if_pos (Or.inl c_107)).symm
                        | exact (if_pos (Or.inr (Or.inl c_113))).symm
                        | exact (if_pos (Or.inr (Or.inr (Or.inl c_119)))).symm
                        | exact (if_pos (Or.inr (Or.inr (Or.inr c_125)))).symm
                        | exact (if_neg (fun h => h.elim c_107 (fun h => h.elim c_113 (fun h => h.elim c_119 c_125)))).symm
                      · intro h
                        exfalso
                        revert h
                        split
                        · rename_i hh; intro h; rw [h] at hh; revert hh; decide
                        · decide
                    exact hret (upd (upd w 3 (nI (j + 1))) 4 (tx j)) _ _ _ _ (hpost) hP hD hS dX5_advance_137
          · have c_85 : (pFig (tx j)) = true := b2i_n0.mp c_85
            refine lv_aload_n hx hb dX5_advance_88 rfl (lv_at hl 1 rfl) ?_
            refine ca_v (wr := []) (va_runV (As := []) (rest := []) ⟨hx, hb, hml, hown, hts⟩ ((c_X5_takeFigures l G h (upd w 3 (nI j)) q tx len j (hw1) (hlen) (hw2) (rfl) (c_62)) _) (cwV 0 hts gX5_advance_X5_takeFigures rfl rfl rfl (by decide +kernel) ⟨Nat.le_of_ble_eq_true rfl, Nat.le_of_ble_eq_true rfl⟩) (cPre_V hK hP hD [0, 1] (by decide) rfl 0 5 rfl rfl) rfl rfl hl.1 rfl (lv_room (Nat.le_of_ble_eq_true rfl)) dX5_advance_89 ⟨Nat.zero_le _, Nat.zero_le _⟩) hP hD hS hA [0, 1] [] rfl rfl (by decide) (by decide) [0, 1] (fun u_89 => [oB h 5 (oF5 u_89 q), aI G (q 0) 140 tx]) (by decide) (fun _ => rfl) (fun u_89 H locs q_89 hP hD hS => ?_)
            have q_89 : u_89 1 = nI len ∧ u_89 2 = nI j ∧ u_89 3 = nI (te tx len j) ∧ u_89 4 = tkn tx len j ∧ u_89 5 = nI (tv tx len j 0) := q_89
            have hP : va_P G.1 vwCl [oB h 5 (oF5 u_89 q), aI G (q 0) 140 tx] H := hP
            have hD : va_D A [oB h 5 (oF5 u_89 q), aI G (q 0) 140 tx] := hD
            have hpost : u_89 1 = nI len ∧ u_89 2 = nI (tkS tx len i) ∧ u_89 3 = nI (tkE tx len i) ∧ u_89 4 = tkK tx len i ∧ (tkK tx len i = -2 → u_89 5 = nI (tkV tx len i)) := by
              have hts2 : tsk tx len i = j := by rw [← hj2, tsk_stop (fun h => absurd h.1 (by omega))]
              obtain ⟨e1, e2, e3, e4⟩ := tk_fig hts2 c_62 c_85
              rw [e1, e2, e3, e4]
              obtain ⟨k1, k2, k3, k4, k5⟩ := q_89
              exact ⟨k1, k2, k3, k4, fun _ => k5⟩
            exact hret u_89 _ _ _ _ (hpost) hP hD hS dX5_advance_92
        · have c_62 : ¬ j < len := fun hne => c_62 ((c_lt (a := j) (b := len) rfl rfl (by omega) (by omega)).mpr hne)
          refine lv_aload_n hx hb dX5_advance_65 rfl (lv_at hl 0 rfl) ?_
          refine lv_iconst (v := -1) hx hb dX5_advance_66 (by decide) ?_
          refine va_put (D := G.1) (ci := 5) (v := .int (-1)) (ty := .int) (C := RX5) (T := TX5) (N := 6) hx hb hts hin5 tyX5 tyX5_ok nmX5 hown hK.1 hP hD hS 0 rfl rfl 4 (by decide) f30 (fun _ h9 => h9) rfl (by decide +kernel) rfl rfl (Nat.le_of_ble_eq_true rfl) dX5_advance_67 (fun H locs hP hD hS => ?_)
          have hP : va_P G.1 vwCl [oB h 5 (oF5 (upd (upd w 3 (nI j)) 4 (-1)) q), aI G (q 0) 140 tx] H := hP
          have hD : va_D A [oB h 5 (oF5 (upd (upd w 3 (nI j)) 4 (-1)) q), aI G (q 0) 140 tx] := hD
          have hpost : (upd (upd w 3 (nI j)) 4 (-1)) 1 = nI len ∧ (upd (upd w 3 (nI j)) 4 (-1)) 2 = nI (tkS tx len i) ∧ (upd (upd w 3 (nI j)) 4 (-1)) 3 = nI (tkE tx len i) ∧ (upd (upd w 3 (nI j)) 4 (-1)) 4 = tkK tx len i ∧ (tkK tx len i = -2 → (upd (upd w 3 (nI j)) 4 (-1)) 5 = nI (tkV tx len i)) := by
            have hts2 : tsk tx len i = j := by rw [← hj2, tsk_stop (fun h => absurd h.1 (by omega))]
            obtain ⟨e1, e2, e3⟩ := tk_end hts2 (by omega)
            rw [e1, e2, e3]
            exact ⟨hw1, hw2, rfl, rfl, fun h => absurd h (by decide)⟩
          exact hret (upd (upd w 3 (nI j)) 4 (-1)) _ _ _ _ (hpost) hP hD hS dX5_advance_70
      · have c_16 : ¬ len ≤ j := fun hne => c_16 ((c_le (a := len) (b := j) rfl rfl (by omega) (by omega)).mpr hne)
        refine lv_aload_n hx hb dX5_advance_19 rfl (lv_at hl 0 rfl) ?_
        refine va_get (D := G.1) (ci := 5) (v := .ref (q 0)) (C := RX5) (T := TX5) (N := 6) hx hb hts hin5 hown hK.1 hP 0 rfl rfl 0 (by decide) f9 (fun _ h9 => h9) rfl dX5_advance_20 ?_
        refine lv_aload_n hx hb dX5_advance_23 rfl (lv_at hl 0 rfl) ?_
        refine va_get (D := G.1) (ci := 5) (v := .int (w 2)) (C := RX5) (T := TX5) (N := 6) hx hb hts hin5 hown hK.1 hP 0 rfl rfl 2 (by decide) f43 (fun _ h9 => h9) rfl dX5_advance_24 ?_
        refine top_i (y := nI j) (hw2) ?_
        refine al_i hx hb hK.1 hP 1 0 rfl rfl (j := j) (by omega) (Nat.le_of_ble_eq_true rfl) dX5_advance_27 ?_
        refine lv_bipush (v := 32) hx hb dX5_advance_28 (by decide) ?_
        refine lv_icmp_ne (tgt := 46) hx hb dX5_advance_30 (by decide) (fun c_30 => ?_) (fun c_30 => ?_)
        · refine lv_aload_n hx hb dX5_advance_46 rfl (lv_at hl 0 rfl) ?_
          refine lv_aload_n hx hb dX5_advance_47 rfl (lv_at hl 0 rfl) ?_
          refine va_get (D := G.1) (ci := 5) (v := .int (w 2)) (C := RX5) (T := TX5) (N := 6) hx hb hts hin5 hown hK.1 hP 0 rfl rfl 2 (by decide) f43 (fun _ h9 => h9) rfl dX5_advance_48 ?_
          refine top_i (y := nI j) (hw2) ?_
          refine va_put (D := G.1) (ci := 5) (v := .int (nI j)) (ty := .int) (C := RX5) (T := TX5) (N := 6) hx hb hts hin5 tyX5 tyX5_ok nmX5 hown hK.1 hP hD hS 0 rfl rfl 3 (by decide) f24 (fun _ h9 => h9) rfl (by decide +kernel) rfl rfl (Nat.le_of_ble_eq_true rfl) dX5_advance_51 (fun H locs hP hD hS => ?_)
          have hP : va_P G.1 vwCl [oB h 5 (oF5 (upd w 3 (nI j)) q), aI G (q 0) 140 tx] H := hP
          have hD : va_D A [oB h 5 (oF5 (upd w 3 (nI j)) q), aI G (q 0) 140 tx] := hD
          refine lv_aload_n hx hb dX5_advance_54 rfl (lv_at hl 0 rfl) ?_
          refine va_get (D := G.1) (ci := 5) (v := .int (w 2)) (C := RX5) (T := TX5) (N := 6) hx hb hts hin5 hown hK.1 hP 0 rfl rfl 2 (by decide) f43 (fun _ h9 => h9) rfl dX5_advance_55 ?_
          refine top_i (y := nI j) (hw2) ?_
          refine lv_aload_n hx hb dX5_advance_58 rfl (lv_at hl 0 rfl) ?_
          refine va_get (D := G.1) (ci := 5) (v := .int (w 1)) (C := RX5) (T := TX5) (N := 6) hx hb hts hin5 hown hK.1 hP 0 rfl rfl 1 (by decide) f15 (fun _ h9 => h9) rfl dX5_advance_59 ?_
          refine top_i (y := nI len) (hw1) ?_
          refine lv_icmp_lt (tgt := 71) hx hb dX5_advance_62 (by decide) (fun c_62 => ?_) (fun c_62 => ?_)
          · have c_62 : j < len := (c_lt (a := j) (b := len) rfl rfl (by omega) (by omega)).mp c_62
            refine lv_aload_n hx hb dX5_advance_71 rfl (lv_at hl 0 rfl) ?_
            refine va_get (D := G.1) (ci := 5) (v := .ref (q 0)) (C := RX5) (T := TX5) (N := 6) hx hb hts hin5 hown hK.1 hP 0 rfl rfl 0 (by decide) f9 (fun _ h9 => h9) rfl dX5_advance_72 ?_
            refine lv_aload_n hx hb dX5_advance_75 rfl (lv_at hl 0 rfl) ?_
            refine va_get (D := G.1) (ci := 5) (v := .int (w 2)) (C := RX5) (T := TX5) (N := 6) hx hb hts hin5 hown hK.1 hP 0 rfl rfl 2 (by decide) f43 (fun _ h9 => h9) rfl dX5_advance_76 ?_
            refine top_i (y := nI j) (hw2) ?_
            refine al_i hx hb hK.1 hP 1 0 rfl rfl (j := j) (by omega) (Nat.le_of_ble_eq_true rfl) dX5_advance_79 ?_
            refine lv_istore_n (lv' := [(1, .int (tx j)), (0, .ref h)]) hx hb dX5_advance_80 rfl hl (by decide) rfl (fun ls hl => ?_)
            refine lv_iload_n hx hb dX5_advance_81 rfl (lv_at hl 0 rfl) ?_
            refine rd_i (va_runS (As := [.int (tx j)]) (rest := []) ⟨hx, hb, hml, hown, hts⟩ (c_X5_isFigure l G (tx j)) (va_cwS 1 hts gX5_advance_X5_isFigure rfl rfl rfl (by decide +kernel) ⟨Nat.le_of_ble_eq_true rfl, Nat.le_of_ble_eq_true rfl⟩) (rPre_S hK hP [] rfl) rfl rfl hl.1 rfl (lv_room (Nat.le_of_ble_eq_true rfl)) dX5_advance_82 ⟨Nat.zero_le _, Nat.zero_le _⟩) (fun r_82 q_82 => ?_)
            obtain rfl : r_82 = b2i (pFig (tx j)) := q_82
            refine lv_if_eq (tgt := 93) hx hb dX5_advance_85 (by decide) (fun c_85 => ?_) (fun c_85 => ?_)
            · have c_85 : (pFig (tx j)) = false := b2i_0.mp c_85
              refine lv_aload_n hx hb dX5_advance_93 rfl (lv_at hl 1 rfl) ?_
              refine lv_aload_n hx hb dX5_advance_94 rfl (lv_at hl 1 rfl) ?_
              refine va_get (D := G.1) (ci := 5) (v := .int (w 2)) (C := RX5) (T := TX5) (N := 6) hx hb hts hin5 hown hK.1 hP 0 rfl rfl 2 (by decide) f43 (fun _ h9 => h9) rfl dX5_advance_95 ?_
              refine top_i (y := nI j) (hw2) ?_
              refine lv_iconst (v := 1) hx hb dX5_advance_98 (by decide) ?_
              refine lv_iadd hx hb dX5_advance_99 ?_
              refine top_i (y := nI (j + 1)) (nI_1 j) ?_
              refine va_put (D := G.1) (ci := 5) (v := .int (nI (j + 1))) (ty := .int) (C := RX5) (T := TX5) (N := 6) hx hb hts hin5 tyX5 tyX5_ok nmX5 hown hK.1 hP hD hS 0 rfl rfl 3 (by decide) f24 (fun _ h9 => h9) rfl (by decide +kernel) rfl rfl (Nat.le_of_ble_eq_true rfl) dX5_advance_100 (fun H locs hP hD hS => ?_)
              have hP : va_P G.1 vwCl [oB h 5 (oF5 (upd w 3 (nI (j + 1))) q), aI G (q 0) 140 tx] H := hP
              have hD : va_D A [oB h 5 (oF5 (upd w 3 (nI (j + 1))) q), aI G (q 0) 140 tx] := hD
              refine lv_aload_n hx hb dX5_advance_103 rfl (lv_at hl 1 rfl) ?_
              refine lv_iload_n hx hb dX5_advance_104 rfl (lv_at hl 0 rfl) ?_
              refine lv_bipush (v := 112) hx hb dX5_advance_105 (by decide) ?_
              refine lv_icmp_eq (tgt := 128) hx hb dX5_advance_107 (by decide) (fun c_107 => ?_) (fun c_107 => ?_)
              · refine lv_iload_n hx hb dX5_advance_128 rfl (lv_at hl 0 rfl) ?_
                refine lv_goto (tgt := 134) hx hb dX5_advance_129 (by decide) ?_
                refine va_put (D := G.1) (ci := 5) (v := .int (tx j)) (ty := .int) (C := RX5) (T := TX5) (N := 6) hx hb hts hin5 tyX5 tyX5_ok nmX5 hown hK.1 hP hD hS 0 rfl rfl 4 (by decide) f30 (fun _ h9 => h9) rfl (by decide +kernel) rfl rfl (Nat.le_of_ble_eq_true rfl) dX5_advance_134 (fun H locs hP hD hS => ?_)
                have hP : va_P G.1 vwCl [oB h 5 (oF5 (upd (upd w 3 (nI (j + 1))) 4 (tx j)) q), aI G (q 0) 140 tx] H := hP
                have hD : va_D A [oB h 5 (oF5 (upd (upd w 3 (nI (j + 1))) 4 (tx j)) q), aI G (q 0) 140 tx] := hD
                have hpost : (upd (upd w 3 (nI (j + 1))) 4 (tx j)) 1 = nI len ∧ (upd (upd w 3 (nI (j + 1))) 4 (tx j)) 2 = nI (tkS tx len i) ∧ (upd (upd w 3 (nI (j + 1))) 4 (tx j)) 3 = nI (tkE tx len i) ∧ (upd (upd w 3 (nI (j + 1))) 4 (tx j)) 4 = tkK tx len i ∧ (tkK tx len i = -2 → (upd (upd w 3 (nI (j + 1))) 4 (tx j)) 5 = nI (tkV tx len i)) := by
                  have hts2 : tsk tx len i = j := by rw [← hj2, tsk_stop (fun h => c_30 h.2)]
                  obtain ⟨e1, e2, e3⟩ := tk_let hts2 c_62 c_85
                  rw [e1, e2, e3]
                  refine ⟨hw1, hw2, rfl, ?_, ?_⟩
                  · show _ = if _ then _ else _
                    first
                    | exact (if_pos (Or.inl c_107)).symm
                    | exact (if_pos (Or.inr (Or.inl c_113))).symm
                    | exact (if_pos (Or.inr (Or.inr (Or.inl c_119)))).symm
                    | exact (if_pos (Or.inr (Or.inr (Or.inr c_125)))).symm
                    | exact (if_neg (fun h => h.elim c_107 (fun h => h.elim c_113 (fun h => h.elim c_119 c_125)))).symm
                  · intro h
                    exfalso
                    revert h
                    split
                    · rename_i hh; intro h; rw [h] at hh; revert hh; decide
                    · decide
                exact hret (upd (upd w 3 (nI (j + 1))) 4 (tx j)) _ _ _ _ (hpost) hP hD hS dX5_advance_137
              · refine lv_iload_n hx hb dX5_advance_110 rfl (lv_at hl 0 rfl) ?_
                refine lv_bipush (v := 114) hx hb dX5_advance_111 (by decide) ?_
                refine lv_icmp_eq (tgt := 128) hx hb dX5_advance_113 (by decide) (fun c_113 => ?_) (fun c_113 => ?_)
                · refine lv_iload_n hx hb dX5_advance_128 rfl (lv_at hl 0 rfl) ?_
                  refine lv_goto (tgt := 134) hx hb dX5_advance_129 (by decide) ?_
                  refine va_put (D := G.1) (ci := 5) (v := .int (tx j)) (ty := .int) (C := RX5) (T := TX5) (N := 6) hx hb hts hin5 tyX5 tyX5_ok nmX5 hown hK.1 hP hD hS 0 rfl rfl 4 (by decide) f30 (fun _ h9 => h9) rfl (by decide +kernel) rfl rfl (Nat.le_of_ble_eq_true rfl) dX5_advance_134 (fun H locs hP hD hS => ?_)
                  have hP : va_P G.1 vwCl [oB h 5 (oF5 (upd (upd w 3 (nI (j + 1))) 4 (tx j)) q), aI G (q 0) 140 tx] H := hP
                  have hD : va_D A [oB h 5 (oF5 (upd (upd w 3 (nI (j + 1))) 4 (tx j)) q), aI G (q 0) 140 tx] := hD
                  have hpost : (upd (upd w 3 (nI (j + 1))) 4 (tx j)) 1 = nI len ∧ (upd (upd w 3 (nI (j + 1))) 4 (tx j)) 2 = nI (tkS tx len i) ∧ (upd (upd w 3 (nI (j + 1))) 4 (tx j)) 3 = nI (tkE tx len i) ∧ (upd (upd w 3 (nI (j + 1))) 4 (tx j)) 4 = tkK tx len i ∧ (tkK tx len i = -2 → (upd (upd w 3 (nI (j + 1))) 4 (tx j)) 5 = nI (tkV tx len i)) := by
                    have hts2 : tsk tx len i = j := by rw [← hj2, tsk_stop (fun h => c_30 h.2)]
                    obtain ⟨e1, e2, e3⟩ := tk_let hts2 c_62 c_85
                    rw [e1, e2, e3]
                    refine ⟨hw1, hw2, rfl, ?_, ?_⟩
                    · show _ = if _ then _ else _
                      first
                      | exact (if_pos (Or.inl c_107)).symm
                      | exact (if_pos (Or.inr (Or.inl c_113))).symm
                      | exact (if_pos (Or.inr (Or.inr (Or.inl c_119)))).symm
                      | exact (if_pos (Or.inr (Or.inr (Or.inr c_125)))).symm
                      | exact (if_neg (fun h => h.elim c_107 (fun h => h.elim c_113 (fun h => h.elim c_119 c_125)))).symm
                    · intro h
                      exfalso
                      revert h
                      split
                      · rename_i hh; intro h; rw [h] at hh; revert hh; decide
                      · decide
                  exact hret (upd (upd w 3 (nI (j + 1))) 4 (tx j)) _ _ _ _ (hpost) hP hD hS dX5_advance_137
                · refine lv_iload_n hx hb dX5_advance_116 rfl (lv_at hl 0 rfl) ?_
                  refine lv_bipush (v := 115) hx hb dX5_advance_117 (by decide) ?_
                  refine lv_icmp_eq (tgt := 128) hx hb dX5_advance_119 (by decide) (fun c_119 => ?_) (fun c_119 => ?_)
                  · refine lv_iload_n hx hb dX5_advance_128 rfl (lv_at hl 0 rfl) ?_
                    refine lv_goto (tgt := 134) hx hb dX5_advance_129 (by decide) ?_
                    refine va_put (D := G.1) (ci := 5) (v := .int (tx j)) (ty := .int) (C := RX5) (T := TX5) (N := 6) hx hb hts hin5 tyX5 tyX5_ok nmX5 hown hK.1 hP hD hS 0 rfl rfl 4 (by decide) f30 (fun _ h9 => h9) rfl (by decide +kernel) rfl rfl (Nat.le_of_ble_eq_true rfl) dX5_advance_134 (fun H locs hP hD hS => ?_)
                    have hP : va_P G.1 vwCl [oB h 5 (oF5 (upd (upd w 3 (nI (j + 1))) 4 (tx j)) q), aI G (q 0) 140 tx] H := hP
                    have hD : va_D A [oB h 5 (oF5 (upd (upd w 3 (nI (j + 1))) 4 (tx j)) q), aI G (q 0) 140 tx] := hD
                    have hpost : (upd (upd w 3 (nI (j + 1))) 4 (tx j)) 1 = nI len ∧ (upd (upd w 3 (nI (j + 1))) 4 (tx j)) 2 = nI (tkS tx len i) ∧ (upd (upd w 3 (nI (j + 1))) 4 (tx j)) 3 = nI (tkE tx len i) ∧ (upd (upd w 3 (nI (j + 1))) 4 (tx j)) 4 = tkK tx len i ∧ (tkK tx len i = -2 → (upd (upd w 3 (nI (j + 1))) 4 (tx j)) 5 = nI (tkV tx len i)) := by
                      have hts2 : tsk tx len i = j := by rw [← hj2, tsk_stop (fun h => c_30 h.2)]
                      obtain ⟨e1, e2, e3⟩ := tk_let hts2 c_62 c_85
                      rw [e1, e2, e3]
                      refine ⟨hw1, hw2, rfl, ?_, ?_⟩
                      · show _ = if _ then _ else _
                        first
                        | exact (if_pos (Or.inl c_107)).symm
                        | exact (if_pos (Or.inr (Or.inl c_113))).symm
                        | exact (if_pos (Or.inr (Or.inr (Or.inl c_119)))).symm
                        | exact (if_pos (Or.inr (Or.inr (Or.inr c_125)))).symm
                        | exact (if_neg (fun h => h.elim c_107 (fun h => h.elim c_113 (fun h => h.elim c_119 c_125)))).symm
                      · intro h
                        exfalso
                        revert h
                        split
                        · rename_i hh; intro h; rw [h] at hh; revert hh; decide
                        · decide
                    exact hret (upd (upd w 3 (nI (j + 1))) 4 (tx j)) _ _ _ _ (hpost) hP hD hS dX5_advance_137
                  · refine lv_iload_n hx hb dX5_advance_122 rfl (lv_at hl 0 rfl) ?_
                    refine lv_bipush (v := 59) hx hb dX5_advance_123 (by decide) ?_
                    refine lv_icmp_ne (tgt := 132) hx hb dX5_advance_125 (by decide) (fun c_125 => ?_) (fun c_125 => ?_)
                    · refine lv_bipush (v := -3) hx hb dX5_advance_132 (by decide) ?_
                      refine va_put (D := G.1) (ci := 5) (v := .int (-3)) (ty := .int) (C := RX5) (T := TX5) (N := 6) hx hb hts hin5 tyX5 tyX5_ok nmX5 hown hK.1 hP hD hS 0 rfl rfl 4 (by decide) f30 (fun _ h9 => h9) rfl (by decide +kernel) rfl rfl (Nat.le_of_ble_eq_true rfl) dX5_advance_134 (fun H locs hP hD hS => ?_)
                      have hP : va_P G.1 vwCl [oB h 5 (oF5 (upd (upd w 3 (nI (j + 1))) 4 (-3)) q), aI G (q 0) 140 tx] H := hP
                      have hD : va_D A [oB h 5 (oF5 (upd (upd w 3 (nI (j + 1))) 4 (-3)) q), aI G (q 0) 140 tx] := hD
                      have hpost : (upd (upd w 3 (nI (j + 1))) 4 (-3)) 1 = nI len ∧ (upd (upd w 3 (nI (j + 1))) 4 (-3)) 2 = nI (tkS tx len i) ∧ (upd (upd w 3 (nI (j + 1))) 4 (-3)) 3 = nI (tkE tx len i) ∧ (upd (upd w 3 (nI (j + 1))) 4 (-3)) 4 = tkK tx len i ∧ (tkK tx len i = -2 → (upd (upd w 3 (nI (j + 1))) 4 (-3)) 5 = nI (tkV tx len i)) := by
                        have hts2 : tsk tx len i = j := by rw [← hj2, tsk_stop (fun h => c_30 h.2)]
                        obtain ⟨e1, e2, e3⟩ := tk_let hts2 c_62 c_85
                        rw [e1, e2, e3]
                        refine ⟨hw1, hw2, rfl, ?_, ?_⟩
                        · show _ = if _ then _ else _
                          first
                          | exact (if_pos (Or.inl c_107)).symm
                          | exact (if_pos (Or.inr (Or.inl c_113))).symm
                          | exact (if_pos (Or.inr (Or.inr (Or.inl c_119)))).symm
                          | exact (if_pos (Or.inr (Or.inr (Or.inr c_125)))).symm
                          | exact (if_neg (fun h => h.elim c_107 (fun h => h.elim c_113 (fun h => h.elim c_119 c_125)))).symm
                        · intro h
                          exfalso
                          revert h
                          split
                          · rename_i hh; intro h; rw [h] at hh; revert hh; decide
                          · decide
                      exact hret (upd (upd w 3 (nI (j + 1))) 4 (-3)) _ _ _ _ (hpost) hP hD hS dX5_advance_137
                    · refine lv_iload_n hx hb dX5_advance_128 rfl (lv_at hl 0 rfl) ?_
                      refine lv_goto (tgt := 134) hx hb dX5_advance_129 (by decide) ?_
                      refine va_put (D := G.1) (ci := 5) (v := .int (tx j)) (ty := .int) (C := RX5) (T := TX5) (N := 6) hx hb hts hin5 tyX5 tyX5_ok nmX5 hown hK.1 hP hD hS 0 rfl rfl 4 (by decide) f30 (fun _ h9 => h9) rfl (by decide +kernel) rfl rfl (Nat.le_of_ble_eq_true rfl) dX5_advance_134 (fun H locs hP hD hS => ?_)
                      have hP : va_P G.1 vwCl [oB h 5 (oF5 (upd (upd w 3 (nI (j + 1))) 4 (tx j)) q), aI G (q 0) 140 tx] H := hP
                      have hD : va_D A [oB h 5 (oF5 (upd (upd w 3 (nI (j + 1))) 4 (tx j)) q), aI G (q 0) 140 tx] := hD
                      have hpost : (upd (upd w 3 (nI (j + 1))) 4 (tx j)) 1 = nI len ∧ (upd (upd w 3 (nI (j + 1))) 4 (tx j)) 2 = nI (tkS tx len i) ∧ (upd (upd w 3 (nI (j + 1))) 4 (tx j)) 3 = nI (tkE tx len i) ∧ (upd (upd w 3 (nI (j + 1))) 4 (tx j)) 4 = tkK tx len i ∧ (tkK tx len i = -2 → (upd (upd w 3 (nI (j + 1))) 4 (tx j)) 5 = nI (tkV tx len i)) := by
                        have hts2 : tsk tx len i = j := by rw [← hj2, tsk_stop (fun h => c_30 h.2)]
                        obtain ⟨e1, e2, e3⟩ := tk_let hts2 c_62 c_85
                        rw [e1, e2, e3]
                        refine ⟨hw1, hw2, rfl, ?_, ?_⟩
                        · show _ = if _ then _ else _
                          first
                          | exact (if_pos (Or.inl c_107)).symm
                          | exact (if_pos (Or.inr (Or.inl c_113))).symm
                          | exact (if_pos (Or.inr (Or.inr (Or.inl c_119)))).symm
                          | exact (if_pos (Or.inr (Or.inr (Or.inr c_125)))).symm
                          | exact (if_neg (fun h => h.elim c_107 (fun h => h.elim c_113 (fun h => h.elim c_119 c_125)))).symm
                        · intro h
                          exfalso
                          revert h
                          split
                          · rename_i hh; intro h; rw [h] at hh; revert hh; decide
                          · decide
                      exact hret (upd (upd w 3 (nI (j + 1))) 4 (tx j)) _ _ _ _ (hpost) hP hD hS dX5_advance_137
            · have c_85 : (pFig (tx j)) = true := b2i_n0.mp c_85
              refine lv_aload_n hx hb dX5_advance_88 rfl (lv_at hl 1 rfl) ?_
              refine ca_v (wr := []) (va_runV (As := []) (rest := []) ⟨hx, hb, hml, hown, hts⟩ ((c_X5_takeFigures l G h (upd w 3 (nI j)) q tx len j (hw1) (hlen) (hw2) (rfl) (c_62)) _) (cwV 0 hts gX5_advance_X5_takeFigures rfl rfl rfl (by decide +kernel) ⟨Nat.le_of_ble_eq_true rfl, Nat.le_of_ble_eq_true rfl⟩) (cPre_V hK hP hD [0, 1] (by decide) rfl 0 5 rfl rfl) rfl rfl hl.1 rfl (lv_room (Nat.le_of_ble_eq_true rfl)) dX5_advance_89 ⟨Nat.zero_le _, Nat.zero_le _⟩) hP hD hS hA [0, 1] [] rfl rfl (by decide) (by decide) [0, 1] (fun u_89 => [oB h 5 (oF5 u_89 q), aI G (q 0) 140 tx]) (by decide) (fun _ => rfl) (fun u_89 H locs q_89 hP hD hS => ?_)
              have q_89 : u_89 1 = nI len ∧ u_89 2 = nI j ∧ u_89 3 = nI (te tx len j) ∧ u_89 4 = tkn tx len j ∧ u_89 5 = nI (tv tx len j 0) := q_89
              have hP : va_P G.1 vwCl [oB h 5 (oF5 u_89 q), aI G (q 0) 140 tx] H := hP
              have hD : va_D A [oB h 5 (oF5 u_89 q), aI G (q 0) 140 tx] := hD
              have hpost : u_89 1 = nI len ∧ u_89 2 = nI (tkS tx len i) ∧ u_89 3 = nI (tkE tx len i) ∧ u_89 4 = tkK tx len i ∧ (tkK tx len i = -2 → u_89 5 = nI (tkV tx len i)) := by
                have hts2 : tsk tx len i = j := by rw [← hj2, tsk_stop (fun h => c_30 h.2)]
                obtain ⟨e1, e2, e3, e4⟩ := tk_fig hts2 c_62 c_85
                rw [e1, e2, e3, e4]
                obtain ⟨k1, k2, k3, k4, k5⟩ := q_89
                exact ⟨k1, k2, k3, k4, fun _ => k5⟩
              exact hret u_89 _ _ _ _ (hpost) hP hD hS dX5_advance_92
          · have c_62 : ¬ j < len := fun hne => c_62 ((c_lt (a := j) (b := len) rfl rfl (by omega) (by omega)).mpr hne)
            refine lv_aload_n hx hb dX5_advance_65 rfl (lv_at hl 0 rfl) ?_
            refine lv_iconst (v := -1) hx hb dX5_advance_66 (by decide) ?_
            refine va_put (D := G.1) (ci := 5) (v := .int (-1)) (ty := .int) (C := RX5) (T := TX5) (N := 6) hx hb hts hin5 tyX5 tyX5_ok nmX5 hown hK.1 hP hD hS 0 rfl rfl 4 (by decide) f30 (fun _ h9 => h9) rfl (by decide +kernel) rfl rfl (Nat.le_of_ble_eq_true rfl) dX5_advance_67 (fun H locs hP hD hS => ?_)
            have hP : va_P G.1 vwCl [oB h 5 (oF5 (upd (upd w 3 (nI j)) 4 (-1)) q), aI G (q 0) 140 tx] H := hP
            have hD : va_D A [oB h 5 (oF5 (upd (upd w 3 (nI j)) 4 (-1)) q), aI G (q 0) 140 tx] := hD
            have hpost : (upd (upd w 3 (nI j)) 4 (-1)) 1 = nI len ∧ (upd (upd w 3 (nI j)) 4 (-1)) 2 = nI (tkS tx len i) ∧ (upd (upd w 3 (nI j)) 4 (-1)) 3 = nI (tkE tx len i) ∧ (upd (upd w 3 (nI j)) 4 (-1)) 4 = tkK tx len i ∧ (tkK tx len i = -2 → (upd (upd w 3 (nI j)) 4 (-1)) 5 = nI (tkV tx len i)) := by
              have hts2 : tsk tx len i = j := by rw [← hj2, tsk_stop (fun h => c_30 h.2)]
              obtain ⟨e1, e2, e3⟩ := tk_end hts2 (by omega)
              rw [e1, e2, e3]
              exact ⟨hw1, hw2, rfl, rfl, fun h => absurd h (by decide)⟩
            exact hret (upd (upd w 3 (nI j)) 4 (-1)) _ _ _ _ (hpost) hP hD hS dX5_advance_70
        · refine lv_aload_n hx hb dX5_advance_33 rfl (lv_at hl 0 rfl) ?_
          refine lv_dup hx hb dX5_advance_34 rfl ?_
          refine va_get (D := G.1) (ci := 5) (v := .int (w 2)) (C := RX5) (T := TX5) (N := 6) hx hb hts hin5 hown hK.1 hP 0 rfl rfl 2 (by decide) f43 (fun _ h9 => h9) rfl dX5_advance_35 ?_
          refine top_i (y := nI j) (hw2) ?_
          refine lv_iconst (v := 1) hx hb dX5_advance_38 (by decide) ?_
          refine lv_iadd hx hb dX5_advance_39 ?_
          refine top_i (y := nI (j + 1)) (nI_1 j) ?_
          refine va_put (D := G.1) (ci := 5) (v := .int (nI (j + 1))) (ty := .int) (C := RX5) (T := TX5) (N := 6) hx hb hts hin5 tyX5 tyX5_ok nmX5 hown hK.1 hP hD hS 0 rfl rfl 2 (by decide) f43 (fun _ h9 => h9) rfl (by decide +kernel) rfl rfl (Nat.le_of_ble_eq_true rfl) dX5_advance_40 (fun H locs hP hD hS => ?_)
          have hP : va_P G.1 vwCl [oB h 5 (oF5 (upd w 2 (nI (j + 1))) q), aI G (q 0) 140 tx] H := hP
          have hD : va_D A [oB h 5 (oF5 (upd w 2 (nI (j + 1))) q), aI G (q 0) 140 tx] := hD
          refine lv_goto (tgt := 8) hx hb dX5_advance_43 (by decide) ?_
          exact ih8 (upd w 2 (nI (j + 1))) (j + 1) (by omega) (by omega) (by rw [← tsk_step (by omega) c_30]; exact hj2) (hw1) (rfl) _ _ hP hD hS _ (lv_sub hl [0] rfl)
  exact loop_8 _ (upd v 2 (nI i)) i (Nat.lt_succ_self _) (by omega) (rfl) (hv1) (rfl) _ _ hP hD hS _ (lv_sub hl [0] rfl)

abbrev rX5_readsNumber : Room := { frames := 3, cells := 0, slots := 0, locals := 63 }
set_option maxHeartbeats 4000000 in
set_option maxRecDepth 100000 in
theorem c_X5_readsNumber (l : Launch) (G : kG) (h : Nat) (v : Nat → Int32) (q : Nat → Nat) (tx : Nat → Int32) (len : Nat) (i : Nat) (lo : Int32) (hi2 : Int32) (hv1 : v 1 = nI len) (hlen : len ≤ 140) (hv3 : v 3 = nI i) (hi : i ≤ len) : Ci l G yX5_readsNumber wsX5_readsNumber rX5_readsNumber [.ref h, .int lo, .int hi2] [oB h 5 (oF5 v q), aI G (q 0) 140 tx] (fun r (u : Nat → Int32) => r = b2i (tN tx len i lo hi2) ∧ u 1 = nI len ∧ u 2 = nI (tkS tx len i) ∧ u 3 = nI (tkE tx len i) ∧ u 4 = tkK tx len i ∧ (tN tx len i lo hi2 = true → u 5 = nI (tkV tx len i))) (fun u => [oB h 5 (oF5 u q), aI G (q 0) 140 tx]) := by
  refine Ci.of (cc := cX5_readsNumber) (maxL := 3) (by decide) rfl (Nat.le_of_ble_eq_true rfl) ?_
  intro pM eM sM mM bM tM cM Q A hx hb hts hown hml hA hK hP hD hS hret ls hl
  have hown : sM.vm.findClass RX5 = some mM.cls := hown
  have hl : lv_has ls 3 [(0, .ref h), (1, .int lo), (2, .int hi2)] := hl
  have hin5 : ∀ w ∈ u_ws RX5 TX5 6, w ∈ wsX5_readsNumber := by decide +kernel
  have f30 := hts (.fieldLink RX5 30 "HorizonPeaks$Text" "kind" "I") (by decide +kernel)
  have f53 := hts (.fieldLink RX5 53 "HorizonPeaks$Text" "value" "I") (by decide +kernel)
  refine lv_aload_n hx hb dX5_readsNumber_0 rfl (lv_at hl 0 rfl) ?_
  refine ca_v (wr := []) (va_runV (As := []) (rest := []) ⟨hx, hb, hml, hown, hts⟩ ((c_X5_advance l G h v q tx len i (hv1) (hlen) (hv3) (hi)) _) (cwV 0 hts gX5_readsNumber_X5_advance rfl rfl rfl (by decide +kernel) ⟨Nat.le_of_ble_eq_true rfl, Nat.le_of_ble_eq_true rfl⟩) (cPre_V hK hP hD [0, 1] (by decide) rfl 0 5 rfl rfl) rfl rfl hl.1 rfl (lv_room (Nat.le_of_ble_eq_true rfl)) dX5_readsNumber_1 ⟨Nat.zero_le _, Nat.zero_le _⟩) hP hD hS hA [0, 1] [] rfl rfl (by decide) (by decide) [0, 1] (fun u_1 => [oB h 5 (oF5 u_1 q), aI G (q 0) 140 tx]) (by decide) (fun _ => rfl) (fun u_1 H locs q_1 hP hD hS => ?_)
  have q_1 : u_1 1 = nI len ∧ u_1 2 = nI (tkS tx len i) ∧ u_1 3 = nI (tkE tx len i) ∧ u_1 4 = tkK tx len i ∧ (tkK tx len i = -2 → u_1 5 = nI (tkV tx len i)) := q_1
  have hP : va_P G.1 vwCl [oB h 5 (oF5 u_1 q), aI G (q 0) 140 tx] H := hP
  have hD : va_D A [oB h 5 (oF5 u_1 q), aI G (q 0) 140 tx] := hD
  refine lv_aload_n hx hb dX5_readsNumber_4 rfl (lv_at hl 0 rfl) ?_
  refine va_get (D := G.1) (ci := 5) (v := .int (u_1 4)) (C := RX5) (T := TX5) (N := 6) hx hb hts hin5 hown hK.1 hP 0 rfl rfl 4 (by decide) f30 (fun _ h9 => h9) rfl dX5_readsNumber_5 ?_
  refine top_i (y := tkK tx len i) (q_1.2.2.2.1) ?_
  refine lv_bipush (v := -2) hx hb dX5_readsNumber_8 (by decide) ?_
  refine lv_icmp_ne (tgt := 33) hx hb dX5_readsNumber_10 (by decide) (fun c_10 => ?_) (fun c_10 => ?_)
  · refine lv_iconst (v := 0) hx hb dX5_readsNumber_33 (by decide) ?_
    have hpost : 0 = b2i (tN tx len i lo hi2) ∧ u_1 1 = nI len ∧ u_1 2 = nI (tkS tx len i) ∧ u_1 3 = nI (tkE tx len i) ∧ u_1 4 = tkK tx len i ∧ (tN tx len i lo hi2 = true → u_1 5 = nI (tkV tx len i)) := by
      obtain ⟨k1, k2, k3, k4, k5⟩ := q_1
      refine ⟨?_, k1, k2, k3, k4, ?_⟩
      · simp [b2i, tN, c_10]
      · intro h; exfalso; simp [tN, c_10] at h
    exact hret _ u_1 _ _ _ _ (hpost) (rfl) hP hD hS dX5_readsNumber_34
  · refine lv_aload_n hx hb dX5_readsNumber_13 rfl (lv_at hl 0 rfl) ?_
    refine va_get (D := G.1) (ci := 5) (v := .int (u_1 5)) (C := RX5) (T := TX5) (N := 6) hx hb hts hin5 hown hK.1 hP 0 rfl rfl 5 (by decide) f53 (fun _ h9 => h9) rfl dX5_readsNumber_14 ?_
    refine lv_iload_n hx hb dX5_readsNumber_17 rfl (lv_at hl 1 rfl) ?_
    refine lv_icmp_lt (tgt := 33) hx hb dX5_readsNumber_18 (by decide) (fun c_18 => ?_) (fun c_18 => ?_)
    · refine lv_iconst (v := 0) hx hb dX5_readsNumber_33 (by decide) ?_
      have hpost : 0 = b2i (tN tx len i lo hi2) ∧ u_1 1 = nI len ∧ u_1 2 = nI (tkS tx len i) ∧ u_1 3 = nI (tkE tx len i) ∧ u_1 4 = tkK tx len i ∧ (tN tx len i lo hi2 = true → u_1 5 = nI (tkV tx len i)) := by
        obtain ⟨k1, k2, k3, k4, k5⟩ := q_1
        have k6 := k5 c_10
        rw [k6] at c_18
        refine ⟨?_, k1, k2, k3, k4, fun _ => k6⟩
        simp [b2i, tN, c_10, c_18]
      exact hret _ u_1 _ _ _ _ (hpost) (rfl) hP hD hS dX5_readsNumber_34
    · refine lv_aload_n hx hb dX5_readsNumber_21 rfl (lv_at hl 0 rfl) ?_
      refine va_get (D := G.1) (ci := 5) (v := .int (u_1 5)) (C := RX5) (T := TX5) (N := 6) hx hb hts hin5 hown hK.1 hP 0 rfl rfl 5 (by decide) f53 (fun _ h9 => h9) rfl dX5_readsNumber_22 ?_
      refine lv_iload_n hx hb dX5_readsNumber_25 rfl (lv_at hl 2 rfl) ?_
      refine lv_icmp_gt (tgt := 33) hx hb dX5_readsNumber_26 (by decide) (fun c_26 => ?_) (fun c_26 => ?_)
      · refine lv_iconst (v := 0) hx hb dX5_readsNumber_33 (by decide) ?_
        have hpost : 0 = b2i (tN tx len i lo hi2) ∧ u_1 1 = nI len ∧ u_1 2 = nI (tkS tx len i) ∧ u_1 3 = nI (tkE tx len i) ∧ u_1 4 = tkK tx len i ∧ (tN tx len i lo hi2 = true → u_1 5 = nI (tkV tx len i)) := by
          obtain ⟨k1, k2, k3, k4, k5⟩ := q_1
          have k6 := k5 c_10
          rw [k6] at c_18 c_26
          refine ⟨?_, k1, k2, k3, k4, fun _ => k6⟩
          simp [b2i, tN, c_10, c_18, c_26]
        exact hret _ u_1 _ _ _ _ (hpost) (rfl) hP hD hS dX5_readsNumber_34
      · refine lv_iconst (v := 1) hx hb dX5_readsNumber_29 (by decide) ?_
        refine lv_goto (tgt := 34) hx hb dX5_readsNumber_30 (by decide) ?_
        have hpost : 1 = b2i (tN tx len i lo hi2) ∧ u_1 1 = nI len ∧ u_1 2 = nI (tkS tx len i) ∧ u_1 3 = nI (tkE tx len i) ∧ u_1 4 = tkK tx len i ∧ (tN tx len i lo hi2 = true → u_1 5 = nI (tkV tx len i)) := by
          obtain ⟨k1, k2, k3, k4, k5⟩ := q_1
          have k6 := k5 c_10
          rw [k6] at c_18 c_26
          refine ⟨?_, k1, k2, k3, k4, fun _ => k6⟩
          simp [b2i, tN, c_10, c_18, c_26]
        exact hret _ u_1 _ _ _ _ (hpost) (rfl) hP hD hS dX5_readsNumber_34

abbrev rX5_readsItemEnd : Room := { frames := 3, cells := 0, slots := 0, locals := 63 }
set_option maxHeartbeats 4000000 in
set_option maxRecDepth 100000 in
theorem c_X5_readsItemEnd (l : Launch) (G : kG) (h : Nat) (v : Nat → Int32) (q : Nat → Nat) (tx : Nat → Int32) (len : Nat) (i : Nat) (hv1 : v 1 = nI len) (hlen : len ≤ 140) (hv3 : v 3 = nI i) (hi : i ≤ len) : Ci l G yX5_readsItemEnd wsX5_readsItemEnd rX5_readsItemEnd [.ref h] [oB h 5 (oF5 v q), aI G (q 0) 140 tx] (fun r (u : Nat → Int32) => r = b2i (decide (tkK tx len i = 59)) ∧ u 1 = nI len ∧ u 2 = nI (tkS tx len i) ∧ u 3 = nI (tkE tx len i) ∧ u 4 = tkK tx len i) (fun u => [oB h 5 (oF5 u q), aI G (q 0) 140 tx]) := by
  refine Ci.of (cc := cX5_readsItemEnd) (maxL := 1) (by decide) rfl (Nat.le_of_ble_eq_true rfl) ?_
  intro pM eM sM mM bM tM cM Q A hx hb hts hown hml hA hK hP hD hS hret ls hl
  have hown : sM.vm.findClass RX5 = some mM.cls := hown
  have hl : lv_has ls 1 [(0, .ref h)] := hl
  have hin5 : ∀ w ∈ u_ws RX5 TX5 6, w ∈ wsX5_readsItemEnd := by decide +kernel
  have f30 := hts (.fieldLink RX5 30 "HorizonPeaks$Text" "kind" "I") (by decide +kernel)
  refine lv_aload_n hx hb dX5_readsItemEnd_0 rfl (lv_at hl 0 rfl) ?_
  refine ca_v (wr := []) (va_runV (As := []) (rest := []) ⟨hx, hb, hml, hown, hts⟩ ((c_X5_advance l G h v q tx len i (hv1) (hlen) (hv3) (hi)) _) (cwV 0 hts gX5_readsItemEnd_X5_advance rfl rfl rfl (by decide +kernel) ⟨Nat.le_of_ble_eq_true rfl, Nat.le_of_ble_eq_true rfl⟩) (cPre_V hK hP hD [0, 1] (by decide) rfl 0 5 rfl rfl) rfl rfl hl.1 rfl (lv_room (Nat.le_of_ble_eq_true rfl)) dX5_readsItemEnd_1 ⟨Nat.zero_le _, Nat.zero_le _⟩) hP hD hS hA [0, 1] [] rfl rfl (by decide) (by decide) [0, 1] (fun u_1 => [oB h 5 (oF5 u_1 q), aI G (q 0) 140 tx]) (by decide) (fun _ => rfl) (fun u_1 H locs q_1 hP hD hS => ?_)
  have q_1 : u_1 1 = nI len ∧ u_1 2 = nI (tkS tx len i) ∧ u_1 3 = nI (tkE tx len i) ∧ u_1 4 = tkK tx len i ∧ (tkK tx len i = -2 → u_1 5 = nI (tkV tx len i)) := q_1
  have hP : va_P G.1 vwCl [oB h 5 (oF5 u_1 q), aI G (q 0) 140 tx] H := hP
  have hD : va_D A [oB h 5 (oF5 u_1 q), aI G (q 0) 140 tx] := hD
  refine lv_aload_n hx hb dX5_readsItemEnd_4 rfl (lv_at hl 0 rfl) ?_
  refine va_get (D := G.1) (ci := 5) (v := .int (u_1 4)) (C := RX5) (T := TX5) (N := 6) hx hb hts hin5 hown hK.1 hP 0 rfl rfl 4 (by decide) f30 (fun _ h9 => h9) rfl dX5_readsItemEnd_5 ?_
  refine top_i (y := tkK tx len i) (q_1.2.2.2.1) ?_
  refine lv_bipush (v := 59) hx hb dX5_readsItemEnd_8 (by decide) ?_
  refine lv_icmp_ne (tgt := 17) hx hb dX5_readsItemEnd_10 (by decide) (fun c_10 => ?_) (fun c_10 => ?_)
  · refine lv_iconst (v := 0) hx hb dX5_readsItemEnd_17 (by decide) ?_
    have hpost : 0 = b2i (decide (tkK tx len i = 59)) ∧ u_1 1 = nI len ∧ u_1 2 = nI (tkS tx len i) ∧ u_1 3 = nI (tkE tx len i) ∧ u_1 4 = tkK tx len i := by
      obtain ⟨k1, k2, k3, k4, k5⟩ := q_1
      refine ⟨?_, k1, k2, k3, k4⟩
      simp [b2i, c_10]
    exact hret _ u_1 _ _ _ _ (hpost) (rfl) hP hD hS dX5_readsItemEnd_18
  · refine lv_iconst (v := 1) hx hb dX5_readsItemEnd_13 (by decide) ?_
    refine lv_goto (tgt := 18) hx hb dX5_readsItemEnd_14 (by decide) ?_
    have hpost : 1 = b2i (decide (tkK tx len i = 59)) ∧ u_1 1 = nI len ∧ u_1 2 = nI (tkS tx len i) ∧ u_1 3 = nI (tkE tx len i) ∧ u_1 4 = tkK tx len i := by
      obtain ⟨k1, k2, k3, k4, k5⟩ := q_1
      refine ⟨?_, k1, k2, k3, k4⟩
      simp [b2i, c_10]
    exact hret _ u_1 _ _ _ _ (hpost) (rfl) hP hD hS dX5_readsItemEnd_18
