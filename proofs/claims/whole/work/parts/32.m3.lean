def arM (σ : PS) (rx ry rh ra rb : Nat → Int32) : Prop := (∀ p, p < zn σ → rx p = nI (zx σ p) ∧ ry p = nI (zy σ p) ∧ rh p = nI (zz σ p)) ∧ ∀ r, r < zm σ → ra r = nI (za σ r) ∧ rb r = nI (zb σ r)
def obM (σ : PS) (v : Nat → Int32) : Prop := v 28 = nI (zn σ) ∧ v 32 = nI (zm σ) ∧ v 35 = nI (zl σ)
theorem arM_P {σ : PS} {rx ry rh ra rb : Nat → Int32} {x y z : Nat} (h : arM σ rx ry rh ra rb) : arM (addP σ x y z) (upd rx (zn σ) (nI x)) (upd ry (zn σ) (nI y)) (upd rh (zn σ) (nI z)) ra rb := by
  refine ⟨?_, h.2⟩
  intro p hp
  have hp' : p < zn σ + 1 := hp
  show upd rx (zn σ) (nI x) p = nI (updN (zx σ) (zn σ) x p) ∧ upd ry (zn σ) (nI y) p = nI (updN (zy σ) (zn σ) y p) ∧ upd rh (zn σ) (nI z) p = nI (updN (zz σ) (zn σ) z p)
  by_cases e : p = zn σ
  · rw [e, pk_us, pk_us, pk_us, updN_s, updN_s, updN_s]; exact ⟨rfl, rfl, rfl⟩
  · rw [pk_un e, pk_un e, pk_un e, updN_n e, updN_n e, updN_n e]; exact h.1 p (by omega)
theorem arM_R {σ : PS} {rx ry rh ra rb : Nat → Int32} {a b : Nat} (h : arM σ rx ry rh ra rb) : arM (addR σ a b) rx ry rh (upd ra (zm σ) (nI a)) (upd rb (zm σ) (nI b)) := by
  refine ⟨h.1, ?_⟩
  intro r hr
  have hr' : r < zm σ + 1 := hr
  show upd ra (zm σ) (nI a) r = nI (updN (za σ) (zm σ) a r) ∧ upd rb (zm σ) (nI b) r = nI (updN (zb σ) (zm σ) b r)
  by_cases e : r = zm σ
  · rw [e, pk_us, pk_us, updN_s, updN_s]; exact ⟨rfl, rfl⟩
  · rw [pk_un e, pk_un e, updN_n e, updN_n e]; exact h.2 r (by omega)
/-- an item but for its end -/
def mPeak (tx : Nat → Int32) (len : Nat) (σ : PS) (s0 i : Nat) : (Bool × Nat × Nat) × PS :=
  if 10 ≤ zn σ then ((false, s0, i), σ)
  else if tN tx len i 0 7 = false then ((false, tkS tx len i, tkE tx len i), σ)
  else if tN tx len (tkE tx len i) 0 7 = false then ((false, tkS tx len (tkE tx len i), tkE tx len (tkE tx len i)), σ)
  else if pAtN (zx σ) (zy σ) (zn σ) (tkV tx len i * 8 + tkV tx len (tkE tx len i)) = true then ((false, tkS tx len (tkE tx len i), tkE tx len (tkE tx len i)), σ)
  else if tN tx len (tkE tx len (tkE tx len i)) 1 40 = false then ((false, tkS tx len (tkE tx len (tkE tx len i)), tkE tx len (tkE tx len (tkE tx len i))), σ)
  else ((true, tkS tx len (tkE tx len (tkE tx len i)), tkE tx len (tkE tx len (tkE tx len i))), addP σ (tkV tx len i) (tkV tx len (tkE tx len i)) (tkV tx len (tkE tx len (tkE tx len i))))
def mRidge (tx : Nat → Int32) (len : Nat) (σ : PS) (s0 i : Nat) : (Bool × Nat × Nat) × PS :=
  if 8 ≤ zm σ then ((false, s0, i), σ)
  else if tN tx len i 0 (nI (zn σ) - 1) = false then ((false, tkS tx len i, tkE tx len i), σ)
  else if tN tx len (tkE tx len i) 0 (nI (zn σ) - 1) = false then ((false, tkS tx len (tkE tx len i), tkE tx len (tkE tx len i)), σ)
  else if tkV tx len (tkE tx len i) = tkV tx len i then ((false, tkS tx len (tkE tx len i), tkE tx len (tkE tx len i)), σ)
  else ((true, tkS tx len (tkE tx len i), tkE tx len (tkE tx len i)), addR σ (tkV tx len i) (tkV tx len (tkE tx len i)))
def mSlack (tx : Nat → Int32) (len : Nat) (σ : PS) (i : Nat) : (Bool × Nat × Nat) × PS :=
  if tN tx len i 0 3 = false then ((false, tkS tx len i, tkE tx len i), σ) else ((true, tkS tx len i, tkE tx len i), setS σ (tkV tx len i))
def mItem (tx : Nat → Int32) (len : Nat) (σ : PS) (i : Nat) : (Bool × Nat × Nat) × PS :=
  if tkK tx len i = 112 then mPeak tx len σ (tkS tx len i) (tkE tx len i)
  else if tkK tx len i = 114 then mRidge tx len σ (tkS tx len i) (tkE tx len i)
  else if tkK tx len i = 115 then mSlack tx len σ (tkE tx len i)
  else ((false, tkS tx len i, tkE tx len i), σ)
def mFin (tx : Nat → Int32) (len : Nat) (σ : PS) (m : (Bool × Nat × Nat) × PS) : (Bool × Nat × Nat) × PS :=
  if m.1.1 = true then (if tkK tx len m.1.2.2 = 59 then ((true, tkS tx len m.1.2.2, tkE tx len m.1.2.2), m.2) else ((false, tkS tx len m.1.2.2, tkE tx len m.1.2.2), σ)) else (m.1, σ)
theorem itemR_m (tx : Nat → Int32) (len : Nat) (σ : PS) (i : Nat) : itemR tx len σ i = mFin tx len σ (mItem tx len σ i) := by
  unfold itemR mItem
  split
  · unfold itPeak mPeak mFin
    (repeat' split) <;> simp_all
  split
  · unfold itRidge mRidge mFin
    (repeat' split) <;> simp_all
  split
  · unfold itSlack mSlack mFin
    (repeat' split) <;> simp_all
  · simp [mFin]
theorem mt_let {tx : Nat → Int32} {len i c : Nat} (hT : ∀ k, k < len → ∃ c : Nat, c ≤ 255 ∧ tx k = nI c) (hc : c = 112 ∨ c = 114 ∨ c = 115 ∨ c = 59) : mtok tx len i = nI c ↔ tkK tx len i = nI c := by
  have hc2 : 59 ≤ c ∧ c ≤ 115 := by omega
  have nf : pFig (nI c) = false := by rcases hc with e | e | e | e <;> (rw [e]; decide)
  by_cases h1 : len ≤ tsk tx len i
  · rw [mtok, tkK, if_pos h1, if_pos h1]
  · rw [mtok, tkK, if_neg h1, if_neg h1]
    by_cases h2 : pFig (tx (tsk tx len i)) = true
    · rw [if_pos h2, if_pos h2]
      have hV := tkV_le tx len i
      have a1 : ¬ (if tkn tx len (tsk tx len i) = -3 then 2000 else nI (1000 + tkV tx len i)) = nI c := by
        split
        · intro q; rw [show (2000 : Int32) = nI 2000 from rfl, nI_eq (by omega) (by omega)] at q; omega
        · intro q; rw [nI_eq (by omega) (by omega)] at q; omega
      have a2 : ¬ tkn tx len (tsk tx len i) = nI c := by
        unfold tkn
        split
        · rcases hc with e | e | e | e <;> (rw [e]; decide)
        · rcases hc with e | e | e | e <;> (rw [e]; decide)
      exact ⟨fun q => absurd q a1, fun q => absurd q a2⟩
    · rw [if_neg h2, if_neg h2]
      constructor
      · intro q
        rw [q, if_pos]
        rcases hc with e | e | e | e <;> (rw [e]; decide)
      · intro q
        split at q
        · exact q
        · exfalso; revert q; rcases hc with e | e | e | e <;> (rw [e]; decide)
theorem mt_end {tx : Nat → Int32} {len i : Nat} (hT : ∀ k, k < len → ∃ c : Nat, c ≤ 255 ∧ tx k = nI c) : mtok tx len i = -1 ↔ tkK tx len i = -1 := by
  by_cases h1 : len ≤ tsk tx len i
  · rw [mtok, tkK, if_pos h1, if_pos h1]
  · rw [mtok, tkK, if_neg h1, if_neg h1]
    have m1n : ∀ c : Nat, c < 2147483648 → ¬ nI c = -1 := fun c hc q => by
      have := congrArg Int32.toInt q
      rw [nI_toInt hc] at this
      have h9 : (-1 : Int32).toInt = -1 := by decide
      omega
    by_cases h2 : pFig (tx (tsk tx len i)) = true
    · rw [if_pos h2, if_pos h2]
      have hV := tkV_le tx len i
      have a1 : ¬ (if tkn tx len (tsk tx len i) = -3 then 2000 else nI (1000 + tkV tx len i)) = -1 := by
        split
        · decide
        · exact m1n _ (by omega)
      have a2 : ¬ tkn tx len (tsk tx len i) = -1 := by unfold tkn; split <;> decide
      exact ⟨fun q => absurd q a1, fun q => absurd q a2⟩
    · rw [if_neg h2, if_neg h2]
      obtain ⟨c, hc, hcx⟩ := hT _ (show tsk tx len i < len by omega)
      rw [hcx]
      have a1 := m1n c (by omega)
      refine ⟨fun q => absurd q a1, fun q => ?_⟩
      split at q
      · exact absurd q a1
      · exact absurd q (by decide)
abbrev rX8_readsPeak : Room := { frames := 4, cells := 0, slots := 0, locals := 86 }
set_option maxHeartbeats 4000000 in
set_option maxRecDepth 100000 in
theorem c_X8_readsPeak (l : Launch) (G : kG) (h : Nat) (v : Nat → Int32) (q : Nat → Nat) (tx : Nat → Int32) (rx : Nat → Int32) (ry : Nat → Int32) (rh : Nat → Int32) (ra : Nat → Int32) (rb : Nat → Int32) (σ : PS) (len : Nat) (s0 : Nat) (i : Nat) (hl22 : v 22 = nI len) (hlen : len ≤ 140) (hn : v 24 = nI i) (hi : i ≤ len) (hT : ∀ k, k < len → ∃ c : Nat, c ≤ 255 ∧ tx k = nI c) (hok : okPS σ) (hob : obM σ v) (har : arM σ rx ry rh ra rb) (hv25 : v 25 = nI s0) : Ci l G yX8_readsPeak wsX8_readsPeak rX8_readsPeak [.ref h] [oB h 8 (oF8 v q), aI G (q 23) 140 tx, aI G (q 29) 10 rx, aI G (q 30) 10 ry, aI G (q 31) 10 rh] (fun r (u : (Nat → Int32) × (Nat → Int32) × (Nat → Int32) × (Nat → Int32)) => r = b2i (mPeak tx len σ s0 i).1.1 ∧ u.1 25 = nI (mPeak tx len σ s0 i).1.2.1 ∧ ((mPeak tx len σ s0 i).1.1 = true → u.1 24 = nI (mPeak tx len σ s0 i).1.2.2 ∧ obM (mPeak tx len σ s0 i).2 u.1 ∧ arM (mPeak tx len σ s0 i).2 u.2.1 u.2.2.1 u.2.2.2 ra rb) ∧ (∀ k, ¬ k = 24 → ¬ k = 25 → ¬ k = 26 → ¬ k = 27 → ¬ k = 28 → ¬ k = 32 → ¬ k = 35 → u.1 k = v k)) (fun u => [oB h 8 (oF8 u.1 q), aI G (q 23) 140 tx, aI G (q 29) 10 u.2.1, aI G (q 30) 10 u.2.2.1, aI G (q 31) 10 u.2.2.2]) := by
  refine Ci.of (cc := cX8_readsPeak) (maxL := 3) (by decide) rfl (Nat.le_of_ble_eq_true rfl) ?_
  intro pM eM sM mM bM tM cM Q A hx hb hts hown hml hA hK hP hD hS hret ls hl
  have hown : sM.vm.findClass RX8 = some mM.cls := hown
  have hl : lv_has ls 3 [(0, .ref h)] := hl
  have hin8 : ∀ w ∈ u_ws RX8 TX8 44, w ∈ wsX8_readsPeak := by decide +kernel
  have f131 := hts (.fieldLink RX8 131 "HorizonPeaksModel" "readPeaks" "I") (by decide +kernel)
  have f128 := hts (.fieldLink RX8 128 "HorizonPeaksModel" "number" "I") (by decide +kernel)
  have f62 := hts (.fieldLink RX8 62 "HorizonPeaksModel" "readX" "[I") (by decide +kernel)
  have f65 := hts (.fieldLink RX8 65 "HorizonPeaksModel" "readY" "[I") (by decide +kernel)
  have f68 := hts (.fieldLink RX8 68 "HorizonPeaksModel" "readHigh" "[I") (by decide +kernel)
  have hn10 := hok.1
  have hVa := tkV_le tx len i
  have hVb := tkV_le tx len (tkE tx len i)
  refine lv_aload_n hx hb dX8_readsPeak_0 rfl (lv_at hl 0 rfl) ?_
  refine va_get (D := G.1) (ci := 8) (v := .int (v 28)) (C := RX8) (T := TX8) (N := 44) hx hb hts hin8 hown hK.1 hP 0 rfl rfl 28 (by decide) f131 (fun _ h9 => h9) rfl dX8_readsPeak_1 ?_
  refine top_i (y := nI (zn σ)) (hob.1) ?_
  refine lv_bipush (v := 10) hx hb dX8_readsPeak_4 (by decide) ?_
  refine lv_icmp_eq (tgt := 19) hx hb dX8_readsPeak_6 (by decide) (fun c_6 => ?_) (fun c_6 => ?_)
  · have c_6 : (zn σ) = 10 := (c_eq (a := zn σ) (b := 10) rfl rfl (by omega) (by omega)).mp c_6
    refine lv_iconst (v := 0) hx hb dX8_readsPeak_19 (by decide) ?_
    have hpost : (0 : Int32) = b2i (mPeak tx len σ s0 i).1.1 ∧ (v, rx, ry, rh).1 25 = nI (mPeak tx len σ s0 i).1.2.1 ∧ ((mPeak tx len σ s0 i).1.1 = true → (v, rx, ry, rh).1 24 = nI (mPeak tx len σ s0 i).1.2.2 ∧ obM (mPeak tx len σ s0 i).2 (v, rx, ry, rh).1 ∧ arM (mPeak tx len σ s0 i).2 (v, rx, ry, rh).2.1 (v, rx, ry, rh).2.2.1 (v, rx, ry, rh).2.2.2 ra rb) ∧ (∀ k, ¬ k = 24 → ¬ k = 25 → ¬ k = 26 → ¬ k = 27 → ¬ k = 28 → ¬ k = 32 → ¬ k = 35 → (v, rx, ry, rh).1 k = v k) := by
      have e : mPeak tx len σ s0 i = ((false, s0, i), σ) := by rw [mPeak, if_pos (by omega)]
      rw [e]
      exact ⟨rfl, hv25, fun h => (by cases h), fun k h24 h25 h26 h27 h28 h32 h35 => by rfl⟩
    exact hret _ (v, rx, ry, rh) _ _ _ _ (hpost) (rfl) hP hD hS dX8_readsPeak_20
  · have c_6 : ¬ (zn σ) = 10 := fun hne => c_6 ((c_eq (a := zn σ) (b := 10) rfl rfl (by omega) (by omega)).mpr hne)
    refine lv_aload_n hx hb dX8_readsPeak_9 rfl (lv_at hl 0 rfl) ?_
    refine lv_iconst (v := 0) hx hb dX8_readsPeak_10 (by decide) ?_
    refine lv_bipush (v := 7) hx hb dX8_readsPeak_11 (by decide) ?_
    refine ca_i (wr := [aI G (q 29) 10 rx, aI G (q 30) 10 ry, aI G (q 31) 10 rh]) (va_runV (As := [.int 0, .int 7]) (rest := []) ⟨hx, hb, hml, hown, hts⟩ ((c_X8_reads l G h v q tx len i 0 7 (hl22) (hlen) (hn) (hi) (hT) (by omega) (by omega)) _) (cwV 2 hts gX8_readsPeak_X8_reads rfl rfl rfl (by decide +kernel) ⟨Nat.le_of_ble_eq_true rfl, Nat.le_of_ble_eq_true rfl⟩) (cPre_V hK hP hD [0, 1] (by decide) rfl 0 8 rfl rfl) rfl rfl hl.1 rfl (lv_room (Nat.le_of_ble_eq_true rfl)) dX8_readsPeak_13 ⟨Nat.zero_le _, Nat.zero_le _⟩) hP hD hS hA [0, 1] [2, 3, 4] rfl rfl (by decide) (by decide) [3, 4, 0, 1, 2] (fun u_13 => [oB h 8 (oF8 u_13 q), aI G (q 23) 140 tx, aI G (q 29) 10 rx, aI G (q 30) 10 ry, aI G (q 31) 10 rh]) (by decide) (fun _ => rfl) (fun r_13 u_13 H locs q_13 hP hD hS => ?_)
    obtain ⟨rfl, q_13⟩ : r_13 = b2i (tN tx len i (nI 0) (nI 7)) ∧ (u_13 24 = nI (tkE tx len i) ∧ u_13 25 = nI (tkS tx len i) ∧ u_13 26 = mtok tx len i ∧ (tN tx len i (nI 0) (nI 7) = true → u_13 27 = nI (tkV tx len i)) ∧ (∀ k, ¬ k = 24 → ¬ k = 25 → ¬ k = 26 → ¬ k = 27 → u_13 k = v k)) := q_13
    have hP : va_P G.1 vwCl [oB h 8 (oF8 u_13 q), aI G (q 23) 140 tx, aI G (q 29) 10 rx, aI G (q 30) 10 ry, aI G (q 31) 10 rh] H := hP
    have hD : va_D A [oB h 8 (oF8 u_13 q), aI G (q 23) 140 tx, aI G (q 29) 10 rx, aI G (q 30) 10 ry, aI G (q 31) 10 rh] := hD
    refine lv_if_ne (tgt := 21) hx hb dX8_readsPeak_16 (by decide) (fun c_16 => ?_) (fun c_16 => ?_)
    · have c_16 : (tN tx len i (nI 0) (nI 7)) = true := b2i_n0.mp c_16
      have c_16 : tN tx len i 0 7 = true := c_16
      have hV0 := (tN_V (lo := 0) (hi := 7) (by decide) (by decide) c_16).2
      refine lv_aload_n hx hb dX8_readsPeak_21 rfl (lv_at hl 0 rfl) ?_
      refine va_get (D := G.1) (ci := 8) (v := .int (u_13 27)) (C := RX8) (T := TX8) (N := 44) hx hb hts hin8 hown hK.1 hP 0 rfl rfl 27 (by decide) f128 (fun _ h9 => h9) rfl dX8_readsPeak_22 ?_
      refine top_i (y := nI (tkV tx len i)) (q_13.2.2.2.1 c_16) ?_
      refine lv_istore_n (lv' := [(1, .int (nI (tkV tx len i))), (0, .ref h)]) hx hb dX8_readsPeak_25 rfl hl (by decide) rfl (fun ls hl => ?_)
      refine lv_aload_n hx hb dX8_readsPeak_26 rfl (lv_at hl 1 rfl) ?_
      refine lv_iconst (v := 0) hx hb dX8_readsPeak_27 (by decide) ?_
      refine lv_bipush (v := 7) hx hb dX8_readsPeak_28 (by decide) ?_
      refine ca_i (wr := [aI G (q 29) 10 rx, aI G (q 30) 10 ry, aI G (q 31) 10 rh]) (va_runV (As := [.int 0, .int 7]) (rest := []) ⟨hx, hb, hml, hown, hts⟩ ((c_X8_reads l G h u_13 q tx len (tkE tx len i) 0 7 ((q_13.2.2.2.2 22 (by decide) (by decide) (by decide) (by decide)).trans (hl22)) (hlen) (q_13.1) ((tk_le hi).2.2) (hT) (by omega) (by omega)) _) (cwV 2 hts gX8_readsPeak_X8_reads rfl rfl rfl (by decide +kernel) ⟨Nat.le_of_ble_eq_true rfl, Nat.le_of_ble_eq_true rfl⟩) (cPre_V hK hP hD [0, 1] (by decide) rfl 0 8 rfl rfl) rfl rfl hl.1 rfl (lv_room (Nat.le_of_ble_eq_true rfl)) dX8_readsPeak_30 ⟨Nat.zero_le _, Nat.zero_le _⟩) hP hD hS hA [0, 1] [2, 3, 4] rfl rfl (by decide) (by decide) [3, 4, 0, 1, 2] (fun u_30 => [oB h 8 (oF8 u_30 q), aI G (q 23) 140 tx, aI G (q 29) 10 rx, aI G (q 30) 10 ry, aI G (q 31) 10 rh]) (by decide) (fun _ => rfl) (fun r_30 u_30 H locs q_30 hP hD hS => ?_)
      obtain ⟨rfl, q_30⟩ : r_30 = b2i (tN tx len (tkE tx len i) (nI 0) (nI 7)) ∧ (u_30 24 = nI (tkE tx len (tkE tx len i)) ∧ u_30 25 = nI (tkS tx len (tkE tx len i)) ∧ u_30 26 = mtok tx len (tkE tx len i) ∧ (tN tx len (tkE tx len i) (nI 0) (nI 7) = true → u_30 27 = nI (tkV tx len (tkE tx len i))) ∧ (∀ k, ¬ k = 24 → ¬ k = 25 → ¬ k = 26 → ¬ k = 27 → u_30 k = u_13 k)) := q_30
      have hP : va_P G.1 vwCl [oB h 8 (oF8 u_30 q), aI G (q 23) 140 tx, aI G (q 29) 10 rx, aI G (q 30) 10 ry, aI G (q 31) 10 rh] H := hP
      have hD : va_D A [oB h 8 (oF8 u_30 q), aI G (q 23) 140 tx, aI G (q 29) 10 rx, aI G (q 30) 10 ry, aI G (q 31) 10 rh] := hD
      refine lv_if_ne (tgt := 38) hx hb dX8_readsPeak_33 (by decide) (fun c_33 => ?_) (fun c_33 => ?_)
      · have c_33 : (tN tx len (tkE tx len i) (nI 0) (nI 7)) = true := b2i_n0.mp c_33
        have c_33 : tN tx len (tkE tx len i) 0 7 = true := c_33
        have hV1 := (tN_V (lo := 0) (hi := 7) (by decide) (by decide) c_33).2
        refine lv_iconst (v := 0) hx hb dX8_readsPeak_38 (by decide) ?_
        refine lv_istore_n (lv' := [(2, .int 0), (1, .int (nI (tkV tx len i))), (0, .ref h)]) hx hb dX8_readsPeak_39 rfl hl (by decide) rfl (fun ls hl => ?_)
        have loop_40 : ∀ (nF : Nat) (k : Nat), (zn σ - k) < nF → (k ≤ zn σ) → (∀ a, a < k → ¬ (zx σ a = tkV tx len i ∧ zy σ a = tkV tx len (tkE tx len i))) → ∀ (H : Heap) (locs : List Loc), va_P G.1 vwCl [oB h 8 (oF8 u_30 q), aI G (q 23) 140 tx, aI G (q 29) 10 rx, aI G (q 30) 10 ry, aI G (q 31) 10 rh] H → va_D A [oB h 8 (oF8 u_30 q), aI G (q 23) 140 tx, aI G (q 29) 10 rx, aI G (q 30) 10 ry, aI G (q 31) 10 rh] → va_S A sM.heap H locs → ∀ (ls : Array Slot), lv_has ls 3 [(2, .int (nI k)), (1, .int (nI (tkV tx len i))), (0, .ref h)] → W pM l eM rX8_readsPeak sM mM [.ref h].toArray bM tM cM H locs 0 0 Q (F0 mM 40 ls []) := by
          intro nF
          induction nF with
          | zero => intro k hmF; exact absurd hmF (Nat.not_lt_zero _)
          | succ nF ih40 =>
            intro k hmF hk hd H locs hP hD hS ls hl
            refine lv_iload_n hx hb dX8_readsPeak_40 rfl (lv_at hl 0 rfl) ?_
            refine lv_aload_n hx hb dX8_readsPeak_41 rfl (lv_at hl 2 rfl) ?_
            refine va_get (D := G.1) (ci := 8) (v := .int (u_30 28)) (C := RX8) (T := TX8) (N := 44) hx hb hts hin8 hown hK.1 hP 0 rfl rfl 28 (by decide) f131 (fun _ h9 => h9) rfl dX8_readsPeak_42 ?_
            refine top_i (y := nI (zn σ)) ((q_30.2.2.2.2 28 (by decide) (by decide) (by decide) (by decide)).trans ((q_13.2.2.2.2 28 (by decide) (by decide) (by decide) (by decide)).trans (hob.1))) ?_
            refine lv_icmp_ge (tgt := 79) hx hb dX8_readsPeak_45 (by decide) (fun c_45 => ?_) (fun c_45 => ?_)
            · have c_45 : (zn σ) ≤ k := (c_le (a := zn σ) (b := k) rfl rfl (by omega) (by omega)).mp c_45
              refine lv_aload_n hx hb dX8_readsPeak_79 rfl (lv_at hl 2 rfl) ?_
              refine va_get (D := G.1) (ci := 8) (v := .ref (q 29)) (C := RX8) (T := TX8) (N := 44) hx hb hts hin8 hown hK.1 hP 0 rfl rfl 29 (by decide) f62 (fun _ h9 => h9) rfl dX8_readsPeak_80 ?_
              refine lv_aload_n hx hb dX8_readsPeak_83 rfl (lv_at hl 2 rfl) ?_
              refine va_get (D := G.1) (ci := 8) (v := .int (u_30 28)) (C := RX8) (T := TX8) (N := 44) hx hb hts hin8 hown hK.1 hP 0 rfl rfl 28 (by decide) f131 (fun _ h9 => h9) rfl dX8_readsPeak_84 ?_
              refine top_i (y := nI (zn σ)) ((q_30.2.2.2.2 28 (by decide) (by decide) (by decide) (by decide)).trans ((q_13.2.2.2.2 28 (by decide) (by decide) (by decide) (by decide)).trans (hob.1))) ?_
              refine lv_iload_n hx hb dX8_readsPeak_87 rfl (lv_at hl 1 rfl) ?_
              refine as_i hx hb hK.1 hP hD hS 2 0 rfl rfl (j := zn σ) (by omega) (Nat.le_of_ble_eq_true rfl) dX8_readsPeak_88 (fun H locs hP hD hS => ?_)
              have hP : va_P G.1 vwCl [oB h 8 (oF8 u_30 q), aI G (q 23) 140 tx, aI G (q 29) 10 (upd rx (zn σ) (nI (tkV tx len i))), aI G (q 30) 10 ry, aI G (q 31) 10 rh] H := hP
              have hD : va_D A [oB h 8 (oF8 u_30 q), aI G (q 23) 140 tx, aI G (q 29) 10 (upd rx (zn σ) (nI (tkV tx len i))), aI G (q 30) 10 ry, aI G (q 31) 10 rh] := hD
              refine lv_aload_n hx hb dX8_readsPeak_89 rfl (lv_at hl 2 rfl) ?_
              refine va_get (D := G.1) (ci := 8) (v := .ref (q 30)) (C := RX8) (T := TX8) (N := 44) hx hb hts hin8 hown hK.1 hP 0 rfl rfl 30 (by decide) f65 (fun _ h9 => h9) rfl dX8_readsPeak_90 ?_
              refine lv_aload_n hx hb dX8_readsPeak_93 rfl (lv_at hl 2 rfl) ?_
              refine va_get (D := G.1) (ci := 8) (v := .int (u_30 28)) (C := RX8) (T := TX8) (N := 44) hx hb hts hin8 hown hK.1 hP 0 rfl rfl 28 (by decide) f131 (fun _ h9 => h9) rfl dX8_readsPeak_94 ?_
              refine top_i (y := nI (zn σ)) ((q_30.2.2.2.2 28 (by decide) (by decide) (by decide) (by decide)).trans ((q_13.2.2.2.2 28 (by decide) (by decide) (by decide) (by decide)).trans (hob.1))) ?_
              refine lv_aload_n hx hb dX8_readsPeak_97 rfl (lv_at hl 2 rfl) ?_
              refine va_get (D := G.1) (ci := 8) (v := .int (u_30 27)) (C := RX8) (T := TX8) (N := 44) hx hb hts hin8 hown hK.1 hP 0 rfl rfl 27 (by decide) f128 (fun _ h9 => h9) rfl dX8_readsPeak_98 ?_
              refine top_i (y := nI (tkV tx len (tkE tx len i))) (q_30.2.2.2.1 c_33) ?_
              refine as_i hx hb hK.1 hP hD hS 3 0 rfl rfl (j := zn σ) (by omega) (Nat.le_of_ble_eq_true rfl) dX8_readsPeak_101 (fun H locs hP hD hS => ?_)
              have hP : va_P G.1 vwCl [oB h 8 (oF8 u_30 q), aI G (q 23) 140 tx, aI G (q 29) 10 (upd rx (zn σ) (nI (tkV tx len i))), aI G (q 30) 10 (upd ry (zn σ) (nI (tkV tx len (tkE tx len i)))), aI G (q 31) 10 rh] H := hP
              have hD : va_D A [oB h 8 (oF8 u_30 q), aI G (q 23) 140 tx, aI G (q 29) 10 (upd rx (zn σ) (nI (tkV tx len i))), aI G (q 30) 10 (upd ry (zn σ) (nI (tkV tx len (tkE tx len i)))), aI G (q 31) 10 rh] := hD
              refine lv_aload_n hx hb dX8_readsPeak_102 rfl (lv_at hl 2 rfl) ?_
              refine lv_iconst (v := 1) hx hb dX8_readsPeak_103 (by decide) ?_
              refine lv_bipush (v := 40) hx hb dX8_readsPeak_104 (by decide) ?_
              refine ca_i (wr := [aI G (q 29) 10 (upd rx (zn σ) (nI (tkV tx len i))), aI G (q 30) 10 (upd ry (zn σ) (nI (tkV tx len (tkE tx len i)))), aI G (q 31) 10 rh]) (va_runV (As := [.int 1, .int 40]) (rest := []) ⟨hx, hb, hml, hown, hts⟩ ((c_X8_reads l G h u_30 q tx len (tkE tx len (tkE tx len i)) 1 40 ((q_30.2.2.2.2 22 (by decide) (by decide) (by decide) (by decide)).trans ((q_13.2.2.2.2 22 (by decide) (by decide) (by decide) (by decide)).trans (hl22))) (hlen) (q_30.1) ((tk_le (tk_le hi).2.2).2.2) (hT) (by omega) (by omega)) _) (cwV 2 hts gX8_readsPeak_X8_reads rfl rfl rfl (by decide +kernel) ⟨Nat.le_of_ble_eq_true rfl, Nat.le_of_ble_eq_true rfl⟩) (cPre_V hK hP hD [0, 1] (by decide) rfl 0 8 rfl rfl) rfl rfl hl.1 rfl (lv_room (Nat.le_of_ble_eq_true rfl)) dX8_readsPeak_106 ⟨Nat.zero_le _, Nat.zero_le _⟩) hP hD hS hA [0, 1] [2, 3, 4] rfl rfl (by decide) (by decide) [3, 4, 0, 1, 2] (fun u_106 => [oB h 8 (oF8 u_106 q), aI G (q 23) 140 tx, aI G (q 29) 10 (upd rx (zn σ) (nI (tkV tx len i))), aI G (q 30) 10 (upd ry (zn σ) (nI (tkV tx len (tkE tx len i)))), aI G (q 31) 10 rh]) (by decide) (fun _ => rfl) (fun r_106 u_106 H locs q_106 hP hD hS => ?_)
              obtain ⟨rfl, q_106⟩ : r_106 = b2i (tN tx len (tkE tx len (tkE tx len i)) (nI 1) (nI 40)) ∧ (u_106 24 = nI (tkE tx len (tkE tx len (tkE tx len i))) ∧ u_106 25 = nI (tkS tx len (tkE tx len (tkE tx len i))) ∧ u_106 26 = mtok tx len (tkE tx len (tkE tx len i)) ∧ (tN tx len (tkE tx len (tkE tx len i)) (nI 1) (nI 40) = true → u_106 27 = nI (tkV tx len (tkE tx len (tkE tx len i)))) ∧ (∀ k, ¬ k = 24 → ¬ k = 25 → ¬ k = 26 → ¬ k = 27 → u_106 k = u_30 k)) := q_106
              have hP : va_P G.1 vwCl [oB h 8 (oF8 u_106 q), aI G (q 23) 140 tx, aI G (q 29) 10 (upd rx (zn σ) (nI (tkV tx len i))), aI G (q 30) 10 (upd ry (zn σ) (nI (tkV tx len (tkE tx len i)))), aI G (q 31) 10 rh] H := hP
              have hD : va_D A [oB h 8 (oF8 u_106 q), aI G (q 23) 140 tx, aI G (q 29) 10 (upd rx (zn σ) (nI (tkV tx len i))), aI G (q 30) 10 (upd ry (zn σ) (nI (tkV tx len (tkE tx len i)))), aI G (q 31) 10 rh] := hD
              have hob32 : u_106 32 = nI (zm σ) := (q_106.2.2.2.2 32 (by decide) (by decide) (by decide) (by decide)).trans ((q_30.2.2.2.2 32 (by decide) (by decide) (by decide) (by decide)).trans ((q_13.2.2.2.2 32 (by decide) (by decide) (by decide) (by decide)).trans (hob.2.1)))
              have hob35 : u_106 35 = nI (zl σ) := (q_106.2.2.2.2 35 (by decide) (by decide) (by decide) (by decide)).trans ((q_30.2.2.2.2 35 (by decide) (by decide) (by decide) (by decide)).trans ((q_13.2.2.2.2 35 (by decide) (by decide) (by decide) (by decide)).trans (hob.2.2)))
              refine lv_istore_n (lv' := [(2, .int (b2i (tN tx len (tkE tx len (tkE tx len i)) (nI 1) (nI 40)))), (1, .int (nI (tkV tx len i))), (0, .ref h)]) hx hb dX8_readsPeak_109 rfl hl (by decide) rfl (fun ls hl => ?_)
              refine lv_aload_n hx hb dX8_readsPeak_110 rfl (lv_at hl 2 rfl) ?_
              refine va_get (D := G.1) (ci := 8) (v := .ref (q 31)) (C := RX8) (T := TX8) (N := 44) hx hb hts hin8 hown hK.1 hP 0 rfl rfl 31 (by decide) f68 (fun _ h9 => h9) rfl dX8_readsPeak_111 ?_
              refine lv_aload_n hx hb dX8_readsPeak_114 rfl (lv_at hl 2 rfl) ?_
              refine va_get (D := G.1) (ci := 8) (v := .int (u_106 28)) (C := RX8) (T := TX8) (N := 44) hx hb hts hin8 hown hK.1 hP 0 rfl rfl 28 (by decide) f131 (fun _ h9 => h9) rfl dX8_readsPeak_115 ?_
              refine top_i (y := nI (zn σ)) ((q_106.2.2.2.2 28 (by decide) (by decide) (by decide) (by decide)).trans ((q_30.2.2.2.2 28 (by decide) (by decide) (by decide) (by decide)).trans ((q_13.2.2.2.2 28 (by decide) (by decide) (by decide) (by decide)).trans (hob.1)))) ?_
              refine lv_aload_n hx hb dX8_readsPeak_118 rfl (lv_at hl 2 rfl) ?_
              refine va_get (D := G.1) (ci := 8) (v := .int (u_106 27)) (C := RX8) (T := TX8) (N := 44) hx hb hts hin8 hown hK.1 hP 0 rfl rfl 27 (by decide) f128 (fun _ h9 => h9) rfl dX8_readsPeak_119 ?_
              refine as_i hx hb hK.1 hP hD hS 4 0 rfl rfl (j := zn σ) (by omega) (Nat.le_of_ble_eq_true rfl) dX8_readsPeak_122 (fun H locs hP hD hS => ?_)
              have hP : va_P G.1 vwCl [oB h 8 (oF8 u_106 q), aI G (q 23) 140 tx, aI G (q 29) 10 (upd rx (zn σ) (nI (tkV tx len i))), aI G (q 30) 10 (upd ry (zn σ) (nI (tkV tx len (tkE tx len i)))), aI G (q 31) 10 (upd rh (zn σ) (u_106 27))] H := hP
              have hD : va_D A [oB h 8 (oF8 u_106 q), aI G (q 23) 140 tx, aI G (q 29) 10 (upd rx (zn σ) (nI (tkV tx len i))), aI G (q 30) 10 (upd ry (zn σ) (nI (tkV tx len (tkE tx len i)))), aI G (q 31) 10 (upd rh (zn σ) (u_106 27))] := hD
              refine lv_aload_n hx hb dX8_readsPeak_123 rfl (lv_at hl 2 rfl) ?_
              refine lv_dup hx hb dX8_readsPeak_124 rfl ?_
              refine va_get (D := G.1) (ci := 8) (v := .int (u_106 28)) (C := RX8) (T := TX8) (N := 44) hx hb hts hin8 hown hK.1 hP 0 rfl rfl 28 (by decide) f131 (fun _ h9 => h9) rfl dX8_readsPeak_125 ?_
              refine top_i (y := nI (zn σ)) ((q_106.2.2.2.2 28 (by decide) (by decide) (by decide) (by decide)).trans ((q_30.2.2.2.2 28 (by decide) (by decide) (by decide) (by decide)).trans ((q_13.2.2.2.2 28 (by decide) (by decide) (by decide) (by decide)).trans (hob.1)))) ?_
              refine lv_iload_n hx hb dX8_readsPeak_128 rfl (lv_at hl 0 rfl) ?_
              refine lv_if_eq (tgt := 136) hx hb dX8_readsPeak_129 (by decide) (fun c_129 => ?_) (fun c_129 => ?_)
              · have c_129 : (tN tx len (tkE tx len (tkE tx len i)) (nI 1) (nI 40)) = false := b2i_0.mp c_129
                have c_129 : tN tx len (tkE tx len (tkE tx len i)) 1 40 = false := c_129
                refine lv_iconst (v := 0) hx hb dX8_readsPeak_136 (by decide) ?_
                refine lv_iadd hx hb dX8_readsPeak_137 ?_
                refine va_put (D := G.1) (ci := 8) (v := .int ((nI (zn σ)) + 0)) (ty := .int) (C := RX8) (T := TX8) (N := 44) hx hb hts hin8 tyX8 tyX8_ok nmX8 hown hK.1 hP hD hS 0 rfl rfl 28 (by decide) f131 (fun _ h9 => h9) rfl (by decide +kernel) rfl rfl (Nat.le_of_ble_eq_true rfl) dX8_readsPeak_138 (fun H locs hP hD hS => ?_)
                have hP : va_P G.1 vwCl [oB h 8 (oF8 (upd u_106 28 ((nI (zn σ)) + 0)) q), aI G (q 23) 140 tx, aI G (q 29) 10 (upd rx (zn σ) (nI (tkV tx len i))), aI G (q 30) 10 (upd ry (zn σ) (nI (tkV tx len (tkE tx len i)))), aI G (q 31) 10 (upd rh (zn σ) (u_106 27))] H := hP
                have hD : va_D A [oB h 8 (oF8 (upd u_106 28 ((nI (zn σ)) + 0)) q), aI G (q 23) 140 tx, aI G (q 29) 10 (upd rx (zn σ) (nI (tkV tx len i))), aI G (q 30) 10 (upd ry (zn σ) (nI (tkV tx len (tkE tx len i)))), aI G (q 31) 10 (upd rh (zn σ) (u_106 27))] := hD
                refine lv_iload_n hx hb dX8_readsPeak_141 rfl (lv_at hl 0 rfl) ?_
                have hpost : (b2i (tN tx len (tkE tx len (tkE tx len i)) (nI 1) (nI 40)) : Int32) = b2i (mPeak tx len σ s0 i).1.1 ∧ (upd u_106 28 ((nI (zn σ)) + 0), upd rx (zn σ) (nI (tkV tx len i)), upd ry (zn σ) (nI (tkV tx len (tkE tx len i))), upd rh (zn σ) (u_106 27)).1 25 = nI (mPeak tx len σ s0 i).1.2.1 ∧ ((mPeak tx len σ s0 i).1.1 = true → (upd u_106 28 ((nI (zn σ)) + 0), upd rx (zn σ) (nI (tkV tx len i)), upd ry (zn σ) (nI (tkV tx len (tkE tx len i))), upd rh (zn σ) (u_106 27)).1 24 = nI (mPeak tx len σ s0 i).1.2.2 ∧ obM (mPeak tx len σ s0 i).2 (upd u_106 28 ((nI (zn σ)) + 0), upd rx (zn σ) (nI (tkV tx len i)), upd ry (zn σ) (nI (tkV tx len (tkE tx len i))), upd rh (zn σ) (u_106 27)).1 ∧ arM (mPeak tx len σ s0 i).2 (upd u_106 28 ((nI (zn σ)) + 0), upd rx (zn σ) (nI (tkV tx len i)), upd ry (zn σ) (nI (tkV tx len (tkE tx len i))), upd rh (zn σ) (u_106 27)).2.1 (upd u_106 28 ((nI (zn σ)) + 0), upd rx (zn σ) (nI (tkV tx len i)), upd ry (zn σ) (nI (tkV tx len (tkE tx len i))), upd rh (zn σ) (u_106 27)).2.2.1 (upd u_106 28 ((nI (zn σ)) + 0), upd rx (zn σ) (nI (tkV tx len i)), upd ry (zn σ) (nI (tkV tx len (tkE tx len i))), upd rh (zn σ) (u_106 27)).2.2.2 ra rb) ∧ (∀ k, ¬ k = 24 → ¬ k = 25 → ¬ k = 26 → ¬ k = 27 → ¬ k = 28 → ¬ k = 32 → ¬ k = 35 → (upd u_106 28 ((nI (zn σ)) + 0), upd rx (zn σ) (nI (tkV tx len i)), upd ry (zn σ) (nI (tkV tx len (tkE tx len i))), upd rh (zn σ) (u_106 27)).1 k = v k) := by
                  have hpa : pAtN (zx σ) (zy σ) (zn σ) (tkV tx len i * 8 + tkV tx len (tkE tx len i)) = false := anyB_no.mpr (fun a ha => by have h1 := hd a (by omega); have h2 := hok.2.2.2.1 a ha; simp; omega)
                  have e : mPeak tx len σ s0 i = ((false, tkS tx len (tkE tx len (tkE tx len i)), tkE tx len (tkE tx len (tkE tx len i))), σ) := by rw [mPeak, if_neg (by omega), if_neg (ne_f c_16), if_neg (ne_f c_33), if_neg (ne_t hpa), if_pos c_129]
                  rw [e, show tN tx len (tkE tx len (tkE tx len i)) (nI 1) (nI 40) = false from c_129]
                  exact ⟨rfl, q_106.2.1, fun h => (by cases h), fun k h24 h25 h26 h27 h28 h32 h35 => by simp only [upd, if_neg h28]; exact (q_106.2.2.2.2 k h24 h25 h26 h27).trans ((q_30.2.2.2.2 k h24 h25 h26 h27).trans ((q_13.2.2.2.2 k h24 h25 h26 h27)))⟩
                exact hret _ (upd u_106 28 ((nI (zn σ)) + 0), upd rx (zn σ) (nI (tkV tx len i)), upd ry (zn σ) (nI (tkV tx len (tkE tx len i))), upd rh (zn σ) (u_106 27)) _ _ _ _ (hpost) (b2i_nar _) hP hD hS dX8_readsPeak_142
              · have c_129 : (tN tx len (tkE tx len (tkE tx len i)) (nI 1) (nI 40)) = true := b2i_n0.mp c_129
                have c_129 : tN tx len (tkE tx len (tkE tx len i)) 1 40 = true := c_129
                refine lv_iconst (v := 1) hx hb dX8_readsPeak_132 (by decide) ?_
                refine lv_goto (tgt := 137) hx hb dX8_readsPeak_133 (by decide) ?_
                refine lv_iadd hx hb dX8_readsPeak_137 ?_
                refine top_i (y := nI (zn σ + 1)) (nI_1 _) ?_
                refine va_put (D := G.1) (ci := 8) (v := .int (nI (zn σ + 1))) (ty := .int) (C := RX8) (T := TX8) (N := 44) hx hb hts hin8 tyX8 tyX8_ok nmX8 hown hK.1 hP hD hS 0 rfl rfl 28 (by decide) f131 (fun _ h9 => h9) rfl (by decide +kernel) rfl rfl (Nat.le_of_ble_eq_true rfl) dX8_readsPeak_138 (fun H locs hP hD hS => ?_)
                have hP : va_P G.1 vwCl [oB h 8 (oF8 (upd u_106 28 (nI (zn σ + 1))) q), aI G (q 23) 140 tx, aI G (q 29) 10 (upd rx (zn σ) (nI (tkV tx len i))), aI G (q 30) 10 (upd ry (zn σ) (nI (tkV tx len (tkE tx len i)))), aI G (q 31) 10 (upd rh (zn σ) (u_106 27))] H := hP
                have hD : va_D A [oB h 8 (oF8 (upd u_106 28 (nI (zn σ + 1))) q), aI G (q 23) 140 tx, aI G (q 29) 10 (upd rx (zn σ) (nI (tkV tx len i))), aI G (q 30) 10 (upd ry (zn σ) (nI (tkV tx len (tkE tx len i)))), aI G (q 31) 10 (upd rh (zn σ) (u_106 27))] := hD
                refine lv_iload_n hx hb dX8_readsPeak_141 rfl (lv_at hl 0 rfl) ?_
                have hpost : (b2i (tN tx len (tkE tx len (tkE tx len i)) (nI 1) (nI 40)) : Int32) = b2i (mPeak tx len σ s0 i).1.1 ∧ (upd u_106 28 (nI (zn σ + 1)), upd rx (zn σ) (nI (tkV tx len i)), upd ry (zn σ) (nI (tkV tx len (tkE tx len i))), upd rh (zn σ) (u_106 27)).1 25 = nI (mPeak tx len σ s0 i).1.2.1 ∧ ((mPeak tx len σ s0 i).1.1 = true → (upd u_106 28 (nI (zn σ + 1)), upd rx (zn σ) (nI (tkV tx len i)), upd ry (zn σ) (nI (tkV tx len (tkE tx len i))), upd rh (zn σ) (u_106 27)).1 24 = nI (mPeak tx len σ s0 i).1.2.2 ∧ obM (mPeak tx len σ s0 i).2 (upd u_106 28 (nI (zn σ + 1)), upd rx (zn σ) (nI (tkV tx len i)), upd ry (zn σ) (nI (tkV tx len (tkE tx len i))), upd rh (zn σ) (u_106 27)).1 ∧ arM (mPeak tx len σ s0 i).2 (upd u_106 28 (nI (zn σ + 1)), upd rx (zn σ) (nI (tkV tx len i)), upd ry (zn σ) (nI (tkV tx len (tkE tx len i))), upd rh (zn σ) (u_106 27)).2.1 (upd u_106 28 (nI (zn σ + 1)), upd rx (zn σ) (nI (tkV tx len i)), upd ry (zn σ) (nI (tkV tx len (tkE tx len i))), upd rh (zn σ) (u_106 27)).2.2.1 (upd u_106 28 (nI (zn σ + 1)), upd rx (zn σ) (nI (tkV tx len i)), upd ry (zn σ) (nI (tkV tx len (tkE tx len i))), upd rh (zn σ) (u_106 27)).2.2.2 ra rb) ∧ (∀ k, ¬ k = 24 → ¬ k = 25 → ¬ k = 26 → ¬ k = 27 → ¬ k = 28 → ¬ k = 32 → ¬ k = 35 → (upd u_106 28 (nI (zn σ + 1)), upd rx (zn σ) (nI (tkV tx len i)), upd ry (zn σ) (nI (tkV tx len (tkE tx len i))), upd rh (zn σ) (u_106 27)).1 k = v k) := by
                  have hpa : pAtN (zx σ) (zy σ) (zn σ) (tkV tx len i * 8 + tkV tx len (tkE tx len i)) = false := anyB_no.mpr (fun a ha => by have h1 := hd a (by omega); have h2 := hok.2.2.2.1 a ha; simp; omega)
                  have e : mPeak tx len σ s0 i = ((true, tkS tx len (tkE tx len (tkE tx len i)), tkE tx len (tkE tx len (tkE tx len i))), addP σ (tkV tx len i) (tkV tx len (tkE tx len i)) (tkV tx len (tkE tx len (tkE tx len i)))) := by rw [mPeak, if_neg (by omega), if_neg (ne_f c_16), if_neg (ne_f c_33), if_neg (ne_t hpa), if_neg (ne_f c_129)]
                  rw [e, show tN tx len (tkE tx len (tkE tx len i)) (nI 1) (nI 40) = true from c_129]
                  exact ⟨rfl, q_106.2.1, fun _ => ⟨q_106.1, ⟨rfl, hob32, hob35⟩, by rw [q_106.2.2.2.1 c_129]; exact arM_P har⟩, fun k h24 h25 h26 h27 h28 h32 h35 => by simp only [upd, if_neg h28]; exact (q_106.2.2.2.2 k h24 h25 h26 h27).trans ((q_30.2.2.2.2 k h24 h25 h26 h27).trans ((q_13.2.2.2.2 k h24 h25 h26 h27)))⟩
                exact hret _ (upd u_106 28 (nI (zn σ + 1)), upd rx (zn σ) (nI (tkV tx len i)), upd ry (zn σ) (nI (tkV tx len (tkE tx len i))), upd rh (zn σ) (u_106 27)) _ _ _ _ (hpost) (b2i_nar _) hP hD hS dX8_readsPeak_142
            · have c_45 : ¬ (zn σ) ≤ k := fun hne => c_45 ((c_le (a := zn σ) (b := k) rfl rfl (by omega) (by omega)).mpr hne)
              have hxk := hok.2.2.2.1 k (by omega)
              refine lv_aload_n hx hb dX8_readsPeak_48 rfl (lv_at hl 2 rfl) ?_
              refine va_get (D := G.1) (ci := 8) (v := .ref (q 29)) (C := RX8) (T := TX8) (N := 44) hx hb hts hin8 hown hK.1 hP 0 rfl rfl 29 (by decide) f62 (fun _ h9 => h9) rfl dX8_readsPeak_49 ?_
              refine lv_iload_n hx hb dX8_readsPeak_52 rfl (lv_at hl 0 rfl) ?_
              refine al_i hx hb hK.1 hP 2 0 rfl rfl (j := k) (by omega) (Nat.le_of_ble_eq_true rfl) dX8_readsPeak_53 ?_
              refine top_i (y := nI (zx σ k)) ((har.1 k (by omega)).1) ?_
              refine lv_iload_n hx hb dX8_readsPeak_54 rfl (lv_at hl 1 rfl) ?_
              refine lv_icmp_ne (tgt := 73) hx hb dX8_readsPeak_55 (by decide) (fun c_55 => ?_) (fun c_55 => ?_)
              · have c_55 : ¬ (zx σ k) = (tkV tx len i) := fun hne => c_55 ((c_eq (a := zx σ k) (b := tkV tx len i) rfl rfl (by omega) (by omega)).mpr hne)
                refine lv_iinc (v := nI (k + 1)) (lv' := [(2, .int (nI (k + 1))), (1, .int (nI (tkV tx len i))), (0, .ref h)]) hx hb dX8_readsPeak_73 hl (k := 0) rfl (inc_nI _ 1) (by decide) rfl (fun ls hl => ?_)
                refine lv_goto (tgt := 40) hx hb dX8_readsPeak_76 (by decide) ?_
                exact ih40 (k + 1) (by omega) (by omega) (fun a ha => (Nat.lt_succ_iff_lt_or_eq.mp ha).elim (hd a) (fun e hq => by rw [e] at hq; first | exact c_68 hq.2 | exact c_55 hq.1)) _ _ hP hD hS _ (lv_sub hl [0, 1, 2] rfl)
              · have c_55 : (zx σ k) = (tkV tx len i) := (c_eq (a := zx σ k) (b := tkV tx len i) rfl rfl (by omega) (by omega)).mp c_55
                refine lv_aload_n hx hb dX8_readsPeak_58 rfl (lv_at hl 2 rfl) ?_
                refine va_get (D := G.1) (ci := 8) (v := .ref (q 30)) (C := RX8) (T := TX8) (N := 44) hx hb hts hin8 hown hK.1 hP 0 rfl rfl 30 (by decide) f65 (fun _ h9 => h9) rfl dX8_readsPeak_59 ?_
                refine lv_iload_n hx hb dX8_readsPeak_62 rfl (lv_at hl 0 rfl) ?_
                refine al_i hx hb hK.1 hP 3 0 rfl rfl (j := k) (by omega) (Nat.le_of_ble_eq_true rfl) dX8_readsPeak_63 ?_
                refine top_i (y := nI (zy σ k)) ((har.1 k (by omega)).2.1) ?_
                refine lv_aload_n hx hb dX8_readsPeak_64 rfl (lv_at hl 2 rfl) ?_
                refine va_get (D := G.1) (ci := 8) (v := .int (u_30 27)) (C := RX8) (T := TX8) (N := 44) hx hb hts hin8 hown hK.1 hP 0 rfl rfl 27 (by decide) f128 (fun _ h9 => h9) rfl dX8_readsPeak_65 ?_
                refine top_i (y := nI (tkV tx len (tkE tx len i))) (q_30.2.2.2.1 c_33) ?_
                refine lv_icmp_ne (tgt := 73) hx hb dX8_readsPeak_68 (by decide) (fun c_68 => ?_) (fun c_68 => ?_)
                · have c_68 : ¬ (zy σ k) = (tkV tx len (tkE tx len i)) := fun hne => c_68 ((c_eq (a := zy σ k) (b := tkV tx len (tkE tx len i)) rfl rfl (by omega) (by omega)).mpr hne)
                  refine lv_iinc (v := nI (k + 1)) (lv' := [(2, .int (nI (k + 1))), (1, .int (nI (tkV tx len i))), (0, .ref h)]) hx hb dX8_readsPeak_73 hl (k := 0) rfl (inc_nI _ 1) (by decide) rfl (fun ls hl => ?_)
                  refine lv_goto (tgt := 40) hx hb dX8_readsPeak_76 (by decide) ?_
                  exact ih40 (k + 1) (by omega) (by omega) (fun a ha => (Nat.lt_succ_iff_lt_or_eq.mp ha).elim (hd a) (fun e hq => by rw [e] at hq; first | exact c_68 hq.2 | exact c_55 hq.1)) _ _ hP hD hS _ (lv_sub hl [0, 1, 2] rfl)
                · have c_68 : (zy σ k) = (tkV tx len (tkE tx len i)) := (c_eq (a := zy σ k) (b := tkV tx len (tkE tx len i)) rfl rfl (by omega) (by omega)).mp c_68
                  refine lv_iconst (v := 0) hx hb dX8_readsPeak_71 (by decide) ?_
                  have hpost : (0 : Int32) = b2i (mPeak tx len σ s0 i).1.1 ∧ (u_30, rx, ry, rh).1 25 = nI (mPeak tx len σ s0 i).1.2.1 ∧ ((mPeak tx len σ s0 i).1.1 = true → (u_30, rx, ry, rh).1 24 = nI (mPeak tx len σ s0 i).1.2.2 ∧ obM (mPeak tx len σ s0 i).2 (u_30, rx, ry, rh).1 ∧ arM (mPeak tx len σ s0 i).2 (u_30, rx, ry, rh).2.1 (u_30, rx, ry, rh).2.2.1 (u_30, rx, ry, rh).2.2.2 ra rb) ∧ (∀ k, ¬ k = 24 → ¬ k = 25 → ¬ k = 26 → ¬ k = 27 → ¬ k = 28 → ¬ k = 32 → ¬ k = 35 → (u_30, rx, ry, rh).1 k = v k) := by
                    have hpa : pAtN (zx σ) (zy σ) (zn σ) (tkV tx len i * 8 + tkV tx len (tkE tx len i)) = true := anyB_yes (k := k) (by omega) (by simp; omega)
                    have e : mPeak tx len σ s0 i = ((false, tkS tx len (tkE tx len i), tkE tx len (tkE tx len i)), σ) := by rw [mPeak, if_neg (by omega), if_neg (ne_f c_16), if_neg (ne_f c_33), if_pos hpa]
                    rw [e]
                    exact ⟨rfl, q_30.2.1, fun h => (by cases h), fun k h24 h25 h26 h27 h28 h32 h35 => by exact (q_30.2.2.2.2 k h24 h25 h26 h27).trans ((q_13.2.2.2.2 k h24 h25 h26 h27).trans (rfl))⟩
                  exact hret _ (u_30, rx, ry, rh) _ _ _ _ (hpost) (rfl) hP hD hS dX8_readsPeak_72
        exact loop_40 _ 0 (Nat.lt_succ_self _) (Nat.zero_le _) (fun a ha => absurd ha (Nat.not_lt_zero a)) _ _ hP hD hS _ (lv_sub hl [0, 1, 2] rfl)
      · have c_33 : (tN tx len (tkE tx len i) (nI 0) (nI 7)) = false := b2i_0.mp c_33
        have c_33 : tN tx len (tkE tx len i) 0 7 = false := c_33
        refine lv_iconst (v := 0) hx hb dX8_readsPeak_36 (by decide) ?_
        have hpost : (0 : Int32) = b2i (mPeak tx len σ s0 i).1.1 ∧ (u_30, rx, ry, rh).1 25 = nI (mPeak tx len σ s0 i).1.2.1 ∧ ((mPeak tx len σ s0 i).1.1 = true → (u_30, rx, ry, rh).1 24 = nI (mPeak tx len σ s0 i).1.2.2 ∧ obM (mPeak tx len σ s0 i).2 (u_30, rx, ry, rh).1 ∧ arM (mPeak tx len σ s0 i).2 (u_30, rx, ry, rh).2.1 (u_30, rx, ry, rh).2.2.1 (u_30, rx, ry, rh).2.2.2 ra rb) ∧ (∀ k, ¬ k = 24 → ¬ k = 25 → ¬ k = 26 → ¬ k = 27 → ¬ k = 28 → ¬ k = 32 → ¬ k = 35 → (u_30, rx, ry, rh).1 k = v k) := by
          have e : mPeak tx len σ s0 i = ((false, tkS tx len (tkE tx len i), tkE tx len (tkE tx len i)), σ) := by rw [mPeak, if_neg (by omega), if_neg (ne_f c_16), if_pos c_33]
          rw [e]
          exact ⟨rfl, q_30.2.1, fun h => (by cases h), fun k h24 h25 h26 h27 h28 h32 h35 => by exact (q_30.2.2.2.2 k h24 h25 h26 h27).trans ((q_13.2.2.2.2 k h24 h25 h26 h27).trans (rfl))⟩
        exact hret _ (u_30, rx, ry, rh) _ _ _ _ (hpost) (rfl) hP hD hS dX8_readsPeak_37
    · have c_16 : (tN tx len i (nI 0) (nI 7)) = false := b2i_0.mp c_16
      have c_16 : tN tx len i 0 7 = false := c_16
      refine lv_iconst (v := 0) hx hb dX8_readsPeak_19 (by decide) ?_
      have hpost : (0 : Int32) = b2i (mPeak tx len σ s0 i).1.1 ∧ (u_13, rx, ry, rh).1 25 = nI (mPeak tx len σ s0 i).1.2.1 ∧ ((mPeak tx len σ s0 i).1.1 = true → (u_13, rx, ry, rh).1 24 = nI (mPeak tx len σ s0 i).1.2.2 ∧ obM (mPeak tx len σ s0 i).2 (u_13, rx, ry, rh).1 ∧ arM (mPeak tx len σ s0 i).2 (u_13, rx, ry, rh).2.1 (u_13, rx, ry, rh).2.2.1 (u_13, rx, ry, rh).2.2.2 ra rb) ∧ (∀ k, ¬ k = 24 → ¬ k = 25 → ¬ k = 26 → ¬ k = 27 → ¬ k = 28 → ¬ k = 32 → ¬ k = 35 → (u_13, rx, ry, rh).1 k = v k) := by
        have e : mPeak tx len σ s0 i = ((false, tkS tx len i, tkE tx len i), σ) := by rw [mPeak, if_neg (by omega), if_pos c_16]
        rw [e]
        exact ⟨rfl, q_13.2.1, fun h => (by cases h), fun k h24 h25 h26 h27 h28 h32 h35 => by exact (q_13.2.2.2.2 k h24 h25 h26 h27).trans (rfl)⟩
      exact hret _ (u_13, rx, ry, rh) _ _ _ _ (hpost) (rfl) hP hD hS dX8_readsPeak_20

abbrev rX8_readsRidge : Room := { frames := 4, cells := 0, slots := 0, locals := 86 }
set_option maxHeartbeats 4000000 in
set_option maxRecDepth 100000 in
theorem c_X8_readsRidge (l : Launch) (G : kG) (h : Nat) (v : Nat → Int32) (q : Nat → Nat) (tx : Nat → Int32) (rx : Nat → Int32) (ry : Nat → Int32) (rh : Nat → Int32) (ra : Nat → Int32) (rb : Nat → Int32) (σ : PS) (len : Nat) (s0 : Nat) (i : Nat) (hl22 : v 22 = nI len) (hlen : len ≤ 140) (hn : v 24 = nI i) (hi : i ≤ len) (hT : ∀ k, k < len → ∃ c : Nat, c ≤ 255 ∧ tx k = nI c) (hok : okPS σ) (hob : obM σ v) (har : arM σ rx ry rh ra rb) (hv25 : v 25 = nI s0) : Ci l G yX8_readsRidge wsX8_readsRidge rX8_readsRidge [.ref h] [oB h 8 (oF8 v q), aI G (q 23) 140 tx, aI G (q 33) 8 ra, aI G (q 34) 8 rb] (fun r (u : (Nat → Int32) × (Nat → Int32) × (Nat → Int32)) => r = b2i (mRidge tx len σ s0 i).1.1 ∧ u.1 25 = nI (mRidge tx len σ s0 i).1.2.1 ∧ ((mRidge tx len σ s0 i).1.1 = true → u.1 24 = nI (mRidge tx len σ s0 i).1.2.2 ∧ obM (mRidge tx len σ s0 i).2 u.1 ∧ arM (mRidge tx len σ s0 i).2 rx ry rh u.2.1 u.2.2) ∧ (∀ k, ¬ k = 24 → ¬ k = 25 → ¬ k = 26 → ¬ k = 27 → ¬ k = 28 → ¬ k = 32 → ¬ k = 35 → u.1 k = v k)) (fun u => [oB h 8 (oF8 u.1 q), aI G (q 23) 140 tx, aI G (q 33) 8 u.2.1, aI G (q 34) 8 u.2.2]) := by
  refine Ci.of (cc := cX8_readsRidge) (maxL := 2) (by decide) rfl (Nat.le_of_ble_eq_true rfl) ?_
  intro pM eM sM mM bM tM cM Q A hx hb hts hown hml hA hK hP hD hS hret ls hl
  have hown : sM.vm.findClass RX8 = some mM.cls := hown
  have hl : lv_has ls 2 [(0, .ref h)] := hl
  have hin8 : ∀ w ∈ u_ws RX8 TX8 44, w ∈ wsX8_readsRidge := by decide +kernel
  have f138 := hts (.fieldLink RX8 138 "HorizonPeaksModel" "readRidges" "I") (by decide +kernel)
  have f131 := hts (.fieldLink RX8 131 "HorizonPeaksModel" "readPeaks" "I") (by decide +kernel)
  have f71 := hts (.fieldLink RX8 71 "HorizonPeaksModel" "readA" "[I") (by decide +kernel)
  have f128 := hts (.fieldLink RX8 128 "HorizonPeaksModel" "number" "I") (by decide +kernel)
  have f74 := hts (.fieldLink RX8 74 "HorizonPeaksModel" "readB" "[I") (by decide +kernel)
  have hn10 := hok.1
  have hm8 := hok.2.1
  have hVa := tkV_le tx len i
  have hVb := tkV_le tx len (tkE tx len i)
  refine lv_aload_n hx hb dX8_readsRidge_0 rfl (lv_at hl 0 rfl) ?_
  refine va_get (D := G.1) (ci := 8) (v := .int (v 32)) (C := RX8) (T := TX8) (N := 44) hx hb hts hin8 hown hK.1 hP 0 rfl rfl 32 (by decide) f138 (fun _ h9 => h9) rfl dX8_readsRidge_1 ?_
  refine top_i (y := nI (zm σ)) (hob.2.1) ?_
  refine lv_bipush (v := 8) hx hb dX8_readsRidge_4 (by decide) ?_
  refine lv_icmp_eq (tgt := 23) hx hb dX8_readsRidge_6 (by decide) (fun c_6 => ?_) (fun c_6 => ?_)
  · have c_6 : (zm σ) = 8 := (c_eq (a := zm σ) (b := 8) rfl rfl (by omega) (by omega)).mp c_6
    refine lv_iconst (v := 0) hx hb dX8_readsRidge_23 (by decide) ?_
    have hpost : (0 : Int32) = b2i (mRidge tx len σ s0 i).1.1 ∧ (v, ra, rb).1 25 = nI (mRidge tx len σ s0 i).1.2.1 ∧ ((mRidge tx len σ s0 i).1.1 = true → (v, ra, rb).1 24 = nI (mRidge tx len σ s0 i).1.2.2 ∧ obM (mRidge tx len σ s0 i).2 (v, ra, rb).1 ∧ arM (mRidge tx len σ s0 i).2 rx ry rh (v, ra, rb).2.1 (v, ra, rb).2.2) ∧ (∀ k, ¬ k = 24 → ¬ k = 25 → ¬ k = 26 → ¬ k = 27 → ¬ k = 28 → ¬ k = 32 → ¬ k = 35 → (v, ra, rb).1 k = v k) := by
      have e : mRidge tx len σ s0 i = ((false, s0, i), σ) := by rw [mRidge, if_pos (by omega)]
      rw [e]
      exact ⟨rfl, hv25, fun h => (by cases h), fun k h24 h25 h26 h27 h28 h32 h35 => rfl⟩
    exact hret _ (v, ra, rb) _ _ _ _ (hpost) (rfl) hP hD hS dX8_readsRidge_24
  · have c_6 : ¬ (zm σ) = 8 := fun hne => c_6 ((c_eq (a := zm σ) (b := 8) rfl rfl (by omega) (by omega)).mpr hne)
    refine lv_aload_n hx hb dX8_readsRidge_9 rfl (lv_at hl 0 rfl) ?_
    refine lv_iconst (v := 0) hx hb dX8_readsRidge_10 (by decide) ?_
    refine lv_aload_n hx hb dX8_readsRidge_11 rfl (lv_at hl 0 rfl) ?_
    refine va_get (D := G.1) (ci := 8) (v := .int (v 28)) (C := RX8) (T := TX8) (N := 44) hx hb hts hin8 hown hK.1 hP 0 rfl rfl 28 (by decide) f131 (fun _ h9 => h9) rfl dX8_readsRidge_12 ?_
    refine top_i (y := nI (zn σ)) (hob.1) ?_
    refine lv_iconst (v := 1) hx hb dX8_readsRidge_15 (by decide) ?_
    refine lv_isub hx hb dX8_readsRidge_16 ?_
    refine ca_i (wr := [aI G (q 33) 8 ra, aI G (q 34) 8 rb]) (va_runV (As := [.int 0, .int ((nI (zn σ)) - 1)]) (rest := []) ⟨hx, hb, hml, hown, hts⟩ ((c_X8_readsN l G h v q tx len i (zn σ) (hl22) (hlen) (hn) (hi) (hT) (hn10)) _) (cwV 2 hts gX8_readsRidge_X8_reads rfl rfl rfl (by decide +kernel) ⟨Nat.le_of_ble_eq_true rfl, Nat.le_of_ble_eq_true rfl⟩) (cPre_V hK hP hD [0, 1] (by decide) rfl 0 8 rfl rfl) rfl rfl hl.1 rfl (lv_room (Nat.le_of_ble_eq_true rfl)) dX8_readsRidge_17 ⟨Nat.zero_le _, Nat.zero_le _⟩) hP hD hS hA [0, 1] [2, 3] rfl rfl (by decide) (by decide) [2, 3, 0, 1] (fun u_17 => [oB h 8 (oF8 u_17 q), aI G (q 23) 140 tx, aI G (q 33) 8 ra, aI G (q 34) 8 rb]) (by decide) (fun _ => rfl) (fun r_17 u_17 H locs q_17 hP hD hS => ?_)
    obtain ⟨rfl, q_17⟩ : r_17 = b2i (tN tx len i 0 (nI (zn σ) - 1)) ∧ (u_17 24 = nI (tkE tx len i) ∧ u_17 25 = nI (tkS tx len i) ∧ u_17 26 = mtok tx len i ∧ (tN tx len i 0 (nI (zn σ) - 1) = true → u_17 27 = nI (tkV tx len i)) ∧ (∀ k, ¬ k = 24 → ¬ k = 25 → ¬ k = 26 → ¬ k = 27 → u_17 k = v k)) := q_17
    have hP : va_P G.1 vwCl [oB h 8 (oF8 u_17 q), aI G (q 23) 140 tx, aI G (q 33) 8 ra, aI G (q 34) 8 rb] H := hP
    have hD : va_D A [oB h 8 (oF8 u_17 q), aI G (q 23) 140 tx, aI G (q 33) 8 ra, aI G (q 34) 8 rb] := hD
    refine lv_if_ne (tgt := 25) hx hb dX8_readsRidge_20 (by decide) (fun c_20 => ?_) (fun c_20 => ?_)
    · have c_20 : (tN tx len i 0 (nI (zn σ) - 1)) = true := b2i_n0.mp c_20
      refine lv_aload_n hx hb dX8_readsRidge_25 rfl (lv_at hl 0 rfl) ?_
      refine va_get (D := G.1) (ci := 8) (v := .ref (q 33)) (C := RX8) (T := TX8) (N := 44) hx hb hts hin8 hown hK.1 hP 0 rfl rfl 33 (by decide) f71 (fun _ h9 => h9) rfl dX8_readsRidge_26 ?_
      refine lv_aload_n hx hb dX8_readsRidge_29 rfl (lv_at hl 0 rfl) ?_
      refine va_get (D := G.1) (ci := 8) (v := .int (u_17 32)) (C := RX8) (T := TX8) (N := 44) hx hb hts hin8 hown hK.1 hP 0 rfl rfl 32 (by decide) f138 (fun _ h9 => h9) rfl dX8_readsRidge_30 ?_
      refine top_i (y := nI (zm σ)) ((q_17.2.2.2.2 32 (by decide) (by decide) (by decide) (by decide)).trans (hob.2.1)) ?_
      refine lv_aload_n hx hb dX8_readsRidge_33 rfl (lv_at hl 0 rfl) ?_
      refine va_get (D := G.1) (ci := 8) (v := .int (u_17 27)) (C := RX8) (T := TX8) (N := 44) hx hb hts hin8 hown hK.1 hP 0 rfl rfl 27 (by decide) f128 (fun _ h9 => h9) rfl dX8_readsRidge_34 ?_
      refine top_i (y := nI (tkV tx len i)) (q_17.2.2.2.1 c_20) ?_
      refine as_i hx hb hK.1 hP hD hS 2 0 rfl rfl (j := zm σ) (by omega) (Nat.le_of_ble_eq_true rfl) dX8_readsRidge_37 (fun H locs hP hD hS => ?_)
      have hP : va_P G.1 vwCl [oB h 8 (oF8 u_17 q), aI G (q 23) 140 tx, aI G (q 33) 8 (upd ra (zm σ) (nI (tkV tx len i))), aI G (q 34) 8 rb] H := hP
      have hD : va_D A [oB h 8 (oF8 u_17 q), aI G (q 23) 140 tx, aI G (q 33) 8 (upd ra (zm σ) (nI (tkV tx len i))), aI G (q 34) 8 rb] := hD
      refine lv_aload_n hx hb dX8_readsRidge_38 rfl (lv_at hl 0 rfl) ?_
      refine lv_iconst (v := 0) hx hb dX8_readsRidge_39 (by decide) ?_
      refine lv_aload_n hx hb dX8_readsRidge_40 rfl (lv_at hl 0 rfl) ?_
      refine va_get (D := G.1) (ci := 8) (v := .int (u_17 28)) (C := RX8) (T := TX8) (N := 44) hx hb hts hin8 hown hK.1 hP 0 rfl rfl 28 (by decide) f131 (fun _ h9 => h9) rfl dX8_readsRidge_41 ?_
      refine top_i (y := nI (zn σ)) ((q_17.2.2.2.2 28 (by decide) (by decide) (by decide) (by decide)).trans (hob.1)) ?_
      refine lv_iconst (v := 1) hx hb dX8_readsRidge_44 (by decide) ?_
      refine lv_isub hx hb dX8_readsRidge_45 ?_
      refine ca_i (wr := [aI G (q 33) 8 (upd ra (zm σ) (nI (tkV tx len i))), aI G (q 34) 8 rb]) (va_runV (As := [.int 0, .int ((nI (zn σ)) - 1)]) (rest := []) ⟨hx, hb, hml, hown, hts⟩ ((c_X8_readsN l G h u_17 q tx len (tkE tx len i) (zn σ) ((q_17.2.2.2.2 22 (by decide) (by decide) (by decide) (by decide)).trans (hl22)) (hlen) (q_17.1) ((tk_le hi).2.2) (hT) (hn10)) _) (cwV 2 hts gX8_readsRidge_X8_reads rfl rfl rfl (by decide +kernel) ⟨Nat.le_of_ble_eq_true rfl, Nat.le_of_ble_eq_true rfl⟩) (cPre_V hK hP hD [0, 1] (by decide) rfl 0 8 rfl rfl) rfl rfl hl.1 rfl (lv_room (Nat.le_of_ble_eq_true rfl)) dX8_readsRidge_46 ⟨Nat.zero_le _, Nat.zero_le _⟩) hP hD hS hA [0, 1] [2, 3] rfl rfl (by decide) (by decide) [2, 3, 0, 1] (fun u_46 => [oB h 8 (oF8 u_46 q), aI G (q 23) 140 tx, aI G (q 33) 8 (upd ra (zm σ) (nI (tkV tx len i))), aI G (q 34) 8 rb]) (by decide) (fun _ => rfl) (fun r_46 u_46 H locs q_46 hP hD hS => ?_)
      obtain ⟨rfl, q_46⟩ : r_46 = b2i (tN tx len (tkE tx len i) 0 (nI (zn σ) - 1)) ∧ (u_46 24 = nI (tkE tx len (tkE tx len i)) ∧ u_46 25 = nI (tkS tx len (tkE tx len i)) ∧ u_46 26 = mtok tx len (tkE tx len i) ∧ (tN tx len (tkE tx len i) 0 (nI (zn σ) - 1) = true → u_46 27 = nI (tkV tx len (tkE tx len i))) ∧ (∀ k, ¬ k = 24 → ¬ k = 25 → ¬ k = 26 → ¬ k = 27 → u_46 k = u_17 k)) := q_46
      have hP : va_P G.1 vwCl [oB h 8 (oF8 u_46 q), aI G (q 23) 140 tx, aI G (q 33) 8 (upd ra (zm σ) (nI (tkV tx len i))), aI G (q 34) 8 rb] H := hP
      have hD : va_D A [oB h 8 (oF8 u_46 q), aI G (q 23) 140 tx, aI G (q 33) 8 (upd ra (zm σ) (nI (tkV tx len i))), aI G (q 34) 8 rb] := hD
      have hob28 : u_46 28 = nI (zn σ) := (q_46.2.2.2.2 28 (by decide) (by decide) (by decide) (by decide)).trans ((q_17.2.2.2.2 28 (by decide) (by decide) (by decide) (by decide)).trans (hob.1))
      have hob35 : u_46 35 = nI (zl σ) := (q_46.2.2.2.2 35 (by decide) (by decide) (by decide) (by decide)).trans ((q_17.2.2.2.2 35 (by decide) (by decide) (by decide) (by decide)).trans (hob.2.2))
      refine lv_if_eq (tgt := 72) hx hb dX8_readsRidge_49 (by decide) (fun c_49 => ?_) (fun c_49 => ?_)
      · have c_49 : (tN tx len (tkE tx len i) 0 (nI (zn σ) - 1)) = false := b2i_0.mp c_49
        refine lv_iconst (v := 0) hx hb dX8_readsRidge_72 (by decide) ?_
        refine lv_istore_n (lv' := [(1, .int 0), (0, .ref h)]) hx hb dX8_readsRidge_73 rfl hl (by decide) rfl (fun ls hl => ?_)
        refine lv_aload_n hx hb dX8_readsRidge_74 rfl (lv_at hl 1 rfl) ?_
        refine va_get (D := G.1) (ci := 8) (v := .ref (q 34)) (C := RX8) (T := TX8) (N := 44) hx hb hts hin8 hown hK.1 hP 0 rfl rfl 34 (by decide) f74 (fun _ h9 => h9) rfl dX8_readsRidge_75 ?_
        refine lv_aload_n hx hb dX8_readsRidge_78 rfl (lv_at hl 1 rfl) ?_
        refine va_get (D := G.1) (ci := 8) (v := .int (u_46 32)) (C := RX8) (T := TX8) (N := 44) hx hb hts hin8 hown hK.1 hP 0 rfl rfl 32 (by decide) f138 (fun _ h9 => h9) rfl dX8_readsRidge_79 ?_
        refine top_i (y := nI (zm σ)) ((q_46.2.2.2.2 32 (by decide) (by decide) (by decide) (by decide)).trans ((q_17.2.2.2.2 32 (by decide) (by decide) (by decide) (by decide)).trans (hob.2.1))) ?_
        refine lv_aload_n hx hb dX8_readsRidge_82 rfl (lv_at hl 1 rfl) ?_
        refine va_get (D := G.1) (ci := 8) (v := .int (u_46 27)) (C := RX8) (T := TX8) (N := 44) hx hb hts hin8 hown hK.1 hP 0 rfl rfl 27 (by decide) f128 (fun _ h9 => h9) rfl dX8_readsRidge_83 ?_
        refine as_i hx hb hK.1 hP hD hS 3 0 rfl rfl (j := zm σ) (by omega) (Nat.le_of_ble_eq_true rfl) dX8_readsRidge_86 (fun H locs hP hD hS => ?_)
        have hP : va_P G.1 vwCl [oB h 8 (oF8 u_46 q), aI G (q 23) 140 tx, aI G (q 33) 8 (upd ra (zm σ) (nI (tkV tx len i))), aI G (q 34) 8 (upd rb (zm σ) (u_46 27))] H := hP
        have hD : va_D A [oB h 8 (oF8 u_46 q), aI G (q 23) 140 tx, aI G (q 33) 8 (upd ra (zm σ) (nI (tkV tx len i))), aI G (q 34) 8 (upd rb (zm σ) (u_46 27))] := hD
        refine lv_aload_n hx hb dX8_readsRidge_87 rfl (lv_at hl 1 rfl) ?_
        refine lv_dup hx hb dX8_readsRidge_88 rfl ?_
        refine va_get (D := G.1) (ci := 8) (v := .int (u_46 32)) (C := RX8) (T := TX8) (N := 44) hx hb hts hin8 hown hK.1 hP 0 rfl rfl 32 (by decide) f138 (fun _ h9 => h9) rfl dX8_readsRidge_89 ?_
        refine top_i (y := nI (zm σ)) ((q_46.2.2.2.2 32 (by decide) (by decide) (by decide) (by decide)).trans ((q_17.2.2.2.2 32 (by decide) (by decide) (by decide) (by decide)).trans (hob.2.1))) ?_
        refine lv_iload_n hx hb dX8_readsRidge_92 rfl (lv_at hl 0 rfl) ?_
        refine lv_if_eq (tgt := 100) hx hb dX8_readsRidge_93 (by decide) (fun c_93 => ?_) (fun c_93 => ?_)
        · refine lv_iconst (v := 0) hx hb dX8_readsRidge_100 (by decide) ?_
          refine lv_iadd hx hb dX8_readsRidge_101 ?_
          refine va_put (D := G.1) (ci := 8) (v := .int ((nI (zm σ)) + 0)) (ty := .int) (C := RX8) (T := TX8) (N := 44) hx hb hts hin8 tyX8 tyX8_ok nmX8 hown hK.1 hP hD hS 0 rfl rfl 32 (by decide) f138 (fun _ h9 => h9) rfl (by decide +kernel) rfl rfl (Nat.le_of_ble_eq_true rfl) dX8_readsRidge_102 (fun H locs hP hD hS => ?_)
          have hP : va_P G.1 vwCl [oB h 8 (oF8 (upd u_46 32 ((nI (zm σ)) + 0)) q), aI G (q 23) 140 tx, aI G (q 33) 8 (upd ra (zm σ) (nI (tkV tx len i))), aI G (q 34) 8 (upd rb (zm σ) (u_46 27))] H := hP
          have hD : va_D A [oB h 8 (oF8 (upd u_46 32 ((nI (zm σ)) + 0)) q), aI G (q 23) 140 tx, aI G (q 33) 8 (upd ra (zm σ) (nI (tkV tx len i))), aI G (q 34) 8 (upd rb (zm σ) (u_46 27))] := hD
          refine lv_iload_n hx hb dX8_readsRidge_105 rfl (lv_at hl 0 rfl) ?_
          have hpost : (0 : Int32) = b2i (mRidge tx len σ s0 i).1.1 ∧ (upd u_46 32 ((nI (zm σ)) + 0), upd ra (zm σ) (nI (tkV tx len i)), upd rb (zm σ) (u_46 27)).1 25 = nI (mRidge tx len σ s0 i).1.2.1 ∧ ((mRidge tx len σ s0 i).1.1 = true → (upd u_46 32 ((nI (zm σ)) + 0), upd ra (zm σ) (nI (tkV tx len i)), upd rb (zm σ) (u_46 27)).1 24 = nI (mRidge tx len σ s0 i).1.2.2 ∧ obM (mRidge tx len σ s0 i).2 (upd u_46 32 ((nI (zm σ)) + 0), upd ra (zm σ) (nI (tkV tx len i)), upd rb (zm σ) (u_46 27)).1 ∧ arM (mRidge tx len σ s0 i).2 rx ry rh (upd u_46 32 ((nI (zm σ)) + 0), upd ra (zm σ) (nI (tkV tx len i)), upd rb (zm σ) (u_46 27)).2.1 (upd u_46 32 ((nI (zm σ)) + 0), upd ra (zm σ) (nI (tkV tx len i)), upd rb (zm σ) (u_46 27)).2.2) ∧ (∀ k, ¬ k = 24 → ¬ k = 25 → ¬ k = 26 → ¬ k = 27 → ¬ k = 28 → ¬ k = 32 → ¬ k = 35 → (upd u_46 32 ((nI (zm σ)) + 0), upd ra (zm σ) (nI (tkV tx len i)), upd rb (zm σ) (u_46 27)).1 k = v k) := by
            have e : mRidge tx len σ s0 i = ((false, tkS tx len (tkE tx len i), tkE tx len (tkE tx len i)), σ) := by rw [mRidge, if_neg (by omega), if_neg (ne_f c_20), if_pos c_49]
            rw [e]
            exact ⟨rfl, q_46.2.1, fun h => (by cases h), fun k h24 h25 h26 h27 h28 h32 h35 => by simp only [upd, if_neg h32]; exact (q_46.2.2.2.2 k h24 h25 h26 h27).trans (q_17.2.2.2.2 k h24 h25 h26 h27)⟩
          exact hret _ (upd u_46 32 ((nI (zm σ)) + 0), upd ra (zm σ) (nI (tkV tx len i)), upd rb (zm σ) (u_46 27)) _ _ _ _ (hpost) (rfl) hP hD hS dX8_readsRidge_106
        · exfalso
          revert c_93
          decide
      · have c_49 : (tN tx len (tkE tx len i) 0 (nI (zn σ) - 1)) = true := b2i_n0.mp c_49
        refine lv_aload_n hx hb dX8_readsRidge_52 rfl (lv_at hl 0 rfl) ?_
        refine va_get (D := G.1) (ci := 8) (v := .int (u_46 27)) (C := RX8) (T := TX8) (N := 44) hx hb hts hin8 hown hK.1 hP 0 rfl rfl 27 (by decide) f128 (fun _ h9 => h9) rfl dX8_readsRidge_53 ?_
        refine top_i (y := nI (tkV tx len (tkE tx len i))) (q_46.2.2.2.1 c_49) ?_
        refine lv_aload_n hx hb dX8_readsRidge_56 rfl (lv_at hl 0 rfl) ?_
        refine va_get (D := G.1) (ci := 8) (v := .ref (q 33)) (C := RX8) (T := TX8) (N := 44) hx hb hts hin8 hown hK.1 hP 0 rfl rfl 33 (by decide) f71 (fun _ h9 => h9) rfl dX8_readsRidge_57 ?_
        refine lv_aload_n hx hb dX8_readsRidge_60 rfl (lv_at hl 0 rfl) ?_
        refine va_get (D := G.1) (ci := 8) (v := .int (u_46 32)) (C := RX8) (T := TX8) (N := 44) hx hb hts hin8 hown hK.1 hP 0 rfl rfl 32 (by decide) f138 (fun _ h9 => h9) rfl dX8_readsRidge_61 ?_
        refine top_i (y := nI (zm σ)) ((q_46.2.2.2.2 32 (by decide) (by decide) (by decide) (by decide)).trans ((q_17.2.2.2.2 32 (by decide) (by decide) (by decide) (by decide)).trans (hob.2.1))) ?_
        refine al_i hx hb hK.1 hP 2 0 rfl rfl (j := zm σ) (by omega) (Nat.le_of_ble_eq_true rfl) dX8_readsRidge_64 ?_
        refine top_i (y := nI (tkV tx len i)) (pk_us) ?_
        refine lv_icmp_eq (tgt := 72) hx hb dX8_readsRidge_65 (by decide) (fun c_65 => ?_) (fun c_65 => ?_)
        · have c_65 : (tkV tx len (tkE tx len i)) = (tkV tx len i) := (c_eq (a := tkV tx len (tkE tx len i)) (b := tkV tx len i) rfl rfl (by omega) (by omega)).mp c_65
          refine lv_iconst (v := 0) hx hb dX8_readsRidge_72 (by decide) ?_
          refine lv_istore_n (lv' := [(1, .int 0), (0, .ref h)]) hx hb dX8_readsRidge_73 rfl hl (by decide) rfl (fun ls hl => ?_)
          refine lv_aload_n hx hb dX8_readsRidge_74 rfl (lv_at hl 1 rfl) ?_
          refine va_get (D := G.1) (ci := 8) (v := .ref (q 34)) (C := RX8) (T := TX8) (N := 44) hx hb hts hin8 hown hK.1 hP 0 rfl rfl 34 (by decide) f74 (fun _ h9 => h9) rfl dX8_readsRidge_75 ?_
          refine lv_aload_n hx hb dX8_readsRidge_78 rfl (lv_at hl 1 rfl) ?_
          refine va_get (D := G.1) (ci := 8) (v := .int (u_46 32)) (C := RX8) (T := TX8) (N := 44) hx hb hts hin8 hown hK.1 hP 0 rfl rfl 32 (by decide) f138 (fun _ h9 => h9) rfl dX8_readsRidge_79 ?_
          refine top_i (y := nI (zm σ)) ((q_46.2.2.2.2 32 (by decide) (by decide) (by decide) (by decide)).trans ((q_17.2.2.2.2 32 (by decide) (by decide) (by decide) (by decide)).trans (hob.2.1))) ?_
          refine lv_aload_n hx hb dX8_readsRidge_82 rfl (lv_at hl 1 rfl) ?_
          refine va_get (D := G.1) (ci := 8) (v := .int (u_46 27)) (C := RX8) (T := TX8) (N := 44) hx hb hts hin8 hown hK.1 hP 0 rfl rfl 27 (by decide) f128 (fun _ h9 => h9) rfl dX8_readsRidge_83 ?_
          refine as_i hx hb hK.1 hP hD hS 3 0 rfl rfl (j := zm σ) (by omega) (Nat.le_of_ble_eq_true rfl) dX8_readsRidge_86 (fun H locs hP hD hS => ?_)
          have hP : va_P G.1 vwCl [oB h 8 (oF8 u_46 q), aI G (q 23) 140 tx, aI G (q 33) 8 (upd ra (zm σ) (nI (tkV tx len i))), aI G (q 34) 8 (upd rb (zm σ) (u_46 27))] H := hP
          have hD : va_D A [oB h 8 (oF8 u_46 q), aI G (q 23) 140 tx, aI G (q 33) 8 (upd ra (zm σ) (nI (tkV tx len i))), aI G (q 34) 8 (upd rb (zm σ) (u_46 27))] := hD
          refine lv_aload_n hx hb dX8_readsRidge_87 rfl (lv_at hl 1 rfl) ?_
          refine lv_dup hx hb dX8_readsRidge_88 rfl ?_
          refine va_get (D := G.1) (ci := 8) (v := .int (u_46 32)) (C := RX8) (T := TX8) (N := 44) hx hb hts hin8 hown hK.1 hP 0 rfl rfl 32 (by decide) f138 (fun _ h9 => h9) rfl dX8_readsRidge_89 ?_
          refine top_i (y := nI (zm σ)) ((q_46.2.2.2.2 32 (by decide) (by decide) (by decide) (by decide)).trans ((q_17.2.2.2.2 32 (by decide) (by decide) (by decide) (by decide)).trans (hob.2.1))) ?_
          refine lv_iload_n hx hb dX8_readsRidge_92 rfl (lv_at hl 0 rfl) ?_
          refine lv_if_eq (tgt := 100) hx hb dX8_readsRidge_93 (by decide) (fun c_93 => ?_) (fun c_93 => ?_)
          · refine lv_iconst (v := 0) hx hb dX8_readsRidge_100 (by decide) ?_
            refine lv_iadd hx hb dX8_readsRidge_101 ?_
            refine va_put (D := G.1) (ci := 8) (v := .int ((nI (zm σ)) + 0)) (ty := .int) (C := RX8) (T := TX8) (N := 44) hx hb hts hin8 tyX8 tyX8_ok nmX8 hown hK.1 hP hD hS 0 rfl rfl 32 (by decide) f138 (fun _ h9 => h9) rfl (by decide +kernel) rfl rfl (Nat.le_of_ble_eq_true rfl) dX8_readsRidge_102 (fun H locs hP hD hS => ?_)
            have hP : va_P G.1 vwCl [oB h 8 (oF8 (upd u_46 32 ((nI (zm σ)) + 0)) q), aI G (q 23) 140 tx, aI G (q 33) 8 (upd ra (zm σ) (nI (tkV tx len i))), aI G (q 34) 8 (upd rb (zm σ) (u_46 27))] H := hP
            have hD : va_D A [oB h 8 (oF8 (upd u_46 32 ((nI (zm σ)) + 0)) q), aI G (q 23) 140 tx, aI G (q 33) 8 (upd ra (zm σ) (nI (tkV tx len i))), aI G (q 34) 8 (upd rb (zm σ) (u_46 27))] := hD
            refine lv_iload_n hx hb dX8_readsRidge_105 rfl (lv_at hl 0 rfl) ?_
            have hpost : (0 : Int32) = b2i (mRidge tx len σ s0 i).1.1 ∧ (upd u_46 32 ((nI (zm σ)) + 0), upd ra (zm σ) (nI (tkV tx len i)), upd rb (zm σ) (u_46 27)).1 25 = nI (mRidge tx len σ s0 i).1.2.1 ∧ ((mRidge tx len σ s0 i).1.1 = true → (upd u_46 32 ((nI (zm σ)) + 0), upd ra (zm σ) (nI (tkV tx len i)), upd rb (zm σ) (u_46 27)).1 24 = nI (mRidge tx len σ s0 i).1.2.2 ∧ obM (mRidge tx len σ s0 i).2 (upd u_46 32 ((nI (zm σ)) + 0), upd ra (zm σ) (nI (tkV tx len i)), upd rb (zm σ) (u_46 27)).1 ∧ arM (mRidge tx len σ s0 i).2 rx ry rh (upd u_46 32 ((nI (zm σ)) + 0), upd ra (zm σ) (nI (tkV tx len i)), upd rb (zm σ) (u_46 27)).2.1 (upd u_46 32 ((nI (zm σ)) + 0), upd ra (zm σ) (nI (tkV tx len i)), upd rb (zm σ) (u_46 27)).2.2) ∧ (∀ k, ¬ k = 24 → ¬ k = 25 → ¬ k = 26 → ¬ k = 27 → ¬ k = 28 → ¬ k = 32 → ¬ k = 35 → (upd u_46 32 ((nI (zm σ)) + 0), upd ra (zm σ) (nI (tkV tx len i)), upd rb (zm σ) (u_46 27)).1 k = v k) := by
              have e : mRidge tx len σ s0 i = ((false, tkS tx len (tkE tx len i), tkE tx len (tkE tx len i)), σ) := by rw [mRidge, if_neg (by omega), if_neg (ne_f c_20), if_neg (ne_f c_49), if_pos c_65]
              rw [e]
              exact ⟨rfl, q_46.2.1, fun h => (by cases h), fun k h24 h25 h26 h27 h28 h32 h35 => by simp only [upd, if_neg h32]; exact (q_46.2.2.2.2 k h24 h25 h26 h27).trans (q_17.2.2.2.2 k h24 h25 h26 h27)⟩
            exact hret _ (upd u_46 32 ((nI (zm σ)) + 0), upd ra (zm σ) (nI (tkV tx len i)), upd rb (zm σ) (u_46 27)) _ _ _ _ (hpost) (rfl) hP hD hS dX8_readsRidge_106
          · exfalso
            revert c_93
            decide
        · have c_65 : ¬ (tkV tx len (tkE tx len i)) = (tkV tx len i) := fun hne => c_65 ((c_eq (a := tkV tx len (tkE tx len i)) (b := tkV tx len i) rfl rfl (by omega) (by omega)).mpr hne)
          refine lv_iconst (v := 1) hx hb dX8_readsRidge_68 (by decide) ?_
          refine lv_goto (tgt := 73) hx hb dX8_readsRidge_69 (by decide) ?_
          refine lv_istore_n (lv' := [(1, .int 1), (0, .ref h)]) hx hb dX8_readsRidge_73 rfl hl (by decide) rfl (fun ls hl => ?_)
          refine lv_aload_n hx hb dX8_readsRidge_74 rfl (lv_at hl 1 rfl) ?_
          refine va_get (D := G.1) (ci := 8) (v := .ref (q 34)) (C := RX8) (T := TX8) (N := 44) hx hb hts hin8 hown hK.1 hP 0 rfl rfl 34 (by decide) f74 (fun _ h9 => h9) rfl dX8_readsRidge_75 ?_
          refine lv_aload_n hx hb dX8_readsRidge_78 rfl (lv_at hl 1 rfl) ?_
          refine va_get (D := G.1) (ci := 8) (v := .int (u_46 32)) (C := RX8) (T := TX8) (N := 44) hx hb hts hin8 hown hK.1 hP 0 rfl rfl 32 (by decide) f138 (fun _ h9 => h9) rfl dX8_readsRidge_79 ?_
          refine top_i (y := nI (zm σ)) ((q_46.2.2.2.2 32 (by decide) (by decide) (by decide) (by decide)).trans ((q_17.2.2.2.2 32 (by decide) (by decide) (by decide) (by decide)).trans (hob.2.1))) ?_
          refine lv_aload_n hx hb dX8_readsRidge_82 rfl (lv_at hl 1 rfl) ?_
          refine va_get (D := G.1) (ci := 8) (v := .int (u_46 27)) (C := RX8) (T := TX8) (N := 44) hx hb hts hin8 hown hK.1 hP 0 rfl rfl 27 (by decide) f128 (fun _ h9 => h9) rfl dX8_readsRidge_83 ?_
          refine as_i hx hb hK.1 hP hD hS 3 0 rfl rfl (j := zm σ) (by omega) (Nat.le_of_ble_eq_true rfl) dX8_readsRidge_86 (fun H locs hP hD hS => ?_)
          have hP : va_P G.1 vwCl [oB h 8 (oF8 u_46 q), aI G (q 23) 140 tx, aI G (q 33) 8 (upd ra (zm σ) (nI (tkV tx len i))), aI G (q 34) 8 (upd rb (zm σ) (u_46 27))] H := hP
          have hD : va_D A [oB h 8 (oF8 u_46 q), aI G (q 23) 140 tx, aI G (q 33) 8 (upd ra (zm σ) (nI (tkV tx len i))), aI G (q 34) 8 (upd rb (zm σ) (u_46 27))] := hD
          refine lv_aload_n hx hb dX8_readsRidge_87 rfl (lv_at hl 1 rfl) ?_
          refine lv_dup hx hb dX8_readsRidge_88 rfl ?_
          refine va_get (D := G.1) (ci := 8) (v := .int (u_46 32)) (C := RX8) (T := TX8) (N := 44) hx hb hts hin8 hown hK.1 hP 0 rfl rfl 32 (by decide) f138 (fun _ h9 => h9) rfl dX8_readsRidge_89 ?_
          refine top_i (y := nI (zm σ)) ((q_46.2.2.2.2 32 (by decide) (by decide) (by decide) (by decide)).trans ((q_17.2.2.2.2 32 (by decide) (by decide) (by decide) (by decide)).trans (hob.2.1))) ?_
          refine lv_iload_n hx hb dX8_readsRidge_92 rfl (lv_at hl 0 rfl) ?_
          refine lv_if_eq (tgt := 100) hx hb dX8_readsRidge_93 (by decide) (fun c_93 => ?_) (fun c_93 => ?_)
          · exfalso
            revert c_93
            decide
          · refine lv_iconst (v := 1) hx hb dX8_readsRidge_96 (by decide) ?_
            refine lv_goto (tgt := 101) hx hb dX8_readsRidge_97 (by decide) ?_
            refine lv_iadd hx hb dX8_readsRidge_101 ?_
            refine top_i (y := nI (zm σ + 1)) (nI_1 _) ?_
            refine va_put (D := G.1) (ci := 8) (v := .int (nI (zm σ + 1))) (ty := .int) (C := RX8) (T := TX8) (N := 44) hx hb hts hin8 tyX8 tyX8_ok nmX8 hown hK.1 hP hD hS 0 rfl rfl 32 (by decide) f138 (fun _ h9 => h9) rfl (by decide +kernel) rfl rfl (Nat.le_of_ble_eq_true rfl) dX8_readsRidge_102 (fun H locs hP hD hS => ?_)
            have hP : va_P G.1 vwCl [oB h 8 (oF8 (upd u_46 32 (nI (zm σ + 1))) q), aI G (q 23) 140 tx, aI G (q 33) 8 (upd ra (zm σ) (nI (tkV tx len i))), aI G (q 34) 8 (upd rb (zm σ) (u_46 27))] H := hP
            have hD : va_D A [oB h 8 (oF8 (upd u_46 32 (nI (zm σ + 1))) q), aI G (q 23) 140 tx, aI G (q 33) 8 (upd ra (zm σ) (nI (tkV tx len i))), aI G (q 34) 8 (upd rb (zm σ) (u_46 27))] := hD
            refine lv_iload_n hx hb dX8_readsRidge_105 rfl (lv_at hl 0 rfl) ?_
            have hpost : (1 : Int32) = b2i (mRidge tx len σ s0 i).1.1 ∧ (upd u_46 32 (nI (zm σ + 1)), upd ra (zm σ) (nI (tkV tx len i)), upd rb (zm σ) (u_46 27)).1 25 = nI (mRidge tx len σ s0 i).1.2.1 ∧ ((mRidge tx len σ s0 i).1.1 = true → (upd u_46 32 (nI (zm σ + 1)), upd ra (zm σ) (nI (tkV tx len i)), upd rb (zm σ) (u_46 27)).1 24 = nI (mRidge tx len σ s0 i).1.2.2 ∧ obM (mRidge tx len σ s0 i).2 (upd u_46 32 (nI (zm σ + 1)), upd ra (zm σ) (nI (tkV tx len i)), upd rb (zm σ) (u_46 27)).1 ∧ arM (mRidge tx len σ s0 i).2 rx ry rh (upd u_46 32 (nI (zm σ + 1)), upd ra (zm σ) (nI (tkV tx len i)), upd rb (zm σ) (u_46 27)).2.1 (upd u_46 32 (nI (zm σ + 1)), upd ra (zm σ) (nI (tkV tx len i)), upd rb (zm σ) (u_46 27)).2.2) ∧ (∀ k, ¬ k = 24 → ¬ k = 25 → ¬ k = 26 → ¬ k = 27 → ¬ k = 28 → ¬ k = 32 → ¬ k = 35 → (upd u_46 32 (nI (zm σ + 1)), upd ra (zm σ) (nI (tkV tx len i)), upd rb (zm σ) (u_46 27)).1 k = v k) := by
              have e : mRidge tx len σ s0 i = ((true, tkS tx len (tkE tx len i), tkE tx len (tkE tx len i)), addR σ (tkV tx len i) (tkV tx len (tkE tx len i))) := by rw [mRidge, if_neg (by omega), if_neg (ne_f c_20), if_neg (ne_f c_49), if_neg c_65]
              rw [e]
              exact ⟨rfl, q_46.2.1, fun _ => ⟨q_46.1, ⟨hob28, rfl, hob35⟩, by rw [q_46.2.2.2.1 c_49]; exact arM_R har⟩, fun k h24 h25 h26 h27 h28 h32 h35 => by simp only [upd, if_neg h32]; exact (q_46.2.2.2.2 k h24 h25 h26 h27).trans (q_17.2.2.2.2 k h24 h25 h26 h27)⟩
            exact hret _ (upd u_46 32 (nI (zm σ + 1)), upd ra (zm σ) (nI (tkV tx len i)), upd rb (zm σ) (u_46 27)) _ _ _ _ (hpost) (rfl) hP hD hS dX8_readsRidge_106
    · have c_20 : (tN tx len i 0 (nI (zn σ) - 1)) = false := b2i_0.mp c_20
      refine lv_iconst (v := 0) hx hb dX8_readsRidge_23 (by decide) ?_
      have hpost : (0 : Int32) = b2i (mRidge tx len σ s0 i).1.1 ∧ (u_17, ra, rb).1 25 = nI (mRidge tx len σ s0 i).1.2.1 ∧ ((mRidge tx len σ s0 i).1.1 = true → (u_17, ra, rb).1 24 = nI (mRidge tx len σ s0 i).1.2.2 ∧ obM (mRidge tx len σ s0 i).2 (u_17, ra, rb).1 ∧ arM (mRidge tx len σ s0 i).2 rx ry rh (u_17, ra, rb).2.1 (u_17, ra, rb).2.2) ∧ (∀ k, ¬ k = 24 → ¬ k = 25 → ¬ k = 26 → ¬ k = 27 → ¬ k = 28 → ¬ k = 32 → ¬ k = 35 → (u_17, ra, rb).1 k = v k) := by
        have e : mRidge tx len σ s0 i = ((false, tkS tx len i, tkE tx len i), σ) := by rw [mRidge, if_neg (by omega), if_pos c_20]
        rw [e]
        exact ⟨rfl, q_17.2.1, fun h => (by cases h), fun k h24 h25 h26 h27 h28 h32 h35 => (q_17.2.2.2.2 k h24 h25 h26 h27)⟩
      exact hret _ (u_17, ra, rb) _ _ _ _ (hpost) (rfl) hP hD hS dX8_readsRidge_24
