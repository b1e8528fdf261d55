def itemR (tx : Nat → Int32) (len : Nat) (σ : PS) (i : Nat) : (Bool × Nat × Nat) × PS :=
  if tkK tx len i = 112 then itPeak tx len σ (tkS tx len i) (tkE tx len i)
  else if tkK tx len i = 114 then itRidge tx len σ (tkS tx len i) (tkE tx len i)
  else if tkK tx len i = 115 then itSlack tx len σ (tkE tx len i)
  else ((false, tkS tx len i, tkE tx len i), σ)
def prs (tx : Nat → Int32) (len : Nat) : Nat → Nat → Nat → PS → Option ((Bool × Nat) × PS)
  | 0, _, _, _ => none
  | f + 1, i, it, σ => if tkK tx len i = -1 then some ((true, it), σ)
    else if (itemR tx len σ i).1.1 = true then prs tx len f (itemR tx len σ i).1.2.2 (it + 1) (itemR tx len σ i).2
    else some ((false, (itemR tx len σ i).1.2.1), σ)
def Prs (tx : Nat → Int32) (len i it : Nat) (σ : PS) (R : (Bool × Nat) × PS) : Prop := ∃ f, prs tx len f i it σ = some R
theorem prs_more {tx : Nat → Int32} {len : Nat} {R : (Bool × Nat) × PS} : ∀ (f i it : Nat) (σ : PS), prs tx len f i it σ = some R → ∀ k, prs tx len (f + k) i it σ = some R
  | 0, _, _, _, h, _ => by cases h
  | f + 1, i, it, σ, h, k => by
    rw [show f + 1 + k = (f + k) + 1 by omega, prs]
    rw [prs] at h
    by_cases hk : tkK tx len i = -1
    · rw [if_pos hk] at h ⊢; exact h
    · rw [if_neg hk] at h ⊢
      by_cases ho : (itemR tx len σ i).1.1 = true
      · rw [if_pos ho] at h ⊢; exact prs_more f _ _ _ h k
      · rw [if_neg ho] at h ⊢; exact h
theorem Prs.one {tx : Nat → Int32} {len i it : Nat} {σ : PS} {R R' : (Bool × Nat) × PS} (h : Prs tx len i it σ R) (h' : Prs tx len i it σ R') : R = R' := by
  obtain ⟨f, hf⟩ := h
  obtain ⟨g, hg⟩ := h'
  have a := prs_more f _ _ _ hf g
  have b := prs_more g _ _ _ hg f
  rw [Nat.add_comm, b] at a
  exact (Option.some.inj a).symm
theorem Prs.end {tx : Nat → Int32} {len i it : Nat} {σ : PS} (h : tkK tx len i = -1) : Prs tx len i it σ ((true, it), σ) := ⟨1, by rw [prs, if_pos h]⟩
theorem Prs.bad {tx : Nat → Int32} {len i it : Nat} {σ : PS} (h : ¬ tkK tx len i = -1) (ho : (itemR tx len σ i).1.1 = false) : Prs tx len i it σ ((false, (itemR tx len σ i).1.2.1), σ) := ⟨1, by rw [prs, if_neg h, if_neg (ne_t ho)]⟩
theorem Prs.step {tx : Nat → Int32} {len i it : Nat} {σ : PS} {R : (Bool × Nat) × PS} (h : ¬ tkK tx len i = -1) (ho : (itemR tx len σ i).1.1 = true) (hr : Prs tx len (itemR tx len σ i).1.2.2 (it + 1) (itemR tx len σ i).2 R) : Prs tx len i it σ R := by
  obtain ⟨f, hf⟩ := hr
  exact ⟨f + 1, by rw [prs, if_neg h, if_pos ho]; exact hf⟩
theorem itPeak_ok {tx : Nat → Int32} {len : Nat} {σ : PS} {s0 i : Nat} (hi : i ≤ len) (hok : okPS σ) (h : (itPeak tx len σ s0 i).1.1 = true) : i ≤ (itPeak tx len σ s0 i).1.2.2 ∧ (itPeak tx len σ s0 i).1.2.2 ≤ len ∧ okPS (itPeak tx len σ s0 i).2 := by
  revert h
  unfold itPeak
  split
  · intro h; cases h
  split
  · intro h; cases h
  split
  · intro h; cases h
  split
  · intro h; cases h
  split
  · intro h; cases h
  split
  · intro hzz
    rename_i a1 a2 a3 a4 a5 a6
    have l1 := tk_le (tx := tx) hi
    have l2 := tk_le (tx := tx) l1.2.2
    have l3 := tk_le (tx := tx) l2.2.2
    have l4 := tk_le (tx := tx) l3.2.2
    have b2 := (tN_V (lo := 0) (hi := 7) (by decide) (by decide) (eq_true_of_ne_false a2)).2
    have b3 := (tN_V (lo := 0) (hi := 7) (by decide) (by decide) (eq_true_of_ne_false a3)).2
    have b5 := tN_V (lo := 1) (hi := 40) (by decide) (by decide) (eq_true_of_ne_false a5)
    refine ⟨by show i ≤ tkE _ _ _; omega, by show tkE _ _ _ ≤ len; omega, ?_⟩
    exact okPS_P hok (by omega) (by omega) (by omega) b5 (eq_false_of_ne_true a4)
  · intro h; cases h
theorem itRidge_ok {tx : Nat → Int32} {len : Nat} {σ : PS} {s0 i : Nat} (hi : i ≤ len) (hok : okPS σ) (h : (itRidge tx len σ s0 i).1.1 = true) : i ≤ (itRidge tx len σ s0 i).1.2.2 ∧ (itRidge tx len σ s0 i).1.2.2 ≤ len ∧ okPS (itRidge tx len σ s0 i).2 := by
  revert h
  unfold itRidge
  split
  · intro h; cases h
  split
  · intro h; cases h
  split
  · intro h; cases h
  split
  · intro h; cases h
  split
  · intro hzz
    rename_i a1 a2 a3 a4 a5
    have l1 := tk_le (tx := tx) hi
    have l2 := tk_le (tx := tx) l1.2.2
    have l3 := tk_le (tx := tx) l2.2.2
    have b2 := tN_V1 hok.1 (eq_true_of_ne_false a2)
    have b3 := tN_V1 hok.1 (eq_true_of_ne_false a3)
    refine ⟨by show i ≤ tkE _ _ _; omega, by show tkE _ _ _ ≤ len; omega, ?_⟩
    exact okPS_R hok (by omega) b2 b3 (fun e => a4 e.symm)
  · intro h; cases h
theorem itSlack_ok {tx : Nat → Int32} {len : Nat} {σ : PS} {i : Nat} (hi : i ≤ len) (hok : okPS σ) (h : (itSlack tx len σ i).1.1 = true) : i ≤ (itSlack tx len σ i).1.2.2 ∧ (itSlack tx len σ i).1.2.2 ≤ len ∧ okPS (itSlack tx len σ i).2 := by
  revert h
  unfold itSlack
  split
  · intro h; cases h
  split
  · intro hzz
    rename_i a1 a2
    have l1 := tk_le (tx := tx) hi
    have l2 := tk_le (tx := tx) l1.2.2
    have b2 := (tN_V (lo := 0) (hi := 3) (by decide) (by decide) (eq_true_of_ne_false a1)).2
    refine ⟨by show i ≤ tkE _ _ _; omega, by show tkE _ _ _ ≤ len; omega, ?_⟩
    exact okPS_S hok b2
  · intro h; cases h
theorem itemR_ok {tx : Nat → Int32} {len : Nat} {σ : PS} {i : Nat} (hi : i ≤ len) (hk : ¬ tkK tx len i = -1) (hok : okPS σ) (h : (itemR tx len σ i).1.1 = true) : i < (itemR tx len σ i).1.2.2 ∧ (itemR tx len σ i).1.2.2 ≤ len ∧ okPS (itemR tx len σ i).2 := by
  have l0 := tk_lt (tx := tx) hi hk
  have l1 := tk_le (tx := tx) hi
  revert h
  unfold itemR
  split
  · intro h; have := itPeak_ok l1.2.2 hok h; exact ⟨by omega, this.2⟩
  split
  · intro h; have := itRidge_ok l1.2.2 hok h; exact ⟨by omega, this.2⟩
  split
  · intro h; have := itSlack_ok l1.2.2 hok h; exact ⟨by omega, this.2⟩
  · intro h; cases h
theorem itemR_pos {tx : Nat → Int32} {len : Nat} {σ : PS} {i : Nat} (hi : i ≤ len) : (itemR tx len σ i).1.2.1 ≤ len := by
  have l1 := tk_le (tx := tx) hi
  have l2 := tk_le (tx := tx) l1.2.2
  have l3 := tk_le (tx := tx) l2.2.2
  have l4 := tk_le (tx := tx) l3.2.2
  have l5 := tk_le (tx := tx) l4.2.2
  unfold itemR itPeak itRidge itSlack
  (repeat' split) <;> (show tkS _ _ _ ≤ len) <;> omega
def prR (R : (Bool × Nat) × PS) : Int32 := if R.1.1 = true then nI R.1.2 else -10 - nI R.1.2
abbrev rX5_tell : Room := { frames := 5, cells := 0, slots := 0, locals := 109 }
set_option maxHeartbeats 4000000 in
set_option maxRecDepth 100000 in
theorem c_X5_tell (l : Launch) (G : kG) (h : Nat) (v : Nat → Int32) (q : Nat → Nat) (tx : Nat → Int32) (h2 : Nat) (v2 : Nat → Int32) (q2 : Nat → Nat) (xs : Nat → Int32) (ys : Nat → Int32) (hs : Nat → Int32) (fs : Nat → Int32) (ss : Nat → Int32) (pk : Nat → Int32) (len : Nat) (hv1 : v 1 = nI len) (hlen : len ≤ 140) : Ci l G yX5_tell wsX5_tell rX5_tell [.ref h, .ref h2] [oB h 5 (oF5 v q), aI G (q 0) 140 tx, oB h2 1 (oF1 v2 q2), aI G (q2 0) 10 xs, aI G (q2 1) 10 ys, aI G (q2 2) 10 hs, aI G (q2 4) 8 fs, aI G (q2 5) 8 ss, aZ G (q2 8) 64 pk] (fun r (u : (Nat → Int32) × (Nat → Int32) × (Nat → Int32) × (Nat → Int32) × (Nat → Int32) × (Nat → Int32) × (Nat → Int32) × (Nat → Int32)) => ∃ R, Prs tx len 0 0 PS0 R ∧ r = prR R ∧ (R.1.1 = true → okPS R.2 ∧ obL R.2 u.2.1 ∧ arL R.2 u.2.2.1 u.2.2.2.1 u.2.2.2.2.1 u.2.2.2.2.2.1 u.2.2.2.2.2.2.1 u.2.2.2.2.2.2.2) ∧ u.1 1 = nI len ∧ R.1.2 ≤ 140) (fun u => [oB h 5 (oF5 u.1 q), aI G (q 0) 140 tx, oB h2 1 (oF1 u.2.1 q2), aI G (q2 0) 10 u.2.2.1, aI G (q2 1) 10 u.2.2.2.1, aI G (q2 2) 10 u.2.2.2.2.1, aI G (q2 4) 8 u.2.2.2.2.2.1, aI G (q2 5) 8 u.2.2.2.2.2.2.1, aZ G (q2 8) 64 u.2.2.2.2.2.2.2]) := by
  refine Ci.of (cc := cX5_tell) (maxL := 4) (by decide) rfl (Nat.le_of_ble_eq_true rfl) ?_
  intro pM eM sM mM bM tM cM Q A hx hb hts hown hml hA hK hP hD hS hret ls hl
  have hown : sM.vm.findClass RX5 = some mM.cls := hown
  have hl : lv_has ls 4 [(0, .ref h), (1, .ref h2)] := hl
  have hin5 : ∀ w ∈ u_ws RX5 TX5 6, w ∈ wsX5_tell := by decide +kernel
  have f24 := hts (.fieldLink RX5 24 "HorizonPeaks$Text" "behind" "I") (by decide +kernel)
  have f30 := hts (.fieldLink RX5 30 "HorizonPeaks$Text" "kind" "I") (by decide +kernel)
  have f43 := hts (.fieldLink RX5 43 "HorizonPeaks$Text" "start" "I") (by decide +kernel)
  refine lv_aload_n hx hb dX5_tell_0 rfl (lv_at hl 1 rfl) ?_
  refine ca_v (wr := [oB h 5 (oF5 v q), aI G (q 0) 140 tx, aI G (q2 0) 10 xs, aI G (q2 1) 10 ys, aI G (q2 2) 10 hs, aI G (q2 4) 8 fs, aI G (q2 5) 8 ss]) (va_runV (As := []) (rest := []) ⟨hx, hb, hml, hown, hts⟩ ((c_X1_empty l G h2 v2 q2 pk) _) (cwV 0 hts gX5_tell_X1_empty rfl rfl rfl (by decide +kernel) ⟨Nat.le_of_ble_eq_true rfl, Nat.le_of_ble_eq_true rfl⟩) (cPre_V hK hP hD [2, 8] (by decide) rfl 0 1 rfl rfl) rfl rfl hl.1 rfl (lv_room (Nat.le_of_ble_eq_true rfl)) dX5_tell_1 ⟨Nat.zero_le _, Nat.zero_le _⟩) hP hD hS hA [2, 8] [0, 1, 3, 4, 5, 6, 7] rfl rfl (by decide) (by decide) [0, 1, 7, 2, 3, 4, 5, 6, 8] (fun u_1 => [oB h 5 (oF5 v q), aI G (q 0) 140 tx, oB h2 1 (oF1 (upd (upd (upd v2 3 0) 6 0) 7 1) q2), aI G (q2 0) 10 xs, aI G (q2 1) 10 ys, aI G (q2 2) 10 hs, aI G (q2 4) 8 fs, aI G (q2 5) 8 ss, aZ G (q2 8) 64 u_1]) (by decide) (fun _ => rfl) (fun u_1 H locs q_1 hP hD hS => ?_)
  have q_1 : ∀ i, i < 64 → u_1 i = 0 := q_1
  have hP : va_P G.1 vwCl [oB h 5 (oF5 v q), aI G (q 0) 140 tx, oB h2 1 (oF1 (upd (upd (upd v2 3 0) 6 0) 7 1) q2), aI G (q2 0) 10 xs, aI G (q2 1) 10 ys, aI G (q2 2) 10 hs, aI G (q2 4) 8 fs, aI G (q2 5) 8 ss, aZ G (q2 8) 64 u_1] H := hP
  have hD : va_D A [oB h 5 (oF5 v q), aI G (q 0) 140 tx, oB h2 1 (oF1 (upd (upd (upd v2 3 0) 6 0) 7 1) q2), aI G (q2 0) 10 xs, aI G (q2 1) 10 ys, aI G (q2 2) 10 hs, aI G (q2 4) 8 fs, aI G (q2 5) 8 ss, aZ G (q2 8) 64 u_1] := hD
  refine lv_aload_n hx hb dX5_tell_4 rfl (lv_at hl 0 rfl) ?_
  refine lv_iconst (v := 0) hx hb dX5_tell_5 (by decide) ?_
  refine va_put (D := G.1) (ci := 5) (v := .int 0) (ty := .int) (C := RX5) (T := TX5) (N := 6) hx hb hts hin5 tyX5 tyX5_ok nmX5 hown hK.1 hP hD hS 0 rfl rfl 3 (by decide) f24 (fun _ h9 => h9) rfl (by decide +kernel) rfl rfl (Nat.le_of_ble_eq_true rfl) dX5_tell_6 (fun H locs hP hD hS => ?_)
  have hP : va_P G.1 vwCl [oB h 5 (oF5 (upd v 3 0) q), aI G (q 0) 140 tx, oB h2 1 (oF1 (upd (upd (upd v2 3 0) 6 0) 7 1) q2), aI G (q2 0) 10 xs, aI G (q2 1) 10 ys, aI G (q2 2) 10 hs, aI G (q2 4) 8 fs, aI G (q2 5) 8 ss, aZ G (q2 8) 64 u_1] H := hP
  have hD : va_D A [oB h 5 (oF5 (upd v 3 0) q), aI G (q 0) 140 tx, oB h2 1 (oF1 (upd (upd (upd v2 3 0) 6 0) 7 1) q2), aI G (q2 0) 10 xs, aI G (q2 1) 10 ys, aI G (q2 2) 10 hs, aI G (q2 4) 8 fs, aI G (q2 5) 8 ss, aZ G (q2 8) 64 u_1] := hD
  refine lv_iconst (v := 0) hx hb dX5_tell_9 (by decide) ?_
  refine lv_istore_n (lv' := [(2, .int 0), (0, .ref h), (1, .ref h2)]) hx hb dX5_tell_10 rfl hl (by decide) rfl (fun ls hl => ?_)
  have loop_11 : ∀ (nF : Nat) (wT : Nat → Int32) (wL : Nat → Int32) (xs1 : Nat → Int32) (ys1 : Nat → Int32) (hs1 : Nat → Int32) (fs1 : Nat → Int32) (ss1 : Nat → Int32) (pk1 : Nat → Int32) (σ : PS) (it : Nat) (i : Nat), (len - i) < nF → (i ≤ len) → (it ≤ i) → (okPS σ) → (obL σ wL) → (arL σ xs1 ys1 hs1 fs1 ss1 pk1) → (wT 1 = nI len) → (wT 3 = nI i) → (∀ R, Prs tx len i it σ R → Prs tx len 0 0 PS0 R) → ∀ (H : Heap) (locs : List Loc), va_P G.1 vwCl [oB h 5 (oF5 wT q), aI G (q 0) 140 tx, oB h2 1 (oF1 wL q2), aI G (q2 0) 10 xs1, aI G (q2 1) 10 ys1, aI G (q2 2) 10 hs1, aI G (q2 4) 8 fs1, aI G (q2 5) 8 ss1, aZ G (q2 8) 64 pk1] H → va_D A [oB h 5 (oF5 wT q), aI G (q 0) 140 tx, oB h2 1 (oF1 wL q2), aI G (q2 0) 10 xs1, aI G (q2 1) 10 ys1, aI G (q2 2) 10 hs1, aI G (q2 4) 8 fs1, aI G (q2 5) 8 ss1, aZ G (q2 8) 64 pk1] → va_S A sM.heap H locs → ∀ (ls : Array Slot), lv_has ls 4 [(2, .int (nI it)), (0, .ref h), (1, .ref h2)] → W pM l eM rX5_tell sM mM [.ref h, .ref h2].toArray bM tM cM H locs 0 0 Q (F0 mM 11 ls []) := by
    intro nF
    induction nF with
    | zero => intro wT wL xs1 ys1 hs1 fs1 ss1 pk1 σ it i hmF; exact absurd hmF (Nat.not_lt_zero _)
    | succ nF ih11 =>
      intro wT wL xs1 ys1 hs1 fs1 ss1 pk1 σ it i hmF hi hit hok hob har hw1 hw3 hPr H locs hP hD hS ls hl
      refine lv_iload_n hx hb dX5_tell_11 rfl (lv_at hl 0 rfl) ?_
      refine lv_sipush (v := 140) hx hb dX5_tell_12 (by decide) ?_
      refine lv_icmp_gt (tgt := 108) hx hb dX5_tell_15 (by decide) (fun c_15 => ?_) (fun c_15 => ?_)
      · have c_15 : 140 < it := (c_lt (a := 140) (b := it) rfl rfl (by omega) (by omega)).mp c_15
        exfalso
        omega
      · have c_15 : ¬ 140 < it := fun hne => c_15 ((c_lt (a := 140) (b := it) rfl rfl (by omega) (by omega)).mpr hne)
        refine lv_aload_n hx hb dX5_tell_18 rfl (lv_at hl 1 rfl) ?_
        refine ca_v (wr := [oB h2 1 (oF1 wL q2), aI G (q2 0) 10 xs1, aI G (q2 1) 10 ys1, aI G (q2 2) 10 hs1, aI G (q2 4) 8 fs1, aI G (q2 5) 8 ss1, aZ G (q2 8) 64 pk1]) (va_runV (As := []) (rest := []) ⟨hx, hb, hml, hown, hts⟩ ((c_X5_advance l G h wT q tx len i (hw1) (hlen) (hw3) (hi)) _) (cwV 0 hts gX5_tell_X5_advance rfl rfl rfl (by decide +kernel) ⟨Nat.le_of_ble_eq_true rfl, Nat.le_of_ble_eq_true rfl⟩) (cPre_V hK hP hD [0, 1] (by decide) rfl 0 5 rfl rfl) rfl rfl hl.1 rfl (lv_room (Nat.le_of_ble_eq_true rfl)) dX5_tell_19 ⟨Nat.zero_le _, Nat.zero_le _⟩) hP hD hS hA [0, 1] [2, 3, 4, 5, 6, 7, 8] rfl rfl (by decide) (by decide) [7, 8, 0, 1, 2, 3, 4, 5, 6] (fun u_19 => [oB h 5 (oF5 u_19 q), aI G (q 0) 140 tx, oB h2 1 (oF1 wL q2), aI G (q2 0) 10 xs1, aI G (q2 1) 10 ys1, aI G (q2 2) 10 hs1, aI G (q2 4) 8 fs1, aI G (q2 5) 8 ss1, aZ G (q2 8) 64 pk1]) (by decide) (fun _ => rfl) (fun u_19 H locs q_19 hP hD hS => ?_)
        have q_19 : u_19 1 = nI len ∧ u_19 2 = nI (tkS tx len i) ∧ u_19 3 = nI (tkE tx len i) ∧ u_19 4 = tkK tx len i ∧ (tkK tx len i = -2 → u_19 5 = nI (tkV tx len i)) := q_19
        have hP : va_P G.1 vwCl [oB h 5 (oF5 u_19 q), aI G (q 0) 140 tx, oB h2 1 (oF1 wL q2), aI G (q2 0) 10 xs1, aI G (q2 1) 10 ys1, aI G (q2 2) 10 hs1, aI G (q2 4) 8 fs1, aI G (q2 5) 8 ss1, aZ G (q2 8) 64 pk1] H := hP
        have hD : va_D A [oB h 5 (oF5 u_19 q), aI G (q 0) 140 tx, oB h2 1 (oF1 wL q2), aI G (q2 0) 10 xs1, aI G (q2 1) 10 ys1, aI G (q2 2) 10 hs1, aI G (q2 4) 8 fs1, aI G (q2 5) 8 ss1, aZ G (q2 8) 64 pk1] := hD
        refine lv_aload_n hx hb dX5_tell_22 rfl (lv_at hl 1 rfl) ?_
        refine va_get (D := G.1) (ci := 5) (v := .int (u_19 4)) (C := RX5) (T := TX5) (N := 6) hx hb hts hin5 hown hK.1 hP 0 rfl rfl 4 (by decide) f30 (fun _ h9 => h9) rfl dX5_tell_23 ?_
        refine top_i (y := tkK tx len i) (q_19.2.2.2.1) ?_
        refine lv_iconst (v := -1) hx hb dX5_tell_26 (by decide) ?_
        refine lv_icmp_ne (tgt := 33) hx hb dX5_tell_27 (by decide) (fun c_27 => ?_) (fun c_27 => ?_)
        · refine lv_aload_n hx hb dX5_tell_33 rfl (lv_at hl 1 rfl) ?_
          refine va_get (D := G.1) (ci := 5) (v := .int (u_19 4)) (C := RX5) (T := TX5) (N := 6) hx hb hts hin5 hown hK.1 hP 0 rfl rfl 4 (by decide) f30 (fun _ h9 => h9) rfl dX5_tell_34 ?_
          refine top_i (y := tkK tx len i) (q_19.2.2.2.1) ?_
          refine lv_bipush (v := 112) hx hb dX5_tell_37 (by decide) ?_
          refine lv_icmp_ne (tgt := 50) hx hb dX5_tell_39 (by decide) (fun c_39 => ?_) (fun c_39 => ?_)
          · refine lv_aload_n hx hb dX5_tell_50 rfl (lv_at hl 1 rfl) ?_
            refine va_get (D := G.1) (ci := 5) (v := .int (u_19 4)) (C := RX5) (T := TX5) (N := 6) hx hb hts hin5 hown hK.1 hP 0 rfl rfl 4 (by decide) f30 (fun _ h9 => h9) rfl dX5_tell_51 ?_
            refine top_i (y := tkK tx len i) (q_19.2.2.2.1) ?_
            refine lv_bipush (v := 114) hx hb dX5_tell_54 (by decide) ?_
            refine lv_icmp_ne (tgt := 67) hx hb dX5_tell_56 (by decide) (fun c_56 => ?_) (fun c_56 => ?_)
            · refine lv_aload_n hx hb dX5_tell_67 rfl (lv_at hl 1 rfl) ?_
              refine va_get (D := G.1) (ci := 5) (v := .int (u_19 4)) (C := RX5) (T := TX5) (N := 6) hx hb hts hin5 hown hK.1 hP 0 rfl rfl 4 (by decide) f30 (fun _ h9 => h9) rfl dX5_tell_68 ?_
              refine top_i (y := tkK tx len i) (q_19.2.2.2.1) ?_
              refine lv_bipush (v := 115) hx hb dX5_tell_71 (by decide) ?_
              refine lv_icmp_ne (tgt := 88) hx hb dX5_tell_73 (by decide) (fun c_73 => ?_) (fun c_73 => ?_)
              · refine lv_iconst (v := 0) hx hb dX5_tell_88 (by decide) ?_
                refine lv_istore_n (lv' := [(3, .int 0), (2, .int (nI it)), (0, .ref h), (1, .ref h2)]) hx hb dX5_tell_89 rfl hl (by decide) rfl (fun ls hl => ?_)
                refine lv_iload_n hx hb dX5_tell_90 rfl (lv_at hl 0 rfl) ?_
                refine lv_if_ne (tgt := 102) hx hb dX5_tell_91 (by decide) (fun c_91 => ?_) (fun c_91 => ?_)
                · exfalso
                  revert c_91
                  decide
                · refine lv_bipush (v := -10) hx hb dX5_tell_94 (by decide) ?_
                  refine lv_aload_n hx hb dX5_tell_96 rfl (lv_at hl 2 rfl) ?_
                  refine va_get (D := G.1) (ci := 5) (v := .int (u_19 2)) (C := RX5) (T := TX5) (N := 6) hx hb hts hin5 hown hK.1 hP 0 rfl rfl 2 (by decide) f43 (fun _ h9 => h9) rfl dX5_tell_97 ?_
                  refine lv_isub hx hb dX5_tell_100 ?_
                  have hpost : ∃ R, Prs tx len 0 0 PS0 R ∧ ((-10) - (u_19 2)) = prR R ∧ (R.1.1 = true → okPS R.2 ∧ obL R.2 (u_19, wL, xs1, ys1, hs1, fs1, ss1, pk1).2.1 ∧ arL R.2 (u_19, wL, xs1, ys1, hs1, fs1, ss1, pk1).2.2.1 (u_19, wL, xs1, ys1, hs1, fs1, ss1, pk1).2.2.2.1 (u_19, wL, xs1, ys1, hs1, fs1, ss1, pk1).2.2.2.2.1 (u_19, wL, xs1, ys1, hs1, fs1, ss1, pk1).2.2.2.2.2.1 (u_19, wL, xs1, ys1, hs1, fs1, ss1, pk1).2.2.2.2.2.2.1 (u_19, wL, xs1, ys1, hs1, fs1, ss1, pk1).2.2.2.2.2.2.2) ∧ (u_19, wL, xs1, ys1, hs1, fs1, ss1, pk1).1 1 = nI len ∧ R.1.2 ≤ 140 := by
                    have eIT : itemR tx len σ i = ((false, tkS tx len i, tkE tx len i), σ) := by rw [itemR, if_neg c_39, if_neg c_56, if_neg c_73]
                    have hrd : (itemR tx len σ i).1.1 = false := by rw [eIT]
                    refine ⟨((false, (itemR tx len σ i).1.2.1), σ), hPr _ (Prs.bad c_27 hrd), ?_, fun h => by (cases h), q_19.1, Nat.le_trans (itemR_pos hi) hlen⟩
                    show -10 - _ = -10 - nI _
                    rw [q_19.2.1, eIT]
                  exact hret _ (u_19, wL, xs1, ys1, hs1, fs1, ss1, pk1) _ _ _ _ (hpost) (rfl) hP hD hS dX5_tell_101
              · refine lv_aload_n hx hb dX5_tell_76 rfl (lv_at hl 1 rfl) ?_
                refine lv_aload_n hx hb dX5_tell_77 rfl (lv_at hl 2 rfl) ?_
                refine ca_i (wr := [aI G (q2 0) 10 xs1, aI G (q2 1) 10 ys1, aI G (q2 2) 10 hs1, aI G (q2 4) 8 fs1, aI G (q2 5) 8 ss1, aZ G (q2 8) 64 pk1]) (va_runV (As := [.ref h2]) (rest := []) ⟨hx, hb, hml, hown, hts⟩ ((c_X5_readsSlack l G h u_19 q tx h2 wL q2 xs1 ys1 hs1 fs1 ss1 pk1 σ len (tkE tx len i) (q_19.1) (hlen) (q_19.2.2.1) ((tk_le hi).2.2) (hok) (hob) (har)) _) (cwV 1 hts gX5_tell_X5_readsSlack rfl rfl rfl (by decide +kernel) ⟨Nat.le_of_ble_eq_true rfl, Nat.le_of_ble_eq_true rfl⟩) (cPre_V hK hP hD [0, 1, 2] (by decide) rfl 0 5 rfl rfl) rfl rfl hl.1 rfl (lv_room (Nat.le_of_ble_eq_true rfl)) dX5_tell_78 ⟨Nat.zero_le _, Nat.zero_le _⟩) hP hD hS hA [0, 1, 2] [3, 4, 5, 6, 7, 8] rfl rfl (by decide) (by decide) [6, 7, 8, 0, 1, 2, 3, 4, 5] (fun u_78 => [oB h 5 (oF5 u_78.1 q), aI G (q 0) 140 tx, oB h2 1 (oF1 u_78.2 q2), aI G (q2 0) 10 xs1, aI G (q2 1) 10 ys1, aI G (q2 2) 10 hs1, aI G (q2 4) 8 fs1, aI G (q2 5) 8 ss1, aZ G (q2 8) 64 pk1]) (by decide) (fun _ => rfl) (fun r_78 u_78 H locs q_78 hP hD hS => ?_)
                obtain ⟨rfl, q_78⟩ : r_78 = b2i (itSlack tx len σ (tkE tx len i)).1.1 ∧ (u_78.1 1 = nI len ∧ u_78.1 2 = nI (itSlack tx len σ (tkE tx len i)).1.2.1 ∧ u_78.1 3 = nI (itSlack tx len σ (tkE tx len i)).1.2.2 ∧ obL (itSlack tx len σ (tkE tx len i)).2 u_78.2 ∧ arL (itSlack tx len σ (tkE tx len i)).2 xs1 ys1 hs1 fs1 ss1 pk1) := q_78
                have hP : va_P G.1 vwCl [oB h 5 (oF5 u_78.1 q), aI G (q 0) 140 tx, oB h2 1 (oF1 u_78.2 q2), aI G (q2 0) 10 xs1, aI G (q2 1) 10 ys1, aI G (q2 2) 10 hs1, aI G (q2 4) 8 fs1, aI G (q2 5) 8 ss1, aZ G (q2 8) 64 pk1] H := hP
                have hD : va_D A [oB h 5 (oF5 u_78.1 q), aI G (q 0) 140 tx, oB h2 1 (oF1 u_78.2 q2), aI G (q2 0) 10 xs1, aI G (q2 1) 10 ys1, aI G (q2 2) 10 hs1, aI G (q2 4) 8 fs1, aI G (q2 5) 8 ss1, aZ G (q2 8) 64 pk1] := hD
                have eIT : itemR tx len σ i = itSlack tx len σ (tkE tx len i) := by rw [itemR, if_neg c_39, if_neg c_56, if_pos c_73]
                rw [← eIT] at q_78
                have hQ2 : u_78.1 1 = nI len ∧ u_78.1 2 = nI (itemR tx len σ i).1.2.1 ∧ u_78.1 3 = nI (itemR tx len σ i).1.2.2 ∧ obL (itemR tx len σ i).2 u_78.2 ∧ arL (itemR tx len σ i).2 xs1 ys1 hs1 fs1 ss1 pk1 := q_78
                refine top_i (y := b2i (itemR tx len σ i).1.1) (by rw [eIT]) ?_
                refine lv_if_eq (tgt := 88) hx hb dX5_tell_81 (by decide) (fun c_81 => ?_) (fun c_81 => ?_)
                · have c_81 : ((itemR tx len σ i).1.1) = false := b2i_0.mp c_81
                  refine lv_iconst (v := 0) hx hb dX5_tell_88 (by decide) ?_
                  refine lv_istore_n (lv' := [(3, .int 0), (2, .int (nI it)), (0, .ref h), (1, .ref h2)]) hx hb dX5_tell_89 rfl hl (by decide) rfl (fun ls hl => ?_)
                  refine lv_iload_n hx hb dX5_tell_90 rfl (lv_at hl 0 rfl) ?_
                  refine lv_if_ne (tgt := 102) hx hb dX5_tell_91 (by decide) (fun c_91 => ?_) (fun c_91 => ?_)
                  · exfalso
                    revert c_91
                    decide
                  · refine lv_bipush (v := -10) hx hb dX5_tell_94 (by decide) ?_
                    refine lv_aload_n hx hb dX5_tell_96 rfl (lv_at hl 2 rfl) ?_
                    refine va_get (D := G.1) (ci := 5) (v := .int (u_78.1 2)) (C := RX5) (T := TX5) (N := 6) hx hb hts hin5 hown hK.1 hP 0 rfl rfl 2 (by decide) f43 (fun _ h9 => h9) rfl dX5_tell_97 ?_
                    refine lv_isub hx hb dX5_tell_100 ?_
                    have hpost : ∃ R, Prs tx len 0 0 PS0 R ∧ ((-10) - (u_78.1 2)) = prR R ∧ (R.1.1 = true → okPS R.2 ∧ obL R.2 (u_78.1, u_78.2, xs1, ys1, hs1, fs1, ss1, pk1).2.1 ∧ arL R.2 (u_78.1, u_78.2, xs1, ys1, hs1, fs1, ss1, pk1).2.2.1 (u_78.1, u_78.2, xs1, ys1, hs1, fs1, ss1, pk1).2.2.2.1 (u_78.1, u_78.2, xs1, ys1, hs1, fs1, ss1, pk1).2.2.2.2.1 (u_78.1, u_78.2, xs1, ys1, hs1, fs1, ss1, pk1).2.2.2.2.2.1 (u_78.1, u_78.2, xs1, ys1, hs1, fs1, ss1, pk1).2.2.2.2.2.2.1 (u_78.1, u_78.2, xs1, ys1, hs1, fs1, ss1, pk1).2.2.2.2.2.2.2) ∧ (u_78.1, u_78.2, xs1, ys1, hs1, fs1, ss1, pk1).1 1 = nI len ∧ R.1.2 ≤ 140 := by
                      have hrd : (itemR tx len σ i).1.1 = false := c_81
                      refine ⟨((false, (itemR tx len σ i).1.2.1), σ), hPr _ (Prs.bad c_27 hrd), ?_, fun h => by (cases h), hQ2.1, Nat.le_trans (itemR_pos hi) hlen⟩
                      show -10 - _ = -10 - nI _
                      rw [hQ2.2.1]
                    exact hret _ (u_78.1, u_78.2, xs1, ys1, hs1, fs1, ss1, pk1) _ _ _ _ (hpost) (rfl) hP hD hS dX5_tell_101
                · have c_81 : ((itemR tx len σ i).1.1) = true := b2i_n0.mp c_81
                  refine lv_iconst (v := 1) hx hb dX5_tell_84 (by decide) ?_
                  refine lv_goto (tgt := 89) hx hb dX5_tell_85 (by decide) ?_
                  refine lv_istore_n (lv' := [(3, .int 1), (2, .int (nI it)), (0, .ref h), (1, .ref h2)]) hx hb dX5_tell_89 rfl hl (by decide) rfl (fun ls hl => ?_)
                  refine lv_iload_n hx hb dX5_tell_90 rfl (lv_at hl 0 rfl) ?_
                  refine lv_if_ne (tgt := 102) hx hb dX5_tell_91 (by decide) (fun c_91 => ?_) (fun c_91 => ?_)
                  · refine lv_iinc (v := nI (it + 1)) (lv' := [(2, .int (nI (it + 1))), (3, .int 1), (0, .ref h), (1, .ref h2)]) hx hb dX5_tell_102 hl (k := 1) rfl (inc_nI _ 1) (by decide) rfl (fun ls hl => ?_)
                    refine lv_goto (tgt := 11) hx hb dX5_tell_105 (by decide) ?_
                    have hrd : (itemR tx len σ i).1.1 = true := c_81
                    have hnx := itemR_ok hi c_27 hok hrd
                    exact ih11 u_78.1 u_78.2 xs1 ys1 hs1 fs1 ss1 pk1 ((itemR tx len σ i).2) (it + 1) ((itemR tx len σ i).1.2.2) (by have := hnx.1; omega) (hnx.2.1) (by omega) (hnx.2.2) (hQ2.2.2.2.1) (hQ2.2.2.2.2) (hQ2.1) (hQ2.2.2.1) (fun R hR => hPr R (Prs.step c_27 hrd hR)) _ _ hP hD hS _ (lv_sub hl [0, 2, 3] rfl)
                  · exfalso
                    revert c_91
                    decide
            · refine lv_aload_n hx hb dX5_tell_59 rfl (lv_at hl 1 rfl) ?_
              refine lv_aload_n hx hb dX5_tell_60 rfl (lv_at hl 2 rfl) ?_
              refine ca_i (wr := [aI G (q2 0) 10 xs1, aI G (q2 1) 10 ys1, aI G (q2 2) 10 hs1, aZ G (q2 8) 64 pk1]) (va_runV (As := [.ref h2]) (rest := []) ⟨hx, hb, hml, hown, hts⟩ ((c_X5_readsRidge l G h u_19 q tx h2 wL q2 xs1 ys1 hs1 fs1 ss1 pk1 σ len (tkS tx len i) (tkE tx len i) (q_19.1) (hlen) (q_19.2.2.1) ((tk_le hi).2.2) (hok) (hob) (har) (q_19.2.1)) _) (cwV 1 hts gX5_tell_X5_readsRidge rfl rfl rfl (by decide +kernel) ⟨Nat.le_of_ble_eq_true rfl, Nat.le_of_ble_eq_true rfl⟩) (cPre_V hK hP hD [0, 1, 2, 6, 7] (by decide) rfl 0 5 rfl rfl) rfl rfl hl.1 rfl (lv_room (Nat.le_of_ble_eq_true rfl)) dX5_tell_61 ⟨Nat.zero_le _, Nat.zero_le _⟩) hP hD hS hA [0, 1, 2, 6, 7] [3, 4, 5, 8] rfl rfl (by decide) (by decide) [4, 5, 6, 0, 1, 2, 7, 8, 3] (fun u_61 => [oB h 5 (oF5 u_61.1 q), aI G (q 0) 140 tx, oB h2 1 (oF1 u_61.2.1 q2), aI G (q2 0) 10 xs1, aI G (q2 1) 10 ys1, aI G (q2 2) 10 hs1, aI G (q2 4) 8 u_61.2.2.1, aI G (q2 5) 8 u_61.2.2.2, aZ G (q2 8) 64 pk1]) (by decide) (fun _ => rfl) (fun r_61 u_61 H locs q_61 hP hD hS => ?_)
              obtain ⟨rfl, q_61⟩ : r_61 = b2i (itRidge tx len σ (tkS tx len i) (tkE tx len i)).1.1 ∧ (u_61.1 1 = nI len ∧ u_61.1 2 = nI (itRidge tx len σ (tkS tx len i) (tkE tx len i)).1.2.1 ∧ u_61.1 3 = nI (itRidge tx len σ (tkS tx len i) (tkE tx len i)).1.2.2 ∧ obL (itRidge tx len σ (tkS tx len i) (tkE tx len i)).2 u_61.2.1 ∧ arL (itRidge tx len σ (tkS tx len i) (tkE tx len i)).2 xs1 ys1 hs1 u_61.2.2.1 u_61.2.2.2 pk1) := q_61
              have hP : va_P G.1 vwCl [oB h 5 (oF5 u_61.1 q), aI G (q 0) 140 tx, oB h2 1 (oF1 u_61.2.1 q2), aI G (q2 0) 10 xs1, aI G (q2 1) 10 ys1, aI G (q2 2) 10 hs1, aI G (q2 4) 8 u_61.2.2.1, aI G (q2 5) 8 u_61.2.2.2, aZ G (q2 8) 64 pk1] H := hP
              have hD : va_D A [oB h 5 (oF5 u_61.1 q), aI G (q 0) 140 tx, oB h2 1 (oF1 u_61.2.1 q2), aI G (q2 0) 10 xs1, aI G (q2 1) 10 ys1, aI G (q2 2) 10 hs1, aI G (q2 4) 8 u_61.2.2.1, aI G (q2 5) 8 u_61.2.2.2, aZ G (q2 8) 64 pk1] := hD
              have eIT : itemR tx len σ i = itRidge tx len σ (tkS tx len i) (tkE tx len i) := by rw [itemR, if_neg c_39, if_pos c_56]
              rw [← eIT] at q_61
              have hQ2 : u_61.1 1 = nI len ∧ u_61.1 2 = nI (itemR tx len σ i).1.2.1 ∧ u_61.1 3 = nI (itemR tx len σ i).1.2.2 ∧ obL (itemR tx len σ i).2 u_61.2.1 ∧ arL (itemR tx len σ i).2 xs1 ys1 hs1 u_61.2.2.1 u_61.2.2.2 pk1 := q_61
              refine top_i (y := b2i (itemR tx len σ i).1.1) (by rw [eIT]) ?_
              refine lv_goto (tgt := 89) hx hb dX5_tell_64 (by decide) ?_
              refine lv_istore_n (lv' := [(3, .int (b2i (itemR tx len σ i).1.1)), (2, .int (nI it)), (0, .ref h), (1, .ref h2)]) hx hb dX5_tell_89 rfl hl (by decide) rfl (fun ls hl => ?_)
              refine lv_iload_n hx hb dX5_tell_90 rfl (lv_at hl 0 rfl) ?_
              refine lv_if_ne (tgt := 102) hx hb dX5_tell_91 (by decide) (fun c_91 => ?_) (fun c_91 => ?_)
              · have c_91 : ((itemR tx len σ i).1.1) = true := b2i_n0.mp c_91
                refine lv_iinc (v := nI (it + 1)) (lv' := [(2, .int (nI (it + 1))), (3, .int (b2i (itemR tx len σ i).1.1)), (0, .ref h), (1, .ref h2)]) hx hb dX5_tell_102 hl (k := 1) rfl (inc_nI _ 1) (by decide) rfl (fun ls hl => ?_)
                refine lv_goto (tgt := 11) hx hb dX5_tell_105 (by decide) ?_
                have hrd : (itemR tx len σ i).1.1 = true := c_91
                have hnx := itemR_ok hi c_27 hok hrd
                exact ih11 u_61.1 u_61.2.1 xs1 ys1 hs1 u_61.2.2.1 u_61.2.2.2 pk1 ((itemR tx len σ i).2) (it + 1) ((itemR tx len σ i).1.2.2) (by have := hnx.1; omega) (hnx.2.1) (by omega) (hnx.2.2) (hQ2.2.2.2.1) (hQ2.2.2.2.2) (hQ2.1) (hQ2.2.2.1) (fun R hR => hPr R (Prs.step c_27 hrd hR)) _ _ hP hD hS _ (lv_sub hl [0, 2, 3] rfl)
              · have c_91 : ((itemR tx len σ i).1.1) = false := b2i_0.mp c_91
                refine lv_bipush (v := -10) hx hb dX5_tell_94 (by decide) ?_
                refine lv_aload_n hx hb dX5_tell_96 rfl (lv_at hl 2 rfl) ?_
                refine va_get (D := G.1) (ci := 5) (v := .int (u_61.1 2)) (C := RX5) (T := TX5) (N := 6) hx hb hts hin5 hown hK.1 hP 0 rfl rfl 2 (by decide) f43 (fun _ h9 => h9) rfl dX5_tell_97 ?_
                refine lv_isub hx hb dX5_tell_100 ?_
                have hpost : ∃ R, Prs tx len 0 0 PS0 R ∧ ((-10) - (u_61.1 2)) = prR R ∧ (R.1.1 = true → okPS R.2 ∧ obL R.2 (u_61.1, u_61.2.1, xs1, ys1, hs1, u_61.2.2.1, u_61.2.2.2, pk1).2.1 ∧ arL R.2 (u_61.1, u_61.2.1, xs1, ys1, hs1, u_61.2.2.1, u_61.2.2.2, pk1).2.2.1 (u_61.1, u_61.2.1, xs1, ys1, hs1, u_61.2.2.1, u_61.2.2.2, pk1).2.2.2.1 (u_61.1, u_61.2.1, xs1, ys1, hs1, u_61.2.2.1, u_61.2.2.2, pk1).2.2.2.2.1 (u_61.1, u_61.2.1, xs1, ys1, hs1, u_61.2.2.1, u_61.2.2.2, pk1).2.2.2.2.2.1 (u_61.1, u_61.2.1, xs1, ys1, hs1, u_61.2.2.1, u_61.2.2.2, pk1).2.2.2.2.2.2.1 (u_61.1, u_61.2.1, xs1, ys1, hs1, u_61.2.2.1, u_61.2.2.2, pk1).2.2.2.2.2.2.2) ∧ (u_61.1, u_61.2.1, xs1, ys1, hs1, u_61.2.2.1, u_61.2.2.2, pk1).1 1 = nI len ∧ R.1.2 ≤ 140 := by
                  have hrd : (itemR tx len σ i).1.1 = false := c_91
                  refine ⟨((false, (itemR tx len σ i).1.2.1), σ), hPr _ (Prs.bad c_27 hrd), ?_, fun h => by (cases h), hQ2.1, Nat.le_trans (itemR_pos hi) hlen⟩
                  show -10 - _ = -10 - nI _
                  rw [hQ2.2.1]
                exact hret _ (u_61.1, u_61.2.1, xs1, ys1, hs1, u_61.2.2.1, u_61.2.2.2, pk1) _ _ _ _ (hpost) (rfl) hP hD hS dX5_tell_101
          · refine lv_aload_n hx hb dX5_tell_42 rfl (lv_at hl 1 rfl) ?_
            refine lv_aload_n hx hb dX5_tell_43 rfl (lv_at hl 2 rfl) ?_
            refine ca_i (wr := [aI G (q2 4) 8 fs1, aI G (q2 5) 8 ss1]) (va_runV (As := [.ref h2]) (rest := []) ⟨hx, hb, hml, hown, hts⟩ ((c_X5_readsPeak l G h u_19 q tx h2 wL q2 xs1 ys1 hs1 fs1 ss1 pk1 σ len (tkS tx len i) (tkE tx len i) (q_19.1) (hlen) (q_19.2.2.1) ((tk_le hi).2.2) (hok) (hob) (har) (q_19.2.1)) _) (cwV 1 hts gX5_tell_X5_readsPeak rfl rfl rfl (by decide +kernel) ⟨Nat.le_of_ble_eq_true rfl, Nat.le_of_ble_eq_true rfl⟩) (cPre_V hK hP hD [0, 1, 2, 3, 4, 5, 8] (by decide) rfl 0 5 rfl rfl) rfl rfl hl.1 rfl (lv_room (Nat.le_of_ble_eq_true rfl)) dX5_tell_44 ⟨Nat.zero_le _, Nat.zero_le _⟩) hP hD hS hA [0, 1, 2, 3, 4, 5, 8] [6, 7] rfl rfl (by decide) (by decide) [2, 3, 4, 5, 6, 7, 0, 1, 8] (fun u_44 => [oB h 5 (oF5 u_44.1 q), aI G (q 0) 140 tx, oB h2 1 (oF1 u_44.2.1 q2), aI G (q2 0) 10 u_44.2.2.1, aI G (q2 1) 10 u_44.2.2.2.1, aI G (q2 2) 10 u_44.2.2.2.2.1, aI G (q2 4) 8 fs1, aI G (q2 5) 8 ss1, aZ G (q2 8) 64 u_44.2.2.2.2.2]) (by decide) (fun _ => rfl) (fun r_44 u_44 H locs q_44 hP hD hS => ?_)
            obtain ⟨rfl, q_44⟩ : r_44 = b2i (itPeak tx len σ (tkS tx len i) (tkE tx len i)).1.1 ∧ (u_44.1 1 = nI len ∧ u_44.1 2 = nI (itPeak tx len σ (tkS tx len i) (tkE tx len i)).1.2.1 ∧ u_44.1 3 = nI (itPeak tx len σ (tkS tx len i) (tkE tx len i)).1.2.2 ∧ obL (itPeak tx len σ (tkS tx len i) (tkE tx len i)).2 u_44.2.1 ∧ arL (itPeak tx len σ (tkS tx len i) (tkE tx len i)).2 u_44.2.2.1 u_44.2.2.2.1 u_44.2.2.2.2.1 fs1 ss1 u_44.2.2.2.2.2) := q_44
            have hP : va_P G.1 vwCl [oB h 5 (oF5 u_44.1 q), aI G (q 0) 140 tx, oB h2 1 (oF1 u_44.2.1 q2), aI G (q2 0) 10 u_44.2.2.1, aI G (q2 1) 10 u_44.2.2.2.1, aI G (q2 2) 10 u_44.2.2.2.2.1, aI G (q2 4) 8 fs1, aI G (q2 5) 8 ss1, aZ G (q2 8) 64 u_44.2.2.2.2.2] H := hP
            have hD : va_D A [oB h 5 (oF5 u_44.1 q), aI G (q 0) 140 tx, oB h2 1 (oF1 u_44.2.1 q2), aI G (q2 0) 10 u_44.2.2.1, aI G (q2 1) 10 u_44.2.2.2.1, aI G (q2 2) 10 u_44.2.2.2.2.1, aI G (q2 4) 8 fs1, aI G (q2 5) 8 ss1, aZ G (q2 8) 64 u_44.2.2.2.2.2] := hD
            have eIT : itemR tx len σ i = itPeak tx len σ (tkS tx len i) (tkE tx len i) := by rw [itemR, if_pos c_39]
            rw [← eIT] at q_44
            have hQ2 : u_44.1 1 = nI len ∧ u_44.1 2 = nI (itemR tx len σ i).1.2.1 ∧ u_44.1 3 = nI (itemR tx len σ i).1.2.2 ∧ obL (itemR tx len σ i).2 u_44.2.1 ∧ arL (itemR tx len σ i).2 u_44.2.2.1 u_44.2.2.2.1 u_44.2.2.2.2.1 fs1 ss1 u_44.2.2.2.2.2 := q_44
            refine top_i (y := b2i (itemR tx len σ i).1.1) (by rw [eIT]) ?_
            refine lv_goto (tgt := 89) hx hb dX5_tell_47 (by decide) ?_
            refine lv_istore_n (lv' := [(3, .int (b2i (itemR tx len σ i).1.1)), (2, .int (nI it)), (0, .ref h), (1, .ref h2)]) hx hb dX5_tell_89 rfl hl (by decide) rfl (fun ls hl => ?_)
            refine lv_iload_n hx hb dX5_tell_90 rfl (lv_at hl 0 rfl) ?_
            refine lv_if_ne (tgt := 102) hx hb dX5_tell_91 (by decide) (fun c_91 => ?_) (fun c_91 => ?_)
            · have c_91 : ((itemR tx len σ i).1.1) = true := b2i_n0.mp c_91
              refine lv_iinc (v := nI (it + 1)) (lv' := [(2, .int (nI (it + 1))), (3, .int (b2i (itemR tx len σ i).1.1)), (0, .ref h), (1, .ref h2)]) hx hb dX5_tell_102 hl (k := 1) rfl (inc_nI _ 1) (by decide) rfl (fun ls hl => ?_)
              refine lv_goto (tgt := 11) hx hb dX5_tell_105 (by decide) ?_
              have hrd : (itemR tx len σ i).1.1 = true := c_91
              have hnx := itemR_ok hi c_27 hok hrd
              exact ih11 u_44.1 u_44.2.1 u_44.2.2.1 u_44.2.2.2.1 u_44.2.2.2.2.1 fs1 ss1 u_44.2.2.2.2.2 ((itemR tx len σ i).2) (it + 1) ((itemR tx len σ i).1.2.2) (by have := hnx.1; omega) (hnx.2.1) (by omega) (hnx.2.2) (hQ2.2.2.2.1) (hQ2.2.2.2.2) (hQ2.1) (hQ2.2.2.1) (fun R hR => hPr R (Prs.step c_27 hrd hR)) _ _ hP hD hS _ (lv_sub hl [0, 2, 3] rfl)
            · have c_91 : ((itemR tx len σ i).1.1) = false := b2i_0.mp c_91
              refine lv_bipush (v := -10) hx hb dX5_tell_94 (by decide) ?_
              refine lv_aload_n hx hb dX5_tell_96 rfl (lv_at hl 2 rfl) ?_
              refine va_get (D := G.1) (ci := 5) (v := .int (u_44.1 2)) (C := RX5) (T := TX5) (N := 6) hx hb hts hin5 hown hK.1 hP 0 rfl rfl 2 (by decide) f43 (fun _ h9 => h9) rfl dX5_tell_97 ?_
              refine lv_isub hx hb dX5_tell_100 ?_
              have hpost : ∃ R, Prs tx len 0 0 PS0 R ∧ ((-10) - (u_44.1 2)) = prR R ∧ (R.1.1 = true → okPS R.2 ∧ obL R.2 (u_44.1, u_44.2.1, u_44.2.2.1, u_44.2.2.2.1, u_44.2.2.2.2.1, fs1, ss1, u_44.2.2.2.2.2).2.1 ∧ arL R.2 (u_44.1, u_44.2.1, u_44.2.2.1, u_44.2.2.2.1, u_44.2.2.2.2.1, fs1, ss1, u_44.2.2.2.2.2).2.2.1 (u_44.1, u_44.2.1, u_44.2.2.1, u_44.2.2.2.1, u_44.2.2.2.2.1, fs1, ss1, u_44.2.2.2.2.2).2.2.2.1 (u_44.1, u_44.2.1, u_44.2.2.1, u_44.2.2.2.1, u_44.2.2.2.2.1, fs1, ss1, u_44.2.2.2.2.2).2.2.2.2.1 (u_44.1, u_44.2.1, u_44.2.2.1, u_44.2.2.2.1, u_44.2.2.2.2.1, fs1, ss1, u_44.2.2.2.2.2).2.2.2.2.2.1 (u_44.1, u_44.2.1, u_44.2.2.1, u_44.2.2.2.1, u_44.2.2.2.2.1, fs1, ss1, u_44.2.2.2.2.2).2.2.2.2.2.2.1 (u_44.1, u_44.2.1, u_44.2.2.1, u_44.2.2.2.1, u_44.2.2.2.2.1, fs1, ss1, u_44.2.2.2.2.2).2.2.2.2.2.2.2) ∧ (u_44.1, u_44.2.1, u_44.2.2.1, u_44.2.2.2.1, u_44.2.2.2.2.1, fs1, ss1, u_44.2.2.2.2.2).1 1 = nI len ∧ R.1.2 ≤ 140 := by
                have hrd : (itemR tx len σ i).1.1 = false := c_91
                refine ⟨((false, (itemR tx len σ i).1.2.1), σ), hPr _ (Prs.bad c_27 hrd), ?_, fun h => by (cases h), hQ2.1, Nat.le_trans (itemR_pos hi) hlen⟩
                show -10 - _ = -10 - nI _
                rw [hQ2.2.1]
              exact hret _ (u_44.1, u_44.2.1, u_44.2.2.1, u_44.2.2.2.1, u_44.2.2.2.2.1, fs1, ss1, u_44.2.2.2.2.2) _ _ _ _ (hpost) (rfl) hP hD hS dX5_tell_101
        · refine lv_goto (tgt := 108) hx hb dX5_tell_30 (by decide) ?_
          refine lv_iload_n hx hb dX5_tell_108 rfl (lv_at hl 0 rfl) ?_
          have hpost : ∃ R, Prs tx len 0 0 PS0 R ∧ (nI it) = prR R ∧ (R.1.1 = true → okPS R.2 ∧ obL R.2 (u_19, wL, xs1, ys1, hs1, fs1, ss1, pk1).2.1 ∧ arL R.2 (u_19, wL, xs1, ys1, hs1, fs1, ss1, pk1).2.2.1 (u_19, wL, xs1, ys1, hs1, fs1, ss1, pk1).2.2.2.1 (u_19, wL, xs1, ys1, hs1, fs1, ss1, pk1).2.2.2.2.1 (u_19, wL, xs1, ys1, hs1, fs1, ss1, pk1).2.2.2.2.2.1 (u_19, wL, xs1, ys1, hs1, fs1, ss1, pk1).2.2.2.2.2.2.1 (u_19, wL, xs1, ys1, hs1, fs1, ss1, pk1).2.2.2.2.2.2.2) ∧ (u_19, wL, xs1, ys1, hs1, fs1, ss1, pk1).1 1 = nI len ∧ R.1.2 ≤ 140 := by
            exact ⟨((true, it), σ), hPr _ (Prs.end c_27), rfl, fun _ => ⟨hok, hob, har⟩, q_19.1, by show it ≤ 140; omega⟩
          exact hret _ (u_19, wL, xs1, ys1, hs1, fs1, ss1, pk1) _ _ _ _ (hpost) (rfl) hP hD hS dX5_tell_109
  exact loop_11 _ (upd v 3 0) (upd (upd (upd v2 3 0) 6 0) 7 1) xs ys hs fs ss u_1 PS0 0 0 (Nat.lt_succ_self _) (Nat.zero_le _) (Nat.le_refl _) (okPS0) (⟨rfl, rfl, rfl⟩) (arL_0 q_1) (hv1) (rfl) (fun R h => h) _ _ hP hD hS _ (lv_sub hl [0, 1, 2] rfl)
