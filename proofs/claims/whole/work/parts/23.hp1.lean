def tyOk (x : Int32) : Bool := !decide (x < 0) && decide (x ≤ 255)
def tyR (len : Nat) (x : Int32) : Int32 := if tyOk x = true then (if len < 140 then nI (len + 1) else -3) else -1
def tyN (len : Nat) (x : Int32) : Nat := if tyOk x = true ∧ len < 140 then len + 1 else len
def tyX (tx : Nat → Int32) (len : Nat) (x : Int32) : Nat → Int32 := if tyOk x = true ∧ len < 140 then upd tx len x else tx
def pkR (σ : PS) (x y : Int32) : Int32 := if pHas (nI (zn σ)) x = true then (if y = 0 then nI (zx σ x.toNatClampNeg) else if y = 1 then nI (zy σ x.toNatClampNeg) else if y = 2 then nI (zz σ x.toNatClampNeg) else -1) else -1
def rdR (σ : PS) (x y : Int32) : Int32 := if pHas (nI (zm σ)) x = true then (if y = 0 then nI (za σ x.toNatClampNeg) else if y = 1 then nI (zb σ x.toNatClampNeg) else -1) else -1
def LOK (σ : PS) (vL xs ys hs fs ss pk vis : Nat → Int32) : Prop := okPS σ ∧ obL σ vL ∧ arL σ xs ys hs fs ss pk ∧ ∀ i, i < 64 → vis i = gvis xs ys hs (zn σ) (za σ) (zb σ) (zm σ) pk i
theorem sw3_ne {y : Int32} (h : y.toInt < 0 ∨ 2 < y.toInt) : ¬ y = 0 ∧ ¬ y = 1 ∧ ¬ y = 2 := ⟨fun e => by subst e; simp at h, fun e => by subst e; revert h; decide, fun e => by subst e; revert h; decide⟩
theorem pHas_mk {n x : Int32} (h1 : ¬ x < 0) (h2 : x < n) : pHas n x = true := by
  have : ¬ n ≤ x := fun q => by rw [Int32.le_iff_toInt_le] at q; rw [Int32.lt_iff_toInt_lt] at h2; omega
  simp [pHas, h1, this]
theorem pHas_no {n x : Int32} (h2 : ¬ x < n) : pHas n x = false := by
  have : n ≤ x := by rw [Int32.le_iff_toInt_le]; rw [Int32.lt_iff_toInt_lt] at h2; omega
  simp [pHas, this]
theorem pHas_neg {n x : Int32} (h1 : x < 0) : pHas n x = false := by simp [pHas, h1]
def coR (σ : PS) (len nn cc U : Nat) (x : Int32) : Int32 := if x = 0 then nI (zn σ) else if x = 1 then nI (zm σ) else if x = 2 then nI (zl σ) else if x = 3 then nI nn else if x = 4 then nI cc else if x = 5 then nI len else if x = 6 then nI U else -1
theorem sw7_ne {y : Int32} (h : y.toInt < 0 ∨ 6 < y.toInt) : ¬ y = 0 ∧ ¬ y = 1 ∧ ¬ y = 2 ∧ ¬ y = 3 ∧ ¬ y = 4 ∧ ¬ y = 5 ∧ ¬ y = 6 := by
  refine ⟨?_, ?_, ?_, ?_, ?_, ?_, ?_⟩ <;> (intro e; subst e; revert h; decide)
def PuQ (D : Bool) (N : NL) (j U : Nat) (vP vR bR zR vV vP' vR' bR' zR' vV' : Nat → Int32) : Prop := (D = true → vP' 1 = nI ((j + 1) % 10) ∧ vP' 2 = nI (min (U + 1) 10) ∧ NRep N vR' bR' zR' ∧ vV' 4 = 0) ∧ (D = false → vP' = vP ∧ vR' = vR ∧ bR' = bR ∧ zR' = zR ∧ vV' = vV)
theorem PuQ_no {N : NL} {j U : Nat} {vP vR bR zR vV : Nat → Int32} : PuQ false N j U vP vR bR zR vV vP vR bR zR vV := ⟨fun h => (by cases h), fun _ => ⟨rfl, rfl, rfl, rfl, rfl⟩⟩
def noD (N : NL) (x y : Int32) : Bool := pMark x y && decide (N.1 < 8)
def noR (N : NL) (x y : Int32) : Int32 := if pMark x y = true then (if N.1 < 8 then nI (N.1 + 1) else -3) else -1
def noN (N : NL) (x y : Int32) : NL := if noD N x y = true then (N.1 + 1, updN N.2.1 N.1 x.toNatClampNeg, updN N.2.2 N.1 y.toNatClampNeg) else N
theorem pMark_of {x y : Int32} (h : pMark x y = true) : ∃ a b : Nat, a < 64 ∧ b ≤ 480 ∧ x = nI a ∧ y = nI b := by
  simp only [pMark, pLook, Bool.and_eq_true, Bool.not_eq_true', decide_eq_false_iff_not] at h
  obtain ⟨⟨h1, h2⟩, h3, h4⟩ := h
  obtain ⟨a, ha, rfl⟩ := nI_of h1
  obtain ⟨b, hb, rfl⟩ := nI_of h3
  exact ⟨a, b, by have : ¬ 64 ≤ a := fun q => h2 ((c_le (a := 64) rfl rfl (by omega) (by omega)).mpr q)
                  omega, by have : ¬ 480 < b := fun q => h4 ((c_lt (a := 480) rfl rfl (by omega) (by omega)).mpr q)
                            omega, rfl, rfl⟩
theorem NRep_add {N : NL} {vN bs zs v2 : Nat → Int32} {a b : Nat} (h : NRep N vN bs zs) (hn : N.1 < 8) (ha : a < 64) (hb : b ≤ 480) (hv : v2 2 = nI (N.1 + 1)) : NRep (N.1 + 1, updN N.2.1 N.1 a, updN N.2.2 N.1 b) v2 (upd bs N.1 (nI a)) (upd zs N.1 (nI b)) := by
  refine ⟨hv, by show N.1 + 1 ≤ 8; omega, fun k hk => ?_⟩
  have hk' : k < N.1 + 1 := hk
  show upd bs N.1 (nI a) k = nI (updN N.2.1 N.1 a k) ∧ updN N.2.1 N.1 a k < 64 ∧ upd zs N.1 (nI b) k = nI (updN N.2.2 N.1 b k) ∧ updN N.2.2 N.1 b k ≤ 480
  by_cases e : k = N.1
  · rw [e, pk_us, pk_us, updN_s, updN_s]; exact ⟨rfl, ha, rfl, hb⟩
  · rw [pk_un e, pk_un e, updN_n e, updN_n e]; exact h.2.2 k (by omega)
def shN (f : Nat → Nat) (k i : Nat) : Nat := if i < k then f i else f (i + 1)
def erR (N : NL) (x : Int32) : Int32 := if pHas (nI N.1) x = true then nI (N.1 - 1) else -1
def erN (N : NL) (x : Int32) : NL := if pHas (nI N.1) x = true then (N.1 - 1, shN N.2.1 x.toNatClampNeg, shN N.2.2 x.toNatClampNeg) else N
theorem NRep_rm {N : NL} {vN bs zs v2 b2 z2 : Nat → Int32} {k : Nat} (h : NRep N vN bs zs) (hk : k < N.1) (hv : v2 2 = nI (N.1 - 1)) (hb : ∀ i, i < N.1 - 1 → b2 i = shf bs k i ∧ z2 i = shf zs k i) : NRep (N.1 - 1, shN N.2.1 k, shN N.2.2 k) v2 b2 z2 := by
  have h8 := h.2.1
  refine ⟨hv, by show N.1 - 1 ≤ 8; omega, fun i hi => ?_⟩
  have hi' : i < N.1 - 1 := hi
  show b2 i = nI (shN N.2.1 k i) ∧ shN N.2.1 k i < 64 ∧ z2 i = nI (shN N.2.2 k i) ∧ shN N.2.2 k i ≤ 480
  rw [(hb i hi').1, (hb i hi').2]
  unfold shf shN
  by_cases c : i < k
  · simp only [if_pos c]; exact h.2.2 i (by omega)
  · simp only [if_neg c]; exact h.2.2 (i + 1) (by omega)
def meO (N : NL) (x y z : Int32) : Bool := pHas (nI N.1) x && pMark y z
def meS (N : NL) (x y z : Int32) : Bool := decide (nI (N.2.1 x.toNatClampNeg) = y) && decide (nI (N.2.2 x.toNatClampNeg) = z)
def meD (N : NL) (x y z : Int32) : Bool := meO N x y z && !meS N x y z
def meR (N : NL) (x y z : Int32) : Int32 := if meO N x y z = true then (if meS N x y z = true then -2 else 1) else -1
def meN (N : NL) (x y z : Int32) : NL := if meD N x y z = true then (N.1, updN N.2.1 x.toNatClampNeg y.toNatClampNeg, updN N.2.2 x.toNatClampNeg z.toNatClampNeg) else N
theorem NRep_set {N : NL} {vN bs zs : Nat → Int32} {k a b : Nat} (h : NRep N vN bs zs) (hk : k < N.1) (ha : a < 64) (hb : b ≤ 480) : NRep (N.1, updN N.2.1 k a, updN N.2.2 k b) vN (upd bs k (nI a)) (upd zs k (nI b)) := by
  refine ⟨h.1, h.2.1, fun i hi => ?_⟩
  show upd bs k (nI a) i = nI (updN N.2.1 k a i) ∧ updN N.2.1 k a i < 64 ∧ upd zs k (nI b) i = nI (updN N.2.2 k b i) ∧ updN N.2.2 k b i ≤ 480
  by_cases e : i = k
  · rw [e, pk_us, pk_us, updN_s, updN_s]; exact ⟨rfl, ha, rfl, hb⟩
  · rw [pk_un e, pk_un e, updN_n e, updN_n e]; exact h.2.2 i hi
def unR (U : Nat) : Int32 := if U = 0 then -2 else nI (U - 1)
def ntR (N : NL) (x y : Int32) : Int32 := if pHas (nI N.1) x = true then (if y = 0 then nI (N.2.1 x.toNatClampNeg) else if y = 1 then nI (N.2.2 x.toNatClampNeg) else -1) else -1
def imOk (x : Int32) : Bool := !decide (x < 0) && decide (x < 2)
abbrev rX7_type : Room := { frames := 1, cells := 0, slots := 0, locals := 21 }
set_option maxHeartbeats 4000000 in
set_option maxRecDepth 100000 in
theorem c_X7_type (l : Launch) (G : kG) (h : Nat) (v : Nat → Int32) (q : Nat → Nat) (vT : Nat → Int32) (qT : Nat → Nat) (tx : Nat → Int32) (x : Int32) (len : Nat) (hv1 : vT 1 = nI len) (hlen : len ≤ 140) : Ci l G yX7_type wsX7_type rX7_type [.ref h, .int x] [oB h 7 (oF7 v q), oB (q 0) 5 (oF5 vT qT), aI G (qT 0) 140 tx] (fun r (u : (Nat → Int32) × (Nat → Int32)) => r = tyR len x ∧ u.1 1 = nI (tyN len x) ∧ u.2 = tyX tx len x) (fun u => [oB h 7 (oF7 v q), oB (q 0) 5 (oF5 u.1 qT), aI G (qT 0) 140 u.2]) := by
  refine Ci.of (cc := cX7_type) (maxL := 2) (by decide) rfl (Nat.le_of_ble_eq_true rfl) ?_
  intro pM eM sM mM bM tM cM Q A hx hb hts hown hml hA hK hP hD hS hret ls hl
  have hown : sM.vm.findClass RX7 = some mM.cls := hown
  have hl : lv_has ls 2 [(0, .ref h), (1, .int x)] := hl
  have hin5 : ∀ w ∈ u_ws RX5 TX5 6, w ∈ wsX7_type := by decide +kernel
  have hin7 : ∀ w ∈ u_ws RX7 TX7 9, w ∈ wsX7_type := by decide +kernel
  have f12 := hts (.fieldLink RX7 12 "HorizonPeaks" "text" "LHorizonPeaks$Text;") (by decide +kernel)
  have f64 := hts (.fieldLink RX7 64 "HorizonPeaks$Text" "length" "I") (by decide +kernel)
  refine lv_iload_n hx hb dX7_type_0 rfl (lv_at hl 1 rfl) ?_
  refine lv_if_lt (tgt := 11) hx hb dX7_type_1 (by decide) (fun c_1 => ?_) (fun c_1 => ?_)
  · refine lv_iconst (v := -1) hx hb dX7_type_11 (by decide) ?_
    have hpost : (-1) = tyR len x ∧ (vT, tx).1 1 = nI (tyN len x) ∧ (vT, tx).2 = tyX tx len x := by
      have e : tyOk x = false := by simp [tyOk, c_1]
      refine ⟨?_, ?_, ?_⟩
      · simp [tyR, e]
      · simp [tyN, e]; exact hv1
      · simp [tyX, e]
    exact hret _ (vT, tx) _ _ _ _ (hpost) (rfl) hP hD hS dX7_type_12
  · refine lv_iload_n hx hb dX7_type_4 rfl (lv_at hl 1 rfl) ?_
    refine lv_sipush (v := 255) hx hb dX7_type_5 (by decide) ?_
    refine lv_icmp_le (tgt := 13) hx hb dX7_type_8 (by decide) (fun c_8 => ?_) (fun c_8 => ?_)
    · refine lv_aload_n hx hb dX7_type_13 rfl (lv_at hl 0 rfl) ?_
      refine va_get (D := G.1) (ci := 7) (v := .ref (q 0)) (C := RX7) (T := TX7) (N := 9) hx hb hts hin7 hown hK.1 hP 0 rfl rfl 0 (by decide) f12 (fun _ h9 => h9) rfl dX7_type_14 ?_
      refine va_get (D := G.1) (ci := 5) (v := .int (vT 1)) (C := RX5) (T := TX5) (N := 6) hx hb hts hin5 hown hK.1 hP 1 rfl rfl 1 (by decide) f64 (fun _ h9 => h9) rfl dX7_type_17 ?_
      refine top_i (y := nI len) (hv1) ?_
      refine lv_sipush (v := 140) hx hb dX7_type_20 (by decide) ?_
      refine lv_icmp_lt (tgt := 29) hx hb dX7_type_23 (by decide) (fun c_23 => ?_) (fun c_23 => ?_)
      · have c_23 : len < 140 := (c_lt (a := len) (b := 140) rfl rfl (by omega) (by omega)).mp c_23
        refine lv_aload_n hx hb dX7_type_29 rfl (lv_at hl 0 rfl) ?_
        refine va_get (D := G.1) (ci := 7) (v := .ref (q 0)) (C := RX7) (T := TX7) (N := 9) hx hb hts hin7 hown hK.1 hP 0 rfl rfl 0 (by decide) f12 (fun _ h9 => h9) rfl dX7_type_30 ?_
        refine lv_iload_n hx hb dX7_type_33 rfl (lv_at hl 1 rfl) ?_
        refine ca_v (wr := [oB h 7 (oF7 v q)]) (va_runV (As := [.int x]) (rest := []) ⟨hx, hb, hml, hown, hts⟩ ((c_X5_append l G (q 0) vT qT tx len x (hv1) (by omega)) _) (cwV 1 hts gX7_type_X5_append rfl rfl rfl (by decide +kernel) ⟨Nat.le_of_ble_eq_true rfl, Nat.le_of_ble_eq_true rfl⟩) (cPre_V hK hP hD [1, 2] (by decide) rfl 0 5 rfl rfl) rfl rfl hl.1 rfl (lv_room (Nat.le_of_ble_eq_true rfl)) dX7_type_34 ⟨Nat.zero_le _, Nat.zero_le _⟩) hP hD hS hA [1, 2] [0] rfl rfl (by decide) (by decide) [0, 1, 2] (fun u_34 => [oB h 7 (oF7 v q), oB (q 0) 5 (oF5 (upd vT 1 (nI (len + 1))) qT), aI G (qT 0) 140 (upd tx len x)]) (by decide) (fun _ => rfl) (fun u_34 H locs q_34 hP hD hS => ?_)
        have hP : va_P G.1 vwCl [oB h 7 (oF7 v q), oB (q 0) 5 (oF5 (upd vT 1 (nI (len + 1))) qT), aI G (qT 0) 140 (upd tx len x)] H := hP
        have hD : va_D A [oB h 7 (oF7 v q), oB (q 0) 5 (oF5 (upd vT 1 (nI (len + 1))) qT), aI G (qT 0) 140 (upd tx len x)] := hD
        refine lv_aload_n hx hb dX7_type_37 rfl (lv_at hl 0 rfl) ?_
        refine va_get (D := G.1) (ci := 7) (v := .ref (q 0)) (C := RX7) (T := TX7) (N := 9) hx hb hts hin7 hown hK.1 hP 0 rfl rfl 0 (by decide) f12 (fun _ h9 => h9) rfl dX7_type_38 ?_
        refine va_get (D := G.1) (ci := 5) (v := .int (nI (len + 1))) (C := RX5) (T := TX5) (N := 6) hx hb hts hin5 hown hK.1 hP 1 rfl rfl 1 (by decide) f64 (fun _ h9 => h9) rfl dX7_type_41 ?_
        have hpost : (nI (len + 1)) = tyR len x ∧ (upd vT 1 (nI (len + 1)), upd tx len x).1 1 = nI (tyN len x) ∧ (upd vT 1 (nI (len + 1)), upd tx len x).2 = tyX tx len x := by
          have e : tyOk x = true := by simp [tyOk, c_1, c_8]
          refine ⟨?_, ?_, ?_⟩
          · simp [tyR, e, c_23]
          · simp [tyN, e, c_23]; rfl
          · simp [tyX, e, c_23]
        exact hret _ (upd vT 1 (nI (len + 1)), upd tx len x) _ _ _ _ (hpost) (rfl) hP hD hS dX7_type_44
      · have c_23 : ¬ len < 140 := fun hne => c_23 ((c_lt (a := len) (b := 140) rfl rfl (by omega) (by omega)).mpr hne)
        refine lv_bipush (v := -3) hx hb dX7_type_26 (by decide) ?_
        have hpost : (-3) = tyR len x ∧ (vT, tx).1 1 = nI (tyN len x) ∧ (vT, tx).2 = tyX tx len x := by
          have e : tyOk x = true := by simp [tyOk, c_1, c_8]
          refine ⟨?_, ?_, ?_⟩
          · simp [tyR, e, c_23]
          · simp [tyN, c_23]; exact hv1
          · simp [tyX, c_23]
        exact hret _ (vT, tx) _ _ _ _ (hpost) (rfl) hP hD hS dX7_type_28
    · refine lv_iconst (v := -1) hx hb dX7_type_11 (by decide) ?_
      have hpost : (-1) = tyR len x ∧ (vT, tx).1 1 = nI (tyN len x) ∧ (vT, tx).2 = tyX tx len x := by
        have e : tyOk x = false := by simp [tyOk, c_1, c_8]
        refine ⟨?_, ?_, ?_⟩
        · simp [tyR, e]
        · simp [tyN, e]; exact hv1
        · simp [tyX, e]
      exact hret _ (vT, tx) _ _ _ _ (hpost) (rfl) hP hD hS dX7_type_12

abbrev rX7_clear : Room := { frames := 0, cells := 0, slots := 0, locals := 0 }
set_option maxHeartbeats 4000000 in
set_option maxRecDepth 100000 in
theorem c_X7_clear (l : Launch) (G : kG) (h : Nat) (v : Nat → Int32) (q : Nat → Nat) (vT : Nat → Int32) (qT : Nat → Nat) (len : Nat) (hv1 : vT 1 = nI len) : Ci l G yX7_clear wsX7_clear rX7_clear [.ref h] [oB h 7 (oF7 v q), oB (q 0) 5 (oF5 vT qT)] (fun r (u : (Nat → Int32)) => r = nI len ∧ u 1 = 0) (fun u => [oB h 7 (oF7 v q), oB (q 0) 5 (oF5 u qT)]) := by
  refine Ci.of (cc := cX7_clear) (maxL := 2) (by decide) rfl (Nat.le_of_ble_eq_true rfl) ?_
  intro pM eM sM mM bM tM cM Q A hx hb hts hown hml hA hK hP hD hS hret ls hl
  have hown : sM.vm.findClass RX7 = some mM.cls := hown
  have hl : lv_has ls 2 [(0, .ref h)] := hl
  have hin5 : ∀ w ∈ u_ws RX5 TX5 6, w ∈ wsX7_clear := by decide +kernel
  have hin7 : ∀ w ∈ u_ws RX7 TX7 9, w ∈ wsX7_clear := by decide +kernel
  have f12 := hts (.fieldLink RX7 12 "HorizonPeaks" "text" "LHorizonPeaks$Text;") (by decide +kernel)
  have f64 := hts (.fieldLink RX7 64 "HorizonPeaks$Text" "length" "I") (by decide +kernel)
  refine lv_aload_n hx hb dX7_clear_0 rfl (lv_at hl 0 rfl) ?_
  refine va_get (D := G.1) (ci := 7) (v := .ref (q 0)) (C := RX7) (T := TX7) (N := 9) hx hb hts hin7 hown hK.1 hP 0 rfl rfl 0 (by decide) f12 (fun _ h9 => h9) rfl dX7_clear_1 ?_
  refine va_get (D := G.1) (ci := 5) (v := .int (vT 1)) (C := RX5) (T := TX5) (N := 6) hx hb hts hin5 hown hK.1 hP 1 rfl rfl 1 (by decide) f64 (fun _ h9 => h9) rfl dX7_clear_4 ?_
  refine top_i (y := nI len) (hv1) ?_
  refine lv_istore_n (lv' := [(1, .int (nI len)), (0, .ref h)]) hx hb dX7_clear_7 rfl hl (by decide) rfl (fun ls hl => ?_)
  refine lv_aload_n hx hb dX7_clear_8 rfl (lv_at hl 1 rfl) ?_
  refine va_get (D := G.1) (ci := 7) (v := .ref (q 0)) (C := RX7) (T := TX7) (N := 9) hx hb hts hin7 hown hK.1 hP 0 rfl rfl 0 (by decide) f12 (fun _ h9 => h9) rfl dX7_clear_9 ?_
  refine lv_iconst (v := 0) hx hb dX7_clear_12 (by decide) ?_
  refine va_put (D := G.1) (ci := 5) (v := .int 0) (ty := .int) (C := RX5) (T := TX5) (N := 6) hx hb hts hin5 tyX5 tyX5_ok nmX5 hown hK.1 hP hD hS 1 rfl rfl 1 (by decide) f64 (fun _ h9 => h9) rfl (by decide +kernel) rfl rfl (Nat.le_of_ble_eq_true rfl) dX7_clear_13 (fun H locs hP hD hS => ?_)
  have hP : va_P G.1 vwCl [oB h 7 (oF7 v q), oB (q 0) 5 (oF5 (upd vT 1 0) qT)] H := hP
  have hD : va_D A [oB h 7 (oF7 v q), oB (q 0) 5 (oF5 (upd vT 1 0) qT)] := hD
  refine lv_iload_n hx hb dX7_clear_16 rfl (lv_at hl 0 rfl) ?_
  exact hret _ (upd vT 1 0) _ _ _ _ (⟨rfl, rfl⟩) (rfl) hP hD hS dX7_clear_17

abbrev rX7_peak : Room := { frames := 1, cells := 0, slots := 0, locals := 21 }
set_option maxHeartbeats 4000000 in
set_option maxRecDepth 100000 in
theorem c_X7_peak (l : Launch) (G : kG) (h : Nat) (v : Nat → Int32) (q : Nat → Nat) (vL : Nat → Int32) (qL : Nat → Nat) (xs : Nat → Int32) (ys : Nat → Int32) (hs : Nat → Int32) (x : Int32) (y : Int32) (σ : PS) (fs : Nat → Int32) (ss : Nat → Int32) (pk : Nat → Int32) (hok : okPS σ) (hob : obL σ vL) (har : arL σ xs ys hs fs ss pk) : Ri l G yX7_peak wsX7_peak rX7_peak [.ref h, .int x, .int y] [oB h 7 (oF7 v q), oB (q 1) 1 (oF1 vL qL), aI G (qL 0) 10 xs, aI G (qL 1) 10 ys, aI G (qL 2) 10 hs] (fun r => r = pkR σ x y) := by
  refine Ri.of (cc := cX7_peak) (maxL := 3) (by decide) rfl (Nat.le_of_ble_eq_true rfl) ?_
  intro pM eM sM mM bM tM cM Q hx hb hts hown hml hP hK hret ls hl
  have hown : sM.vm.findClass RX7 = some mM.cls := hown
  have hl : lv_has ls 3 [(0, .ref h), (1, .int x), (2, .int y)] := hl
  have hin1 : ∀ w ∈ u_ws RX1 TX1 11, w ∈ wsX7_peak := by decide +kernel
  have hin7 : ∀ w ∈ u_ws RX7 TX7 9, w ∈ wsX7_peak := by decide +kernel
  have f19 := hts (.fieldLink RX7 19 "HorizonPeaks" "land" "LHorizonPeaks$Land;") (by decide +kernel)
  have f96 := hts (.fieldLink RX7 96 "HorizonPeaks$Land" "xs" "[I") (by decide +kernel)
  have f100 := hts (.fieldLink RX7 100 "HorizonPeaks$Land" "ys" "[I") (by decide +kernel)
  have f103 := hts (.fieldLink RX7 103 "HorizonPeaks$Land" "highs" "[I") (by decide +kernel)
  have hn10 := hok.1
  refine lv_aload_n hx hb dX7_peak_0 rfl (lv_at hl 0 rfl) ?_
  refine va_get (D := G.1) (ci := 7) (v := .ref (q 1)) (C := RX7) (T := TX7) (N := 9) hx hb hts hin7 hown hK.1 hP 0 rfl rfl 1 (by decide) f19 (fun _ h9 => h9) rfl dX7_peak_1 ?_
  refine lv_iload_n hx hb dX7_peak_4 rfl (lv_at hl 1 rfl) ?_
  refine rd_i (va_runV (As := [.int x]) (rest := []) ⟨hx, hb, hml, hown, hts⟩ (c_X1_hasPeak l G (q 1) vL qL x) (cwV 1 hts gX7_peak_X1_hasPeak rfl rfl rfl (by decide +kernel) ⟨Nat.le_of_ble_eq_true rfl, Nat.le_of_ble_eq_true rfl⟩) (rPre_V hK hP [1] rfl 0 1 rfl rfl) rfl rfl hl.1 rfl (lv_room (Nat.le_of_ble_eq_true rfl)) dX7_peak_5 ⟨Nat.zero_le _, Nat.zero_le _⟩) (fun r_5 q_5 => ?_)
  obtain rfl : r_5 = b2i (pHas (vL 3) x) := q_5
  refine lv_if_ne (tgt := 13) hx hb dX7_peak_8 (by decide) (fun c_8 => ?_) (fun c_8 => ?_)
  · have c_8 : (pHas (vL 3) x) = true := b2i_n0.mp c_8
    rw [hob.1] at c_8
    obtain ⟨p, hp, rfl⟩ := pHas_of (by omega) c_8
    refine lv_iload_n hx hb dX7_peak_13 rfl (lv_at hl 2 rfl) ?_
    rcases sw3 y with rfl | rfl | rfl | c_14
    · refine lv_tableIn (off := 26) (tgt := 40) hx hb dX7_peak_14 (by decide) (by decide) rfl (by decide) ?_
      refine lv_aload_n hx hb dX7_peak_40 rfl (lv_at hl 0 rfl) ?_
      refine va_get (D := G.1) (ci := 7) (v := .ref (q 1)) (C := RX7) (T := TX7) (N := 9) hx hb hts hin7 hown hK.1 hP 0 rfl rfl 1 (by decide) f19 (fun _ h9 => h9) rfl dX7_peak_41 ?_
      refine va_get (D := G.1) (ci := 1) (v := .ref (qL 0)) (C := RX1) (T := TX1) (N := 11) hx hb hts hin1 hown hK.1 hP 1 rfl rfl 0 (by decide) f96 (fun _ h9 => h9) rfl dX7_peak_44 ?_
      refine lv_iload_n hx hb dX7_peak_47 rfl (lv_at hl 1 rfl) ?_
      refine al_i hx hb hK.1 hP 2 0 rfl rfl (j := p) (by omega) (Nat.le_of_ble_eq_true rfl) dX7_peak_48 ?_
      refine top_i (y := nI (zx σ p)) ((har.1 p hp).1) ?_
      have hpost : (nI (zx σ p)) = pkR σ (nI p) 0 := by
        rw [pkR, if_pos c_8, nI_clamp (by omega)]
        rfl
      exact hret _ _ _ (hpost) (rfl) dX7_peak_49
    · refine lv_tableIn (off := 36) (tgt := 50) hx hb dX7_peak_14 (by decide) (by decide) rfl (by decide) ?_
      refine lv_aload_n hx hb dX7_peak_50 rfl (lv_at hl 0 rfl) ?_
      refine va_get (D := G.1) (ci := 7) (v := .ref (q 1)) (C := RX7) (T := TX7) (N := 9) hx hb hts hin7 hown hK.1 hP 0 rfl rfl 1 (by decide) f19 (fun _ h9 => h9) rfl dX7_peak_51 ?_
      refine va_get (D := G.1) (ci := 1) (v := .ref (qL 1)) (C := RX1) (T := TX1) (N := 11) hx hb hts hin1 hown hK.1 hP 1 rfl rfl 1 (by decide) f100 (fun _ h9 => h9) rfl dX7_peak_54 ?_
      refine lv_iload_n hx hb dX7_peak_57 rfl (lv_at hl 1 rfl) ?_
      refine al_i hx hb hK.1 hP 3 0 rfl rfl (j := p) (by omega) (Nat.le_of_ble_eq_true rfl) dX7_peak_58 ?_
      refine top_i (y := nI (zy σ p)) ((har.1 p hp).2.1) ?_
      have hpost : (nI (zy σ p)) = pkR σ (nI p) 1 := by
        rw [pkR, if_pos c_8, nI_clamp (by omega)]
        rfl
      exact hret _ _ _ (hpost) (rfl) dX7_peak_59
    · refine lv_tableIn (off := 46) (tgt := 60) hx hb dX7_peak_14 (by decide) (by decide) rfl (by decide) ?_
      refine lv_aload_n hx hb dX7_peak_60 rfl (lv_at hl 0 rfl) ?_
      refine va_get (D := G.1) (ci := 7) (v := .ref (q 1)) (C := RX7) (T := TX7) (N := 9) hx hb hts hin7 hown hK.1 hP 0 rfl rfl 1 (by decide) f19 (fun _ h9 => h9) rfl dX7_peak_61 ?_
      refine va_get (D := G.1) (ci := 1) (v := .ref (qL 2)) (C := RX1) (T := TX1) (N := 11) hx hb hts hin1 hown hK.1 hP 1 rfl rfl 2 (by decide) f103 (fun _ h9 => h9) rfl dX7_peak_64 ?_
      refine lv_iload_n hx hb dX7_peak_67 rfl (lv_at hl 1 rfl) ?_
      refine al_i hx hb hK.1 hP 4 0 rfl rfl (j := p) (by omega) (Nat.le_of_ble_eq_true rfl) dX7_peak_68 ?_
      refine top_i (y := nI (zz σ p)) ((har.1 p hp).2.2) ?_
      have hpost : (nI (zz σ p)) = pkR σ (nI p) 2 := by
        rw [pkR, if_pos c_8, nI_clamp (by omega)]
        rfl
      exact hret _ _ _ (hpost) (rfl) dX7_peak_69
    · refine lv_tableOut (tgt := 70) hx hb dX7_peak_14 c_14 (by decide) ?_
      refine lv_iconst (v := -1) hx hb dX7_peak_70 (by decide) ?_
      have hpost : (-1) = pkR σ (nI p) y := by
        obtain ⟨n0, n1, n2⟩ := sw3_ne c_14
        rw [pkR, if_pos c_8, if_neg n0, if_neg n1, if_neg n2]
      exact hret _ _ _ (hpost) (rfl) dX7_peak_71
  · have c_8 : (pHas (vL 3) x) = false := b2i_0.mp c_8
    rw [hob.1] at c_8
    refine lv_iconst (v := -1) hx hb dX7_peak_11 (by decide) ?_
    have hpost : (-1) = pkR σ x y := by
      rw [pkR, if_neg (ne_t c_8)]
    exact hret _ _ _ (hpost) (rfl) dX7_peak_12

abbrev rX7_ridge : Room := { frames := 0, cells := 0, slots := 0, locals := 0 }
set_option maxHeartbeats 4000000 in
set_option maxRecDepth 100000 in
theorem c_X7_ridge (l : Launch) (G : kG) (h : Nat) (v : Nat → Int32) (q : Nat → Nat) (vL : Nat → Int32) (qL : Nat → Nat) (fs : Nat → Int32) (ss : Nat → Int32) (x : Int32) (y : Int32) (σ : PS) (xs : Nat → Int32) (ys : Nat → Int32) (hs : Nat → Int32) (pk : Nat → Int32) (hok : okPS σ) (hob : obL σ vL) (har : arL σ xs ys hs fs ss pk) : Ri l G yX7_ridge wsX7_ridge rX7_ridge [.ref h, .int x, .int y] [oB h 7 (oF7 v q), oB (q 1) 1 (oF1 vL qL), aI G (qL 4) 8 fs, aI G (qL 5) 8 ss] (fun r => r = rdR σ x y) := by
  refine Ri.of (cc := cX7_ridge) (maxL := 3) (by decide) rfl (Nat.le_of_ble_eq_true rfl) ?_
  intro pM eM sM mM bM tM cM Q hx hb hts hown hml hP hK hret ls hl
  have hown : sM.vm.findClass RX7 = some mM.cls := hown
  have hl : lv_has ls 3 [(0, .ref h), (1, .int x), (2, .int y)] := hl
  have hin1 : ∀ w ∈ u_ws RX1 TX1 11, w ∈ wsX7_ridge := by decide +kernel
  have hin7 : ∀ w ∈ u_ws RX7 TX7 9, w ∈ wsX7_ridge := by decide +kernel
  have f19 := hts (.fieldLink RX7 19 "HorizonPeaks" "land" "LHorizonPeaks$Land;") (by decide +kernel)
  have f106 := hts (.fieldLink RX7 106 "HorizonPeaks$Land" "ridges" "I") (by decide +kernel)
  have f109 := hts (.fieldLink RX7 109 "HorizonPeaks$Land" "firsts" "[I") (by decide +kernel)
  have f112 := hts (.fieldLink RX7 112 "HorizonPeaks$Land" "seconds" "[I") (by decide +kernel)
  have hm8 := hok.2.1
  refine lv_iload_n hx hb dX7_ridge_0 rfl (lv_at hl 1 rfl) ?_
  refine lv_if_lt (tgt := 15) hx hb dX7_ridge_1 (by decide) (fun c_1 => ?_) (fun c_1 => ?_)
  · refine lv_iconst (v := -1) hx hb dX7_ridge_15 (by decide) ?_
    have hpost : (-1) = rdR σ x y := by
      rw [rdR, if_neg (ne_t (pHas_neg c_1))]
    exact hret _ _ _ (hpost) (rfl) dX7_ridge_16
  · refine lv_iload_n hx hb dX7_ridge_4 rfl (lv_at hl 1 rfl) ?_
    refine lv_aload_n hx hb dX7_ridge_5 rfl (lv_at hl 0 rfl) ?_
    refine va_get (D := G.1) (ci := 7) (v := .ref (q 1)) (C := RX7) (T := TX7) (N := 9) hx hb hts hin7 hown hK.1 hP 0 rfl rfl 1 (by decide) f19 (fun _ h9 => h9) rfl dX7_ridge_6 ?_
    refine va_get (D := G.1) (ci := 1) (v := .int (vL 6)) (C := RX1) (T := TX1) (N := 11) hx hb hts hin1 hown hK.1 hP 1 rfl rfl 6 (by decide) f106 (fun _ h9 => h9) rfl dX7_ridge_9 ?_
    refine top_i (y := nI (zm σ)) (hob.2.1) ?_
    refine lv_icmp_lt (tgt := 17) hx hb dX7_ridge_12 (by decide) (fun c_12 => ?_) (fun c_12 => ?_)
    · have hh := pHas_mk c_1 c_12
      obtain ⟨p, hp, rfl⟩ := pHas_of (by omega) hh
      refine lv_iload_n hx hb dX7_ridge_17 rfl (lv_at hl 2 rfl) ?_
      rcases sw2 y with rfl | rfl | c_18
      · refine lv_lookup (off := 26) (tgt := 44) hx hb dX7_ridge_18 (by decide) (by decide) (by decide) ?_
        refine lv_aload_n hx hb dX7_ridge_44 rfl (lv_at hl 0 rfl) ?_
        refine va_get (D := G.1) (ci := 7) (v := .ref (q 1)) (C := RX7) (T := TX7) (N := 9) hx hb hts hin7 hown hK.1 hP 0 rfl rfl 1 (by decide) f19 (fun _ h9 => h9) rfl dX7_ridge_45 ?_
        refine va_get (D := G.1) (ci := 1) (v := .ref (qL 4)) (C := RX1) (T := TX1) (N := 11) hx hb hts hin1 hown hK.1 hP 1 rfl rfl 4 (by decide) f109 (fun _ h9 => h9) rfl dX7_ridge_48 ?_
        refine lv_iload_n hx hb dX7_ridge_51 rfl (lv_at hl 1 rfl) ?_
        refine al_i hx hb hK.1 hP 2 0 rfl rfl (j := p) (by omega) (Nat.le_of_ble_eq_true rfl) dX7_ridge_52 ?_
        refine top_i (y := nI (za σ p)) ((har.2.1 p hp).1) ?_
        have hpost : (nI (za σ p)) = rdR σ (nI p) 0 := by
          rw [rdR, if_pos hh, nI_clamp (by omega)]
          rfl
        exact hret _ _ _ (hpost) (rfl) dX7_ridge_53
      · refine lv_lookup (off := 36) (tgt := 54) hx hb dX7_ridge_18 (by decide) (by decide) (by decide) ?_
        refine lv_aload_n hx hb dX7_ridge_54 rfl (lv_at hl 0 rfl) ?_
        refine va_get (D := G.1) (ci := 7) (v := .ref (q 1)) (C := RX7) (T := TX7) (N := 9) hx hb hts hin7 hown hK.1 hP 0 rfl rfl 1 (by decide) f19 (fun _ h9 => h9) rfl dX7_ridge_55 ?_
        refine va_get (D := G.1) (ci := 1) (v := .ref (qL 5)) (C := RX1) (T := TX1) (N := 11) hx hb hts hin1 hown hK.1 hP 1 rfl rfl 5 (by decide) f112 (fun _ h9 => h9) rfl dX7_ridge_58 ?_
        refine lv_iload_n hx hb dX7_ridge_61 rfl (lv_at hl 1 rfl) ?_
        refine al_i hx hb hK.1 hP 3 0 rfl rfl (j := p) (by omega) (Nat.le_of_ble_eq_true rfl) dX7_ridge_62 ?_
        refine top_i (y := nI (zb σ p)) ((har.2.1 p hp).2) ?_
        have hpost : (nI (zb σ p)) = rdR σ (nI p) 1 := by
          rw [rdR, if_pos hh, nI_clamp (by omega)]
          rfl
        exact hret _ _ _ (hpost) (rfl) dX7_ridge_63
      · refine lv_lookup (off := 46) (tgt := 64) hx hb dX7_ridge_18 (by decide) (sw2_out c_18) (by decide) ?_
        refine lv_iconst (v := -1) hx hb dX7_ridge_64 (by decide) ?_
        have hpost : (-1) = rdR σ (nI p) y := by
          rw [rdR, if_pos hh, if_neg (fun e => c_18 (Or.inl e)), if_neg (fun e => c_18 (Or.inr e))]
        exact hret _ _ _ (hpost) (rfl) dX7_ridge_65
    · refine lv_iconst (v := -1) hx hb dX7_ridge_15 (by decide) ?_
      have hpost : (-1) = rdR σ x y := by
        rw [rdR, if_neg (ne_t (pHas_no c_12))]
      exact hret _ _ _ (hpost) (rfl) dX7_ridge_16

abbrev rX7_count : Room := { frames := 0, cells := 0, slots := 0, locals := 0 }
set_option maxHeartbeats 4000000 in
set_option maxRecDepth 100000 in
theorem c_X7_count (l : Launch) (G : kG) (h : Nat) (v : Nat → Int32) (q : Nat → Nat) (vT : Nat → Int32) (qT : Nat → Nat) (vL : Nat → Int32) (qL : Nat → Nat) (vN : Nat → Int32) (qN : Nat → Nat) (vP : Nat → Int32) (qP : Nat → Nat) (vC : Nat → Int32) (qC : Nat → Nat) (x : Int32) (σ : PS) (len : Nat) (nn : Nat) (cc : Nat) (U : Nat) (hob : obL σ vL) (hv1 : vT 1 = nI len) (hvN : vN 2 = nI nn) (hvC : vC 3 = nI cc) (hvP : vP 2 = nI U) : Ri l G yX7_count wsX7_count rX7_count [.ref h, .int x] [oB h 7 (oF7 v q), oB (q 0) 5 (oF5 vT qT), oB (q 1) 1 (oF1 vL qL), oB (q 3) 3 (oF3 vN qN), oB (q 4) 4 (oF4 vP qP), oB (q 6) 0 (oF0 vC qC)] (fun r => r = coR σ len nn cc U x) := by
  refine Ri.of (cc := cX7_count) (maxL := 2) (by decide) rfl (Nat.le_of_ble_eq_true rfl) ?_
  intro pM eM sM mM bM tM cM Q hx hb hts hown hml hP hK hret ls hl
  have hown : sM.vm.findClass RX7 = some mM.cls := hown
  have hl : lv_has ls 2 [(0, .ref h), (1, .int x)] := hl
  have hin0 : ∀ w ∈ u_ws RX0 TX0 4, w ∈ wsX7_count := by decide +kernel
  have hin1 : ∀ w ∈ u_ws RX1 TX1 11, w ∈ wsX7_count := by decide +kernel
  have hin3 : ∀ w ∈ u_ws RX3 TX3 3, w ∈ wsX7_count := by decide +kernel
  have hin4 : ∀ w ∈ u_ws RX4 TX4 3, w ∈ wsX7_count := by decide +kernel
  have hin5 : ∀ w ∈ u_ws RX5 TX5 6, w ∈ wsX7_count := by decide +kernel
  have hin7 : ∀ w ∈ u_ws RX7 TX7 9, w ∈ wsX7_count := by decide +kernel
  have f19 := hts (.fieldLink RX7 19 "HorizonPeaks" "land" "LHorizonPeaks$Land;") (by decide +kernel)
  have f214 := hts (.fieldLink RX7 214 "HorizonPeaks$Land" "peaks" "I") (by decide +kernel)
  have f106 := hts (.fieldLink RX7 106 "HorizonPeaks$Land" "ridges" "I") (by decide +kernel)
  have f222 := hts (.fieldLink RX7 222 "HorizonPeaks$Land" "slack" "I") (by decide +kernel)
  have f29 := hts (.fieldLink RX7 29 "HorizonPeaks" "notches" "LHorizonPeaks$Notches;") (by decide +kernel)
  have f83 := hts (.fieldLink RX7 83 "HorizonPeaks$Notches" "size" "I") (by decide +kernel)
  have f52 := hts (.fieldLink RX7 52 "HorizonPeaks" "told" "LHorizonPeaks$Clouds;") (by decide +kernel)
  have f87 := hts (.fieldLink RX7 87 "HorizonPeaks$Clouds" "size" "I") (by decide +kernel)
  have f12 := hts (.fieldLink RX7 12 "HorizonPeaks" "text" "LHorizonPeaks$Text;") (by decide +kernel)
  have f64 := hts (.fieldLink RX7 64 "HorizonPeaks$Text" "length" "I") (by decide +kernel)
  have f36 := hts (.fieldLink RX7 36 "HorizonPeaks" "past" "LHorizonPeaks$Past;") (by decide +kernel)
  have f86 := hts (.fieldLink RX7 86 "HorizonPeaks$Past" "size" "I") (by decide +kernel)
  refine lv_iload_n hx hb dX7_count_0 rfl (lv_at hl 1 rfl) ?_
  rcases sw7 x with rfl | rfl | rfl | rfl | rfl | rfl | rfl | c_1
  · refine lv_tableIn (off := 43) (tgt := 44) hx hb dX7_count_1 (by decide) (by decide) rfl (by decide) ?_
    refine lv_aload_n hx hb dX7_count_44 rfl (lv_at hl 0 rfl) ?_
    refine va_get (D := G.1) (ci := 7) (v := .ref (q 1)) (C := RX7) (T := TX7) (N := 9) hx hb hts hin7 hown hK.1 hP 0 rfl rfl 1 (by decide) f19 (fun _ h9 => h9) rfl dX7_count_45 ?_
    refine va_get (D := G.1) (ci := 1) (v := .int (vL 3)) (C := RX1) (T := TX1) (N := 11) hx hb hts hin1 hown hK.1 hP 2 rfl rfl 3 (by decide) f214 (fun _ h9 => h9) rfl dX7_count_48 ?_
    refine top_i (y := nI (zn σ)) (hob.1) ?_
    exact hret _ _ _ (rfl) (rfl) dX7_count_51
  · refine lv_tableIn (off := 51) (tgt := 52) hx hb dX7_count_1 (by decide) (by decide) rfl (by decide) ?_
    refine lv_aload_n hx hb dX7_count_52 rfl (lv_at hl 0 rfl) ?_
    refine va_get (D := G.1) (ci := 7) (v := .ref (q 1)) (C := RX7) (T := TX7) (N := 9) hx hb hts hin7 hown hK.1 hP 0 rfl rfl 1 (by decide) f19 (fun _ h9 => h9) rfl dX7_count_53 ?_
    refine va_get (D := G.1) (ci := 1) (v := .int (vL 6)) (C := RX1) (T := TX1) (N := 11) hx hb hts hin1 hown hK.1 hP 2 rfl rfl 6 (by decide) f106 (fun _ h9 => h9) rfl dX7_count_56 ?_
    refine top_i (y := nI (zm σ)) (hob.2.1) ?_
    exact hret _ _ _ (rfl) (rfl) dX7_count_59
  · refine lv_tableIn (off := 59) (tgt := 60) hx hb dX7_count_1 (by decide) (by decide) rfl (by decide) ?_
    refine lv_aload_n hx hb dX7_count_60 rfl (lv_at hl 0 rfl) ?_
    refine va_get (D := G.1) (ci := 7) (v := .ref (q 1)) (C := RX7) (T := TX7) (N := 9) hx hb hts hin7 hown hK.1 hP 0 rfl rfl 1 (by decide) f19 (fun _ h9 => h9) rfl dX7_count_61 ?_
    refine va_get (D := G.1) (ci := 1) (v := .int (vL 7)) (C := RX1) (T := TX1) (N := 11) hx hb hts hin1 hown hK.1 hP 2 rfl rfl 7 (by decide) f222 (fun _ h9 => h9) rfl dX7_count_64 ?_
    refine top_i (y := nI (zl σ)) (hob.2.2) ?_
    exact hret _ _ _ (rfl) (rfl) dX7_count_67
  · refine lv_tableIn (off := 67) (tgt := 68) hx hb dX7_count_1 (by decide) (by decide) rfl (by decide) ?_
    refine lv_aload_n hx hb dX7_count_68 rfl (lv_at hl 0 rfl) ?_
    refine va_get (D := G.1) (ci := 7) (v := .ref (q 3)) (C := RX7) (T := TX7) (N := 9) hx hb hts hin7 hown hK.1 hP 0 rfl rfl 3 (by decide) f29 (fun _ h9 => h9) rfl dX7_count_69 ?_
    refine va_get (D := G.1) (ci := 3) (v := .int (vN 2)) (C := RX3) (T := TX3) (N := 3) hx hb hts hin3 hown hK.1 hP 3 rfl rfl 2 (by decide) f83 (fun _ h9 => h9) rfl dX7_count_72 ?_
    refine top_i (y := nI nn) (hvN) ?_
    exact hret _ _ _ (rfl) (rfl) dX7_count_75
  · refine lv_tableIn (off := 75) (tgt := 76) hx hb dX7_count_1 (by decide) (by decide) rfl (by decide) ?_
    refine lv_aload_n hx hb dX7_count_76 rfl (lv_at hl 0 rfl) ?_
    refine va_get (D := G.1) (ci := 7) (v := .ref (q 6)) (C := RX7) (T := TX7) (N := 9) hx hb hts hin7 hown hK.1 hP 0 rfl rfl 6 (by decide) f52 (fun _ h9 => h9) rfl dX7_count_77 ?_
    refine va_get (D := G.1) (ci := 0) (v := .int (vC 3)) (C := RX0) (T := TX0) (N := 4) hx hb hts hin0 hown hK.1 hP 5 rfl rfl 3 (by decide) f87 (fun _ h9 => h9) rfl dX7_count_80 ?_
    refine top_i (y := nI cc) (hvC) ?_
    exact hret _ _ _ (rfl) (rfl) dX7_count_83
  · refine lv_tableIn (off := 83) (tgt := 84) hx hb dX7_count_1 (by decide) (by decide) rfl (by decide) ?_
    refine lv_aload_n hx hb dX7_count_84 rfl (lv_at hl 0 rfl) ?_
    refine va_get (D := G.1) (ci := 7) (v := .ref (q 0)) (C := RX7) (T := TX7) (N := 9) hx hb hts hin7 hown hK.1 hP 0 rfl rfl 0 (by decide) f12 (fun _ h9 => h9) rfl dX7_count_85 ?_
    refine va_get (D := G.1) (ci := 5) (v := .int (vT 1)) (C := RX5) (T := TX5) (N := 6) hx hb hts hin5 hown hK.1 hP 1 rfl rfl 1 (by decide) f64 (fun _ h9 => h9) rfl dX7_count_88 ?_
    refine top_i (y := nI len) (hv1) ?_
    exact hret _ _ _ (rfl) (rfl) dX7_count_91
  · refine lv_tableIn (off := 91) (tgt := 92) hx hb dX7_count_1 (by decide) (by decide) rfl (by decide) ?_
    refine lv_aload_n hx hb dX7_count_92 rfl (lv_at hl 0 rfl) ?_
    refine va_get (D := G.1) (ci := 7) (v := .ref (q 4)) (C := RX7) (T := TX7) (N := 9) hx hb hts hin7 hown hK.1 hP 0 rfl rfl 4 (by decide) f36 (fun _ h9 => h9) rfl dX7_count_93 ?_
    refine va_get (D := G.1) (ci := 4) (v := .int (vP 2)) (C := RX4) (T := TX4) (N := 3) hx hb hts hin4 hown hK.1 hP 4 rfl rfl 2 (by decide) f86 (fun _ h9 => h9) rfl dX7_count_96 ?_
    refine top_i (y := nI U) (hvP) ?_
    exact hret _ _ _ (rfl) (rfl) dX7_count_99
  · refine lv_tableOut (tgt := 100) hx hb dX7_count_1 c_1 (by decide) ?_
    refine lv_iconst (v := -1) hx hb dX7_count_100 (by decide) ?_
    have hpost : (-1) = coR σ len nn cc U x := by
      obtain ⟨n0, n1, n2, n3, n4, n5, n6⟩ := sw7_ne c_1
      simp [coR, n0, n1, n2, n3, n4, n5, n6]
    exact hret _ _ _ (hpost) (rfl) dX7_count_101

abbrev rX7_forget : Room := { frames := 0, cells := 0, slots := 0, locals := 0 }
set_option maxHeartbeats 4000000 in
set_option maxRecDepth 100000 in
theorem c_X7_forget (l : Launch) (G : kG) (h : Nat) (v : Nat → Int32) (q : Nat → Nat) (vC : Nat → Int32) (qC : Nat → Nat) (cc : Nat) (hvC : vC 3 = nI cc) : Ci l G yX7_forget wsX7_forget rX7_forget [.ref h] [oB h 7 (oF7 v q), oB (q 6) 0 (oF0 vC qC)] (fun r (u : (Nat → Int32)) => r = nI cc ∧ u 3 = 0) (fun u => [oB h 7 (oF7 v q), oB (q 6) 0 (oF0 u qC)]) := by
  refine Ci.of (cc := cX7_forget) (maxL := 2) (by decide) rfl (Nat.le_of_ble_eq_true rfl) ?_
  intro pM eM sM mM bM tM cM Q A hx hb hts hown hml hA hK hP hD hS hret ls hl
  have hown : sM.vm.findClass RX7 = some mM.cls := hown
  have hl : lv_has ls 2 [(0, .ref h)] := hl
  have hin0 : ∀ w ∈ u_ws RX0 TX0 4, w ∈ wsX7_forget := by decide +kernel
  have hin7 : ∀ w ∈ u_ws RX7 TX7 9, w ∈ wsX7_forget := by decide +kernel
  have f52 := hts (.fieldLink RX7 52 "HorizonPeaks" "told" "LHorizonPeaks$Clouds;") (by decide +kernel)
  have f87 := hts (.fieldLink RX7 87 "HorizonPeaks$Clouds" "size" "I") (by decide +kernel)
  refine lv_aload_n hx hb dX7_forget_0 rfl (lv_at hl 0 rfl) ?_
  refine va_get (D := G.1) (ci := 7) (v := .ref (q 6)) (C := RX7) (T := TX7) (N := 9) hx hb hts hin7 hown hK.1 hP 0 rfl rfl 6 (by decide) f52 (fun _ h9 => h9) rfl dX7_forget_1 ?_
  refine va_get (D := G.1) (ci := 0) (v := .int (vC 3)) (C := RX0) (T := TX0) (N := 4) hx hb hts hin0 hown hK.1 hP 1 rfl rfl 3 (by decide) f87 (fun _ h9 => h9) rfl dX7_forget_4 ?_
  refine top_i (y := nI cc) (hvC) ?_
  refine lv_istore_n (lv' := [(1, .int (nI cc)), (0, .ref h)]) hx hb dX7_forget_7 rfl hl (by decide) rfl (fun ls hl => ?_)
  refine lv_aload_n hx hb dX7_forget_8 rfl (lv_at hl 1 rfl) ?_
  refine va_get (D := G.1) (ci := 7) (v := .ref (q 6)) (C := RX7) (T := TX7) (N := 9) hx hb hts hin7 hown hK.1 hP 0 rfl rfl 6 (by decide) f52 (fun _ h9 => h9) rfl dX7_forget_9 ?_
  refine lv_iconst (v := 0) hx hb dX7_forget_12 (by decide) ?_
  refine va_put (D := G.1) (ci := 0) (v := .int 0) (ty := .int) (C := RX0) (T := TX0) (N := 4) hx hb hts hin0 tyX0 tyX0_ok nmX0 hown hK.1 hP hD hS 1 rfl rfl 3 (by decide) f87 (fun _ h9 => h9) rfl (by decide +kernel) rfl rfl (Nat.le_of_ble_eq_true rfl) dX7_forget_13 (fun H locs hP hD hS => ?_)
  have hP : va_P G.1 vwCl [oB h 7 (oF7 v q), oB (q 6) 0 (oF0 (upd vC 3 0) qC)] H := hP
  have hD : va_D A [oB h 7 (oF7 v q), oB (q 6) 0 (oF0 (upd vC 3 0) qC)] := hD
  refine lv_iload_n hx hb dX7_forget_16 rfl (lv_at hl 0 rfl) ?_
  exact hret _ (upd vC 3 0) _ _ _ _ (⟨rfl, rfl⟩) (rfl) hP hD hS dX7_forget_17

abbrev rX7_beforeDone : Room := { frames := 2, cells := 0, slots := 0, locals := 43 }
set_option maxHeartbeats 4000000 in
set_option maxRecDepth 100000 in
theorem c_X7_beforeDone (l : Launch) (G : kG) (h : Nat) (v : Nat → Int32) (q : Nat → Nat) (vN : Nat → Int32) (qN : Nat → Nat) (bs : Nat → Int32) (zs : Nat → Int32) (vP : Nat → Int32) (qP : Nat → Nat) (rg : Nat → Nat) (vR : Nat → Int32) (qR : Nat → Nat) (bR : Nat → Int32) (zR : Nat → Int32) (vV : Nat → Int32) (qV : Nat → Nat) (NN : NL) (j : Nat) (U : Nat) (hN : NRep NN vN bs zs) (hv1 : vP 1 = nI j) (hj : j < 10) (hv2 : vP 2 = nI U) (hU : U ≤ 10) : Cv l G yX7_beforeDone wsX7_beforeDone rX7_beforeDone [.ref h] [oB h 7 (oF7 v q), oB (q 3) 3 (oF3 vN qN), aI G (qN 0) 8 bs, aI G (qN 1) 8 zs, oB (q 4) 4 (oF4 vP qP), aN G (qP 0) 10 (fun k => some (rg k)), oB (rg j) 3 (oF3 vR qR), aI G (qR 0) 8 bR, aI G (qR 1) 8 zR, oB (q 5) 6 (oF6 vV qV)] (fun (u : (Nat → Int32) × (Nat → Int32)) => NRep NN (upd vR 2 (nI NN.1)) u.1 u.2) (fun u => [oB h 7 (oF7 v q), oB (q 3) 3 (oF3 vN qN), aI G (qN 0) 8 bs, aI G (qN 1) 8 zs, oB (q 4) 4 (oF4 (upd (upd vP 1 (nI ((j + 1) % 10))) 2 (nI (min (U + 1) 10))) qP), aN G (qP 0) 10 (fun k => some (rg k)), oB (rg j) 3 (oF3 (upd vR 2 (nI NN.1)) qR), aI G (qR 0) 8 u.1, aI G (qR 1) 8 u.2, oB (q 5) 6 (oF6 (upd vV 4 0) qV)]) 0 0 := by
  refine Cv.of (cc := cX7_beforeDone) (maxL := 1) (by decide) rfl (Nat.le_of_ble_eq_true rfl) ?_
  intro pM eM sM mM bM tM cM Q A hx hb hts hown hml hnm hA hK hP hD hS hret ls hl
  have hown : sM.vm.findClass RX7 = some mM.cls := hown
  have hl : lv_has ls 1 [(0, .ref h)] := hl
  have hin6 : ∀ w ∈ u_ws RX6 TX6 10, w ∈ wsX7_beforeDone := by decide +kernel
  have hin7 : ∀ w ∈ u_ws RX7 TX7 9, w ∈ wsX7_beforeDone := by decide +kernel
  have f36 := hts (.fieldLink RX7 36 "HorizonPeaks" "past" "LHorizonPeaks$Past;") (by decide +kernel)
  have f29 := hts (.fieldLink RX7 29 "HorizonPeaks" "notches" "LHorizonPeaks$Notches;") (by decide +kernel)
  have f45 := hts (.fieldLink RX7 45 "HorizonPeaks" "views" "LHorizonPeaks$Views;") (by decide +kernel)
  have f88 := hts (.fieldLink RX7 88 "HorizonPeaks$Views" "known" "Z") (by decide +kernel)
  refine lv_aload_n hx hb dX7_beforeDone_0 rfl (lv_at hl 0 rfl) ?_
  refine va_get (D := G.1) (ci := 7) (v := .ref (q 4)) (C := RX7) (T := TX7) (N := 9) hx hb hts hin7 hown hK.1 hP 0 rfl rfl 4 (by decide) f36 (fun _ h9 => h9) rfl dX7_beforeDone_1 ?_
  refine lv_aload_n hx hb dX7_beforeDone_4 rfl (lv_at hl 0 rfl) ?_
  refine va_get (D := G.1) (ci := 7) (v := .ref (q 3)) (C := RX7) (T := TX7) (N := 9) hx hb hts hin7 hown hK.1 hP 0 rfl rfl 3 (by decide) f29 (fun _ h9 => h9) rfl dX7_beforeDone_5 ?_
  refine ca_v (wr := [oB h 7 (oF7 v q), oB (q 5) 6 (oF6 vV qV)]) (va_runV (As := [.ref (q 3)]) (rest := []) ⟨hx, hb, hml, hown, hts⟩ ((c_X4_push l G (q 4) vP qP rg vR qR bR zR (q 3) vN qN bs zs j U NN.1 (hv1) (hj) (hv2) (hU) (hN.1) (hN.2.1)) _) (cwV 1 hts gX7_beforeDone_X4_push rfl rfl rfl (by decide +kernel) ⟨Nat.le_of_ble_eq_true rfl, Nat.le_of_ble_eq_true rfl⟩) (cPre_V hK hP hD [4, 5, 6, 7, 8, 1, 2, 3] (by decide) rfl 0 4 rfl rfl) rfl rfl hl.1 rfl (lv_room (Nat.le_of_ble_eq_true rfl)) dX7_beforeDone_8 ⟨Nat.zero_le _, Nat.zero_le _⟩) hP hD hS hA [4, 5, 6, 7, 8, 1, 2, 3] [0, 9] rfl rfl (by decide) (by decide) [0, 7, 8, 9, 2, 3, 4, 5, 6, 1] (fun u_8 => [oB h 7 (oF7 v q), oB (q 3) 3 (oF3 vN qN), aI G (qN 0) 8 bs, aI G (qN 1) 8 zs, oB (q 4) 4 (oF4 (upd (upd vP 1 (nI ((j + 1) % 10))) 2 (nI (min (U + 1) 10))) qP), aN G (qP 0) 10 (fun k => some (rg k)), oB (rg j) 3 (oF3 (upd vR 2 (nI NN.1)) qR), aI G (qR 0) 8 u_8.1, aI G (qR 1) 8 u_8.2, oB (q 5) 6 (oF6 vV qV)]) (by decide) (fun _ => rfl) (fun u_8 H locs q_8 hP hD hS => ?_)
  have q_8 : ∀ i, i < NN.1 → u_8.1 i = bs i ∧ u_8.2 i = zs i := q_8
  have hP : va_P G.1 vwCl [oB h 7 (oF7 v q), oB (q 3) 3 (oF3 vN qN), aI G (qN 0) 8 bs, aI G (qN 1) 8 zs, oB (q 4) 4 (oF4 (upd (upd vP 1 (nI ((j + 1) % 10))) 2 (nI (min (U + 1) 10))) qP), aN G (qP 0) 10 (fun k => some (rg k)), oB (rg j) 3 (oF3 (upd vR 2 (nI NN.1)) qR), aI G (qR 0) 8 u_8.1, aI G (qR 1) 8 u_8.2, oB (q 5) 6 (oF6 vV qV)] H := hP
  have hD : va_D A [oB h 7 (oF7 v q), oB (q 3) 3 (oF3 vN qN), aI G (qN 0) 8 bs, aI G (qN 1) 8 zs, oB (q 4) 4 (oF4 (upd (upd vP 1 (nI ((j + 1) % 10))) 2 (nI (min (U + 1) 10))) qP), aN G (qP 0) 10 (fun k => some (rg k)), oB (rg j) 3 (oF3 (upd vR 2 (nI NN.1)) qR), aI G (qR 0) 8 u_8.1, aI G (qR 1) 8 u_8.2, oB (q 5) 6 (oF6 vV qV)] := hD
  refine lv_aload_n hx hb dX7_beforeDone_11 rfl (lv_at hl 0 rfl) ?_
  refine va_get (D := G.1) (ci := 7) (v := .ref (q 5)) (C := RX7) (T := TX7) (N := 9) hx hb hts hin7 hown hK.1 hP 0 rfl rfl 5 (by decide) f45 (fun _ h9 => h9) rfl dX7_beforeDone_12 ?_
  refine lv_iconst (v := 0) hx hb dX7_beforeDone_15 (by decide) ?_
  refine va_put (D := G.1) (ci := 6) (v := .int 0) (ty := .boolean) (C := RX6) (T := TX6) (N := 10) hx hb hts hin6 tyX6 tyX6_ok nmX6 hown hK.1 hP hD hS 9 rfl rfl 4 (by decide) f88 (fun _ h9 => h9) rfl (by decide +kernel) rfl rfl (Nat.le_of_ble_eq_true rfl) dX7_beforeDone_16 (fun H locs hP hD hS => ?_)
  have hP : va_P G.1 vwCl [oB h 7 (oF7 v q), oB (q 3) 3 (oF3 vN qN), aI G (qN 0) 8 bs, aI G (qN 1) 8 zs, oB (q 4) 4 (oF4 (upd (upd vP 1 (nI ((j + 1) % 10))) 2 (nI (min (U + 1) 10))) qP), aN G (qP 0) 10 (fun k => some (rg k)), oB (rg j) 3 (oF3 (upd vR 2 (nI NN.1)) qR), aI G (qR 0) 8 u_8.1, aI G (qR 1) 8 u_8.2, oB (q 5) 6 (oF6 (upd vV 4 0) qV)] H := hP
  have hD : va_D A [oB h 7 (oF7 v q), oB (q 3) 3 (oF3 vN qN), aI G (qN 0) 8 bs, aI G (qN 1) 8 zs, oB (q 4) 4 (oF4 (upd (upd vP 1 (nI ((j + 1) % 10))) 2 (nI (min (U + 1) 10))) qP), aN G (qP 0) 10 (fun k => some (rg k)), oB (rg j) 3 (oF3 (upd vR 2 (nI NN.1)) qR), aI G (qR 0) 8 u_8.1, aI G (qR 1) 8 u_8.2, oB (q 5) 6 (oF6 (upd vV 4 0) qV)] := hD
  have hpost : NRep NN (upd vR 2 (nI NN.1)) u_8.1 u_8.2 := by
    exact hN.copy rfl (fun i hi => q_8 i hi)
  exact hret u_8 _ _ _ _ (hpost) hP hD hS dX7_beforeDone_19

abbrev rX7_notes : Room := { frames := 3, cells := 0, slots := 0, locals := 63 }
set_option maxHeartbeats 4000000 in
set_option maxRecDepth 100000 in
theorem c_X7_notes (l : Launch) (G : kG) (h : Nat) (v : Nat → Int32) (q : Nat → Nat) (vN : Nat → Int32) (qN : Nat → Nat) (bs : Nat → Int32) (zs : Nat → Int32) (vP : Nat → Int32) (qP : Nat → Nat) (rg : Nat → Nat) (vR : Nat → Int32) (qR : Nat → Nat) (bR : Nat → Int32) (zR : Nat → Int32) (vV : Nat → Int32) (qV : Nat → Nat) (x : Int32) (y : Int32) (NN : NL) (j : Nat) (U : Nat) (hN : NRep NN vN bs zs) (hv1 : vP 1 = nI j) (hj : j < 10) (hv2 : vP 2 = nI U) (hU : U ≤ 10) : Ci l G yX7_notes wsX7_notes rX7_notes [.ref h, .int x, .int y] [oB h 7 (oF7 v q), oB (q 3) 3 (oF3 vN qN), aI G (qN 0) 8 bs, aI G (qN 1) 8 zs, oB (q 4) 4 (oF4 vP qP), aN G (qP 0) 10 (fun k => some (rg k)), oB (rg j) 3 (oF3 vR qR), aI G (qR 0) 8 bR, aI G (qR 1) 8 zR, oB (q 5) 6 (oF6 vV qV)] (fun r (u : (Nat → Int32) × (Nat → Int32) × (Nat → Int32) × (Nat → Int32) × (Nat → Int32) × (Nat → Int32) × (Nat → Int32) × (Nat → Int32)) => r = noR NN x y ∧ NRep (noN NN x y) u.1 u.2.1 u.2.2.1 ∧ PuQ (noD NN x y) NN j U vP vR bR zR vV u.2.2.2.1 u.2.2.2.2.1 u.2.2.2.2.2.1 u.2.2.2.2.2.2.1 u.2.2.2.2.2.2.2) (fun u => [oB h 7 (oF7 v q), oB (q 3) 3 (oF3 u.1 qN), aI G (qN 0) 8 u.2.1, aI G (qN 1) 8 u.2.2.1, oB (q 4) 4 (oF4 u.2.2.2.1 qP), aN G (qP 0) 10 (fun k => some (rg k)), oB (rg j) 3 (oF3 u.2.2.2.2.1 qR), aI G (qR 0) 8 u.2.2.2.2.2.1, aI G (qR 1) 8 u.2.2.2.2.2.2.1, oB (q 5) 6 (oF6 u.2.2.2.2.2.2.2 qV)]) := by
  refine Ci.of (cc := cX7_notes) (maxL := 3) (by decide) rfl (Nat.le_of_ble_eq_true rfl) ?_
  intro pM eM sM mM bM tM cM Q A hx hb hts hown hml hA hK hP hD hS hret ls hl
  have hown : sM.vm.findClass RX7 = some mM.cls := hown
  have hl : lv_has ls 3 [(0, .ref h), (1, .int x), (2, .int y)] := hl
  have hin3 : ∀ w ∈ u_ws RX3 TX3 3, w ∈ wsX7_notes := by decide +kernel
  have hin7 : ∀ w ∈ u_ws RX7 TX7 9, w ∈ wsX7_notes := by decide +kernel
  have f29 := hts (.fieldLink RX7 29 "HorizonPeaks" "notches" "LHorizonPeaks$Notches;") (by decide +kernel)
  have f83 := hts (.fieldLink RX7 83 "HorizonPeaks$Notches" "size" "I") (by decide +kernel)
  have hn8 := hN.2.1
  refine lv_iload_n hx hb dX7_notes_0 rfl (lv_at hl 1 rfl) ?_
  refine lv_iload_n hx hb dX7_notes_1 rfl (lv_at hl 2 rfl) ?_
  refine rd_i (va_runS (As := [.int x, .int y]) (rest := []) ⟨hx, hb, hml, hown, hts⟩ (c_X7_isMark l G x y) (va_cwS 2 hts gX7_notes_X7_isMark rfl rfl rfl (by decide +kernel) ⟨Nat.le_of_ble_eq_true rfl, Nat.le_of_ble_eq_true rfl⟩) (rPre_S hK hP [] rfl) rfl rfl hl.1 rfl (lv_room (Nat.le_of_ble_eq_true rfl)) dX7_notes_2 ⟨Nat.zero_le _, Nat.zero_le _⟩) (fun r_2 q_2 => ?_)
  obtain rfl : r_2 = b2i (pMark x y) := q_2
  refine lv_if_ne (tgt := 10) hx hb dX7_notes_5 (by decide) (fun c_5 => ?_) (fun c_5 => ?_)
  · have c_5 : (pMark x y) = true := b2i_n0.mp c_5
    refine lv_aload_n hx hb dX7_notes_10 rfl (lv_at hl 0 rfl) ?_
    refine va_get (D := G.1) (ci := 7) (v := .ref (q 3)) (C := RX7) (T := TX7) (N := 9) hx hb hts hin7 hown hK.1 hP 0 rfl rfl 3 (by decide) f29 (fun _ h9 => h9) rfl dX7_notes_11 ?_
    refine va_get (D := G.1) (ci := 3) (v := .int (vN 2)) (C := RX3) (T := TX3) (N := 3) hx hb hts hin3 hown hK.1 hP 1 rfl rfl 2 (by decide) f83 (fun _ h9 => h9) rfl dX7_notes_14 ?_
    refine top_i (y := nI NN.1) (hN.1) ?_
    refine lv_bipush (v := 8) hx hb dX7_notes_17 (by decide) ?_
    refine lv_icmp_lt (tgt := 25) hx hb dX7_notes_19 (by decide) (fun c_19 => ?_) (fun c_19 => ?_)
    · have c_19 : NN.1 < 8 := (c_lt (a := NN.1) (b := 8) rfl rfl (by omega) (by omega)).mp c_19
      obtain ⟨a, b, ha, hb0, rfl, rfl⟩ := pMark_of c_5
      refine lv_aload_n hx hb dX7_notes_25 rfl (lv_at hl 0 rfl) ?_
      refine ca_v (wr := []) (va_runV (As := []) (rest := []) ⟨hx, hb, hml, hown, hts⟩ ((c_X7_beforeDone l G h v q vN qN bs zs vP qP rg vR qR bR zR vV qV NN j U (hN) (hv1) (hj) (hv2) (hU)) _) (cwV 0 hts gX7_notes_X7_beforeDone rfl rfl rfl (by decide +kernel) ⟨Nat.le_of_ble_eq_true rfl, Nat.le_of_ble_eq_true rfl⟩) (cPre_V hK hP hD [0, 1, 2, 3, 4, 5, 6, 7, 8, 9] (by decide) rfl 0 7 rfl rfl) rfl rfl hl.1 rfl (lv_room (Nat.le_of_ble_eq_true rfl)) dX7_notes_26 ⟨Nat.zero_le _, Nat.zero_le _⟩) hP hD hS hA [0, 1, 2, 3, 4, 5, 6, 7, 8, 9] [] rfl rfl (by decide) (by decide) [0, 1, 2, 3, 4, 5, 6, 7, 8, 9] (fun u_26 => [oB h 7 (oF7 v q), oB (q 3) 3 (oF3 vN qN), aI G (qN 0) 8 bs, aI G (qN 1) 8 zs, oB (q 4) 4 (oF4 (upd (upd vP 1 (nI ((j + 1) % 10))) 2 (nI (min (U + 1) 10))) qP), aN G (qP 0) 10 (fun k => some (rg k)), oB (rg j) 3 (oF3 (upd vR 2 (nI NN.1)) qR), aI G (qR 0) 8 u_26.1, aI G (qR 1) 8 u_26.2, oB (q 5) 6 (oF6 (upd vV 4 0) qV)]) (by decide) (fun _ => rfl) (fun u_26 H locs q_26 hP hD hS => ?_)
      have q_26 : NRep NN (upd vR 2 (nI NN.1)) u_26.1 u_26.2 := q_26
      have hP : va_P G.1 vwCl [oB h 7 (oF7 v q), oB (q 3) 3 (oF3 vN qN), aI G (qN 0) 8 bs, aI G (qN 1) 8 zs, oB (q 4) 4 (oF4 (upd (upd vP 1 (nI ((j + 1) % 10))) 2 (nI (min (U + 1) 10))) qP), aN G (qP 0) 10 (fun k => some (rg k)), oB (rg j) 3 (oF3 (upd vR 2 (nI NN.1)) qR), aI G (qR 0) 8 u_26.1, aI G (qR 1) 8 u_26.2, oB (q 5) 6 (oF6 (upd vV 4 0) qV)] H := hP
      have hD : va_D A [oB h 7 (oF7 v q), oB (q 3) 3 (oF3 vN qN), aI G (qN 0) 8 bs, aI G (qN 1) 8 zs, oB (q 4) 4 (oF4 (upd (upd vP 1 (nI ((j + 1) % 10))) 2 (nI (min (U + 1) 10))) qP), aN G (qP 0) 10 (fun k => some (rg k)), oB (rg j) 3 (oF3 (upd vR 2 (nI NN.1)) qR), aI G (qR 0) 8 u_26.1, aI G (qR 1) 8 u_26.2, oB (q 5) 6 (oF6 (upd vV 4 0) qV)] := hD
      refine lv_aload_n hx hb dX7_notes_29 rfl (lv_at hl 0 rfl) ?_
      refine va_get (D := G.1) (ci := 7) (v := .ref (q 3)) (C := RX7) (T := TX7) (N := 9) hx hb hts hin7 hown hK.1 hP 0 rfl rfl 3 (by decide) f29 (fun _ h9 => h9) rfl dX7_notes_30 ?_
      refine lv_iload_n hx hb dX7_notes_33 rfl (lv_at hl 1 rfl) ?_
      refine lv_iload_n hx hb dX7_notes_34 rfl (lv_at hl 2 rfl) ?_
      refine ca_v (wr := [oB h 7 (oF7 v q), oB (q 4) 4 (oF4 (upd (upd vP 1 (nI ((j + 1) % 10))) 2 (nI (min (U + 1) 10))) qP), aN G (qP 0) 10 (fun k => some (rg k)), oB (rg j) 3 (oF3 (upd vR 2 (nI NN.1)) qR), aI G (qR 0) 8 u_26.1, aI G (qR 1) 8 u_26.2, oB (q 5) 6 (oF6 (upd vV 4 0) qV)]) (va_runV (As := [.int (nI a), .int (nI b)]) (rest := []) ⟨hx, hb, hml, hown, hts⟩ ((c_X3_append l G (q 3) vN qN bs zs NN.1 (nI a) (nI b) (hN.1) (c_19)) _) (cwV 2 hts gX7_notes_X3_append rfl rfl rfl (by decide +kernel) ⟨Nat.le_of_ble_eq_true rfl, Nat.le_of_ble_eq_true rfl⟩) (cPre_V hK hP hD [1, 2, 3] (by decide) rfl 0 3 rfl rfl) rfl rfl hl.1 rfl (lv_room (Nat.le_of_ble_eq_true rfl)) dX7_notes_35 ⟨Nat.zero_le _, Nat.zero_le _⟩) hP hD hS hA [1, 2, 3] [0, 4, 5, 6, 7, 8, 9] rfl rfl (by decide) (by decide) [0, 7, 8, 9, 1, 2, 3, 4, 5, 6] (fun u_35 => [oB h 7 (oF7 v q), oB (q 3) 3 (oF3 (upd vN 2 (nI (NN.1 + 1))) qN), aI G (qN 0) 8 (upd bs NN.1 (nI a)), aI G (qN 1) 8 (upd zs NN.1 (nI b)), oB (q 4) 4 (oF4 (upd (upd vP 1 (nI ((j + 1) % 10))) 2 (nI (min (U + 1) 10))) qP), aN G (qP 0) 10 (fun k => some (rg k)), oB (rg j) 3 (oF3 (upd vR 2 (nI NN.1)) qR), aI G (qR 0) 8 u_26.1, aI G (qR 1) 8 u_26.2, oB (q 5) 6 (oF6 (upd vV 4 0) qV)]) (by decide) (fun _ => rfl) (fun u_35 H locs q_35 hP hD hS => ?_)
      have hP : va_P G.1 vwCl [oB h 7 (oF7 v q), oB (q 3) 3 (oF3 (upd vN 2 (nI (NN.1 + 1))) qN), aI G (qN 0) 8 (upd bs NN.1 (nI a)), aI G (qN 1) 8 (upd zs NN.1 (nI b)), oB (q 4) 4 (oF4 (upd (upd vP 1 (nI ((j + 1) % 10))) 2 (nI (min (U + 1) 10))) qP), aN G (qP 0) 10 (fun k => some (rg k)), oB (rg j) 3 (oF3 (upd vR 2 (nI NN.1)) qR), aI G (qR 0) 8 u_26.1, aI G (qR 1) 8 u_26.2, oB (q 5) 6 (oF6 (upd vV 4 0) qV)] H := hP
      have hD : va_D A [oB h 7 (oF7 v q), oB (q 3) 3 (oF3 (upd vN 2 (nI (NN.1 + 1))) qN), aI G (qN 0) 8 (upd bs NN.1 (nI a)), aI G (qN 1) 8 (upd zs NN.1 (nI b)), oB (q 4) 4 (oF4 (upd (upd vP 1 (nI ((j + 1) % 10))) 2 (nI (min (U + 1) 10))) qP), aN G (qP 0) 10 (fun k => some (rg k)), oB (rg j) 3 (oF3 (upd vR 2 (nI NN.1)) qR), aI G (qR 0) 8 u_26.1, aI G (qR 1) 8 u_26.2, oB (q 5) 6 (oF6 (upd vV 4 0) qV)] := hD
      refine lv_aload_n hx hb dX7_notes_38 rfl (lv_at hl 0 rfl) ?_
      refine va_get (D := G.1) (ci := 7) (v := .ref (q 3)) (C := RX7) (T := TX7) (N := 9) hx hb hts hin7 hown hK.1 hP 0 rfl rfl 3 (by decide) f29 (fun _ h9 => h9) rfl dX7_notes_39 ?_
      refine va_get (D := G.1) (ci := 3) (v := .int (nI (NN.1 + 1))) (C := RX3) (T := TX3) (N := 3) hx hb hts hin3 hown hK.1 hP 1 rfl rfl 2 (by decide) f83 (fun _ h9 => h9) rfl dX7_notes_42 ?_
      have hpost : (nI (NN.1 + 1)) = noR NN (nI a) (nI b) ∧ NRep (noN NN (nI a) (nI b)) (upd vN 2 (nI (NN.1 + 1)), upd bs NN.1 (nI a), upd zs NN.1 (nI b), upd (upd vP 1 (nI ((j + 1) % 10))) 2 (nI (min (U + 1) 10)), upd vR 2 (nI NN.1), u_26.1, u_26.2, upd vV 4 0).1 (upd vN 2 (nI (NN.1 + 1)), upd bs NN.1 (nI a), upd zs NN.1 (nI b), upd (upd vP 1 (nI ((j + 1) % 10))) 2 (nI (min (U + 1) 10)), upd vR 2 (nI NN.1), u_26.1, u_26.2, upd vV 4 0).2.1 (upd vN 2 (nI (NN.1 + 1)), upd bs NN.1 (nI a), upd zs NN.1 (nI b), upd (upd vP 1 (nI ((j + 1) % 10))) 2 (nI (min (U + 1) 10)), upd vR 2 (nI NN.1), u_26.1, u_26.2, upd vV 4 0).2.2.1 ∧ PuQ (noD NN (nI a) (nI b)) NN j U vP vR bR zR vV (upd vN 2 (nI (NN.1 + 1)), upd bs NN.1 (nI a), upd zs NN.1 (nI b), upd (upd vP 1 (nI ((j + 1) % 10))) 2 (nI (min (U + 1) 10)), upd vR 2 (nI NN.1), u_26.1, u_26.2, upd vV 4 0).2.2.2.1 (upd vN 2 (nI (NN.1 + 1)), upd bs NN.1 (nI a), upd zs NN.1 (nI b), upd (upd vP 1 (nI ((j + 1) % 10))) 2 (nI (min (U + 1) 10)), upd vR 2 (nI NN.1), u_26.1, u_26.2, upd vV 4 0).2.2.2.2.1 (upd vN 2 (nI (NN.1 + 1)), upd bs NN.1 (nI a), upd zs NN.1 (nI b), upd (upd vP 1 (nI ((j + 1) % 10))) 2 (nI (min (U + 1) 10)), upd vR 2 (nI NN.1), u_26.1, u_26.2, upd vV 4 0).2.2.2.2.2.1 (upd vN 2 (nI (NN.1 + 1)), upd bs NN.1 (nI a), upd zs NN.1 (nI b), upd (upd vP 1 (nI ((j + 1) % 10))) 2 (nI (min (U + 1) 10)), upd vR 2 (nI NN.1), u_26.1, u_26.2, upd vV 4 0).2.2.2.2.2.2.1 (upd vN 2 (nI (NN.1 + 1)), upd bs NN.1 (nI a), upd zs NN.1 (nI b), upd (upd vP 1 (nI ((j + 1) % 10))) 2 (nI (min (U + 1) 10)), upd vR 2 (nI NN.1), u_26.1, u_26.2, upd vV 4 0).2.2.2.2.2.2.2 := by
        have e : noD NN (nI a) (nI b) = true := by simp [noD, c_5, c_19]
        refine ⟨by simp [noR, c_5, c_19], ?_, by rw [e]; exact ⟨fun _ => ⟨rfl, rfl, q_26, rfl⟩, fun h => (by cases h)⟩⟩
        rw [noN, if_pos e, nI_clamp (by omega), nI_clamp (by omega)]
        exact NRep_add hN c_19 ha hb0 rfl
      exact hret _ (upd vN 2 (nI (NN.1 + 1)), upd bs NN.1 (nI a), upd zs NN.1 (nI b), upd (upd vP 1 (nI ((j + 1) % 10))) 2 (nI (min (U + 1) 10)), upd vR 2 (nI NN.1), u_26.1, u_26.2, upd vV 4 0) _ _ _ _ (hpost) (rfl) hP hD hS dX7_notes_45
    · have c_19 : ¬ NN.1 < 8 := fun hne => c_19 ((c_lt (a := NN.1) (b := 8) rfl rfl (by omega) (by omega)).mpr hne)
      refine lv_bipush (v := -3) hx hb dX7_notes_22 (by decide) ?_
      have hpost : (-3) = noR NN x y ∧ NRep (noN NN x y) (vN, bs, zs, vP, vR, bR, zR, vV).1 (vN, bs, zs, vP, vR, bR, zR, vV).2.1 (vN, bs, zs, vP, vR, bR, zR, vV).2.2.1 ∧ PuQ (noD NN x y) NN j U vP vR bR zR vV (vN, bs, zs, vP, vR, bR, zR, vV).2.2.2.1 (vN, bs, zs, vP, vR, bR, zR, vV).2.2.2.2.1 (vN, bs, zs, vP, vR, bR, zR, vV).2.2.2.2.2.1 (vN, bs, zs, vP, vR, bR, zR, vV).2.2.2.2.2.2.1 (vN, bs, zs, vP, vR, bR, zR, vV).2.2.2.2.2.2.2 := by
        have e : noD NN x y = false := by simp [noD, c_19]
        refine ⟨by simp [noR, c_5, c_19], by simp [noN, e]; exact hN, by rw [e]; exact PuQ_no⟩
      exact hret _ (vN, bs, zs, vP, vR, bR, zR, vV) _ _ _ _ (hpost) (rfl) hP hD hS dX7_notes_24
  · have c_5 : (pMark x y) = false := b2i_0.mp c_5
    refine lv_iconst (v := -1) hx hb dX7_notes_8 (by decide) ?_
    have hpost : (-1) = noR NN x y ∧ NRep (noN NN x y) (vN, bs, zs, vP, vR, bR, zR, vV).1 (vN, bs, zs, vP, vR, bR, zR, vV).2.1 (vN, bs, zs, vP, vR, bR, zR, vV).2.2.1 ∧ PuQ (noD NN x y) NN j U vP vR bR zR vV (vN, bs, zs, vP, vR, bR, zR, vV).2.2.2.1 (vN, bs, zs, vP, vR, bR, zR, vV).2.2.2.2.1 (vN, bs, zs, vP, vR, bR, zR, vV).2.2.2.2.2.1 (vN, bs, zs, vP, vR, bR, zR, vV).2.2.2.2.2.2.1 (vN, bs, zs, vP, vR, bR, zR, vV).2.2.2.2.2.2.2 := by
      have e : noD NN x y = false := by simp [noD, c_5]
      refine ⟨by simp [noR, c_5], by simp [noN, e]; exact hN, by rw [e]; exact PuQ_no⟩
    exact hret _ (vN, bs, zs, vP, vR, bR, zR, vV) _ _ _ _ (hpost) (rfl) hP hD hS dX7_notes_9

abbrev rX7_erases : Room := { frames := 3, cells := 0, slots := 0, locals := 63 }
set_option maxHeartbeats 4000000 in
set_option maxRecDepth 100000 in
theorem c_X7_erases (l : Launch) (G : kG) (h : Nat) (v : Nat → Int32) (q : Nat → Nat) (vN : Nat → Int32) (qN : Nat → Nat) (bs : Nat → Int32) (zs : Nat → Int32) (vP : Nat → Int32) (qP : Nat → Nat) (rg : Nat → Nat) (vR : Nat → Int32) (qR : Nat → Nat) (bR : Nat → Int32) (zR : Nat → Int32) (vV : Nat → Int32) (qV : Nat → Nat) (x : Int32) (NN : NL) (j : Nat) (U : Nat) (hN : NRep NN vN bs zs) (hv1 : vP 1 = nI j) (hj : j < 10) (hv2 : vP 2 = nI U) (hU : U ≤ 10) : Ci l G yX7_erases wsX7_erases rX7_erases [.ref h, .int x] [oB h 7 (oF7 v q), oB (q 3) 3 (oF3 vN qN), aI G (qN 0) 8 bs, aI G (qN 1) 8 zs, oB (q 4) 4 (oF4 vP qP), aN G (qP 0) 10 (fun k => some (rg k)), oB (rg j) 3 (oF3 vR qR), aI G (qR 0) 8 bR, aI G (qR 1) 8 zR, oB (q 5) 6 (oF6 vV qV)] (fun r (u : (Nat → Int32) × (Nat → Int32) × (Nat → Int32) × (Nat → Int32) × (Nat → Int32) × (Nat → Int32) × (Nat → Int32) × (Nat → Int32)) => r = erR NN x ∧ NRep (erN NN x) u.1 u.2.1 u.2.2.1 ∧ PuQ (pHas (nI NN.1) x) NN j U vP vR bR zR vV u.2.2.2.1 u.2.2.2.2.1 u.2.2.2.2.2.1 u.2.2.2.2.2.2.1 u.2.2.2.2.2.2.2) (fun u => [oB h 7 (oF7 v q), oB (q 3) 3 (oF3 u.1 qN), aI G (qN 0) 8 u.2.1, aI G (qN 1) 8 u.2.2.1, oB (q 4) 4 (oF4 u.2.2.2.1 qP), aN G (qP 0) 10 (fun k => some (rg k)), oB (rg j) 3 (oF3 u.2.2.2.2.1 qR), aI G (qR 0) 8 u.2.2.2.2.2.1, aI G (qR 1) 8 u.2.2.2.2.2.2.1, oB (q 5) 6 (oF6 u.2.2.2.2.2.2.2 qV)]) := by
  refine Ci.of (cc := cX7_erases) (maxL := 2) (by decide) rfl (Nat.le_of_ble_eq_true rfl) ?_
  intro pM eM sM mM bM tM cM Q A hx hb hts hown hml hA hK hP hD hS hret ls hl
  have hown : sM.vm.findClass RX7 = some mM.cls := hown
  have hl : lv_has ls 2 [(0, .ref h), (1, .int x)] := hl
  have hin3 : ∀ w ∈ u_ws RX3 TX3 3, w ∈ wsX7_erases := by decide +kernel
  have hin7 : ∀ w ∈ u_ws RX7 TX7 9, w ∈ wsX7_erases := by decide +kernel
  have f29 := hts (.fieldLink RX7 29 "HorizonPeaks" "notches" "LHorizonPeaks$Notches;") (by decide +kernel)
  have f83 := hts (.fieldLink RX7 83 "HorizonPeaks$Notches" "size" "I") (by decide +kernel)
  have hn8 := hN.2.1
  refine lv_aload_n hx hb dX7_erases_0 rfl (lv_at hl 0 rfl) ?_
  refine va_get (D := G.1) (ci := 7) (v := .ref (q 3)) (C := RX7) (T := TX7) (N := 9) hx hb hts hin7 hown hK.1 hP 0 rfl rfl 3 (by decide) f29 (fun _ h9 => h9) rfl dX7_erases_1 ?_
  refine lv_iload_n hx hb dX7_erases_4 rfl (lv_at hl 1 rfl) ?_
  refine rd_i (va_runV (As := [.int x]) (rest := []) ⟨hx, hb, hml, hown, hts⟩ (c_X3_has l G (q 3) vN qN x) (cwV 1 hts gX7_erases_X3_has rfl rfl rfl (by decide +kernel) ⟨Nat.le_of_ble_eq_true rfl, Nat.le_of_ble_eq_true rfl⟩) (rPre_V hK hP [1] rfl 0 3 rfl rfl) rfl rfl hl.1 rfl (lv_room (Nat.le_of_ble_eq_true rfl)) dX7_erases_5 ⟨Nat.zero_le _, Nat.zero_le _⟩) (fun r_5 q_5 => ?_)
  obtain rfl : r_5 = b2i (pHas (vN 2) x) := q_5
  refine lv_if_ne (tgt := 13) hx hb dX7_erases_8 (by decide) (fun c_8 => ?_) (fun c_8 => ?_)
  · have c_8 : (pHas (vN 2) x) = true := b2i_n0.mp c_8
    rw [hN.1] at c_8
    obtain ⟨p, hp0, rfl⟩ := pHas_of (by omega) c_8
    refine lv_aload_n hx hb dX7_erases_13 rfl (lv_at hl 0 rfl) ?_
    refine ca_v (wr := []) (va_runV (As := []) (rest := []) ⟨hx, hb, hml, hown, hts⟩ ((c_X7_beforeDone l G h v q vN qN bs zs vP qP rg vR qR bR zR vV qV NN j U (hN) (hv1) (hj) (hv2) (hU)) _) (cwV 0 hts gX7_erases_X7_beforeDone rfl rfl rfl (by decide +kernel) ⟨Nat.le_of_ble_eq_true rfl, Nat.le_of_ble_eq_true rfl⟩) (cPre_V hK hP hD [0, 1, 2, 3, 4, 5, 6, 7, 8, 9] (by decide) rfl 0 7 rfl rfl) rfl rfl hl.1 rfl (lv_room (Nat.le_of_ble_eq_true rfl)) dX7_erases_14 ⟨Nat.zero_le _, Nat.zero_le _⟩) hP hD hS hA [0, 1, 2, 3, 4, 5, 6, 7, 8, 9] [] rfl rfl (by decide) (by decide) [0, 1, 2, 3, 4, 5, 6, 7, 8, 9] (fun u_14 => [oB h 7 (oF7 v q), oB (q 3) 3 (oF3 vN qN), aI G (qN 0) 8 bs, aI G (qN 1) 8 zs, oB (q 4) 4 (oF4 (upd (upd vP 1 (nI ((j + 1) % 10))) 2 (nI (min (U + 1) 10))) qP), aN G (qP 0) 10 (fun k => some (rg k)), oB (rg j) 3 (oF3 (upd vR 2 (nI NN.1)) qR), aI G (qR 0) 8 u_14.1, aI G (qR 1) 8 u_14.2, oB (q 5) 6 (oF6 (upd vV 4 0) qV)]) (by decide) (fun _ => rfl) (fun u_14 H locs q_14 hP hD hS => ?_)
    have q_14 : NRep NN (upd vR 2 (nI NN.1)) u_14.1 u_14.2 := q_14
    have hP : va_P G.1 vwCl [oB h 7 (oF7 v q), oB (q 3) 3 (oF3 vN qN), aI G (qN 0) 8 bs, aI G (qN 1) 8 zs, oB (q 4) 4 (oF4 (upd (upd vP 1 (nI ((j + 1) % 10))) 2 (nI (min (U + 1) 10))) qP), aN G (qP 0) 10 (fun k => some (rg k)), oB (rg j) 3 (oF3 (upd vR 2 (nI NN.1)) qR), aI G (qR 0) 8 u_14.1, aI G (qR 1) 8 u_14.2, oB (q 5) 6 (oF6 (upd vV 4 0) qV)] H := hP
    have hD : va_D A [oB h 7 (oF7 v q), oB (q 3) 3 (oF3 vN qN), aI G (qN 0) 8 bs, aI G (qN 1) 8 zs, oB (q 4) 4 (oF4 (upd (upd vP 1 (nI ((j + 1) % 10))) 2 (nI (min (U + 1) 10))) qP), aN G (qP 0) 10 (fun k => some (rg k)), oB (rg j) 3 (oF3 (upd vR 2 (nI NN.1)) qR), aI G (qR 0) 8 u_14.1, aI G (qR 1) 8 u_14.2, oB (q 5) 6 (oF6 (upd vV 4 0) qV)] := hD
    refine lv_aload_n hx hb dX7_erases_17 rfl (lv_at hl 0 rfl) ?_
    refine va_get (D := G.1) (ci := 7) (v := .ref (q 3)) (C := RX7) (T := TX7) (N := 9) hx hb hts hin7 hown hK.1 hP 0 rfl rfl 3 (by decide) f29 (fun _ h9 => h9) rfl dX7_erases_18 ?_
    refine lv_iload_n hx hb dX7_erases_21 rfl (lv_at hl 1 rfl) ?_
    refine ca_v (wr := [oB h 7 (oF7 v q), oB (q 4) 4 (oF4 (upd (upd vP 1 (nI ((j + 1) % 10))) 2 (nI (min (U + 1) 10))) qP), aN G (qP 0) 10 (fun k => some (rg k)), oB (rg j) 3 (oF3 (upd vR 2 (nI NN.1)) qR), aI G (qR 0) 8 u_14.1, aI G (qR 1) 8 u_14.2, oB (q 5) 6 (oF6 (upd vV 4 0) qV)]) (va_runV (As := [.int (nI p)]) (rest := []) ⟨hx, hb, hml, hown, hts⟩ ((c_X3_remove l G (q 3) vN qN bs zs NN.1 p (hN.1) (hn8) (hp0)) _) (cwV 1 hts gX7_erases_X3_remove rfl rfl rfl (by decide +kernel) ⟨Nat.le_of_ble_eq_true rfl, Nat.le_of_ble_eq_true rfl⟩) (cPre_V hK hP hD [1, 2, 3] (by decide) rfl 0 3 rfl rfl) rfl rfl hl.1 rfl (lv_room (Nat.le_of_ble_eq_true rfl)) dX7_erases_22 ⟨Nat.zero_le _, Nat.zero_le _⟩) hP hD hS hA [1, 2, 3] [0, 4, 5, 6, 7, 8, 9] rfl rfl (by decide) (by decide) [0, 7, 8, 9, 1, 2, 3, 4, 5, 6] (fun u_22 => [oB h 7 (oF7 v q), oB (q 3) 3 (oF3 (upd vN 2 (nI (NN.1 - 1))) qN), aI G (qN 0) 8 u_22.1, aI G (qN 1) 8 u_22.2, oB (q 4) 4 (oF4 (upd (upd vP 1 (nI ((j + 1) % 10))) 2 (nI (min (U + 1) 10))) qP), aN G (qP 0) 10 (fun k => some (rg k)), oB (rg j) 3 (oF3 (upd vR 2 (nI NN.1)) qR), aI G (qR 0) 8 u_14.1, aI G (qR 1) 8 u_14.2, oB (q 5) 6 (oF6 (upd vV 4 0) qV)]) (by decide) (fun _ => rfl) (fun u_22 H locs q_22 hP hD hS => ?_)
    have q_22 : ∀ i, i < NN.1 - 1 → u_22.1 i = shf bs p i ∧ u_22.2 i = shf zs p i := q_22
    have hP : va_P G.1 vwCl [oB h 7 (oF7 v q), oB (q 3) 3 (oF3 (upd vN 2 (nI (NN.1 - 1))) qN), aI G (qN 0) 8 u_22.1, aI G (qN 1) 8 u_22.2, oB (q 4) 4 (oF4 (upd (upd vP 1 (nI ((j + 1) % 10))) 2 (nI (min (U + 1) 10))) qP), aN G (qP 0) 10 (fun k => some (rg k)), oB (rg j) 3 (oF3 (upd vR 2 (nI NN.1)) qR), aI G (qR 0) 8 u_14.1, aI G (qR 1) 8 u_14.2, oB (q 5) 6 (oF6 (upd vV 4 0) qV)] H := hP
    have hD : va_D A [oB h 7 (oF7 v q), oB (q 3) 3 (oF3 (upd vN 2 (nI (NN.1 - 1))) qN), aI G (qN 0) 8 u_22.1, aI G (qN 1) 8 u_22.2, oB (q 4) 4 (oF4 (upd (upd vP 1 (nI ((j + 1) % 10))) 2 (nI (min (U + 1) 10))) qP), aN G (qP 0) 10 (fun k => some (rg k)), oB (rg j) 3 (oF3 (upd vR 2 (nI NN.1)) qR), aI G (qR 0) 8 u_14.1, aI G (qR 1) 8 u_14.2, oB (q 5) 6 (oF6 (upd vV 4 0) qV)] := hD
    refine lv_aload_n hx hb dX7_erases_25 rfl (lv_at hl 0 rfl) ?_
    refine va_get (D := G.1) (ci := 7) (v := .ref (q 3)) (C := RX7) (T := TX7) (N := 9) hx hb hts hin7 hown hK.1 hP 0 rfl rfl 3 (by decide) f29 (fun _ h9 => h9) rfl dX7_erases_26 ?_
    refine va_get (D := G.1) (ci := 3) (v := .int (nI (NN.1 - 1))) (C := RX3) (T := TX3) (N := 3) hx hb hts hin3 hown hK.1 hP 1 rfl rfl 2 (by decide) f83 (fun _ h9 => h9) rfl dX7_erases_29 ?_
    have hpost : (nI (NN.1 - 1)) = erR NN (nI p) ∧ NRep (erN NN (nI p)) (upd vN 2 (nI (NN.1 - 1)), u_22.1, u_22.2, upd (upd vP 1 (nI ((j + 1) % 10))) 2 (nI (min (U + 1) 10)), upd vR 2 (nI NN.1), u_14.1, u_14.2, upd vV 4 0).1 (upd vN 2 (nI (NN.1 - 1)), u_22.1, u_22.2, upd (upd vP 1 (nI ((j + 1) % 10))) 2 (nI (min (U + 1) 10)), upd vR 2 (nI NN.1), u_14.1, u_14.2, upd vV 4 0).2.1 (upd vN 2 (nI (NN.1 - 1)), u_22.1, u_22.2, upd (upd vP 1 (nI ((j + 1) % 10))) 2 (nI (min (U + 1) 10)), upd vR 2 (nI NN.1), u_14.1, u_14.2, upd vV 4 0).2.2.1 ∧ PuQ (pHas (nI NN.1) (nI p)) NN j U vP vR bR zR vV (upd vN 2 (nI (NN.1 - 1)), u_22.1, u_22.2, upd (upd vP 1 (nI ((j + 1) % 10))) 2 (nI (min (U + 1) 10)), upd vR 2 (nI NN.1), u_14.1, u_14.2, upd vV 4 0).2.2.2.1 (upd vN 2 (nI (NN.1 - 1)), u_22.1, u_22.2, upd (upd vP 1 (nI ((j + 1) % 10))) 2 (nI (min (U + 1) 10)), upd vR 2 (nI NN.1), u_14.1, u_14.2, upd vV 4 0).2.2.2.2.1 (upd vN 2 (nI (NN.1 - 1)), u_22.1, u_22.2, upd (upd vP 1 (nI ((j + 1) % 10))) 2 (nI (min (U + 1) 10)), upd vR 2 (nI NN.1), u_14.1, u_14.2, upd vV 4 0).2.2.2.2.2.1 (upd vN 2 (nI (NN.1 - 1)), u_22.1, u_22.2, upd (upd vP 1 (nI ((j + 1) % 10))) 2 (nI (min (U + 1) 10)), upd vR 2 (nI NN.1), u_14.1, u_14.2, upd vV 4 0).2.2.2.2.2.2.1 (upd vN 2 (nI (NN.1 - 1)), u_22.1, u_22.2, upd (upd vP 1 (nI ((j + 1) % 10))) 2 (nI (min (U + 1) 10)), upd vR 2 (nI NN.1), u_14.1, u_14.2, upd vV 4 0).2.2.2.2.2.2.2 := by
      refine ⟨by rw [erR, if_pos c_8], ?_, by rw [c_8]; exact ⟨fun _ => ⟨rfl, rfl, q_14, rfl⟩, fun h => (by cases h)⟩⟩
      rw [erN, if_pos c_8, nI_clamp (by omega)]
      exact NRep_rm hN hp0 rfl q_22
    exact hret _ (upd vN 2 (nI (NN.1 - 1)), u_22.1, u_22.2, upd (upd vP 1 (nI ((j + 1) % 10))) 2 (nI (min (U + 1) 10)), upd vR 2 (nI NN.1), u_14.1, u_14.2, upd vV 4 0) _ _ _ _ (hpost) (rfl) hP hD hS dX7_erases_32
  · have c_8 : (pHas (vN 2) x) = false := b2i_0.mp c_8
    rw [hN.1] at c_8
    refine lv_iconst (v := -1) hx hb dX7_erases_11 (by decide) ?_
    have hpost : (-1) = erR NN x ∧ NRep (erN NN x) (vN, bs, zs, vP, vR, bR, zR, vV).1 (vN, bs, zs, vP, vR, bR, zR, vV).2.1 (vN, bs, zs, vP, vR, bR, zR, vV).2.2.1 ∧ PuQ (pHas (nI NN.1) x) NN j U vP vR bR zR vV (vN, bs, zs, vP, vR, bR, zR, vV).2.2.2.1 (vN, bs, zs, vP, vR, bR, zR, vV).2.2.2.2.1 (vN, bs, zs, vP, vR, bR, zR, vV).2.2.2.2.2.1 (vN, bs, zs, vP, vR, bR, zR, vV).2.2.2.2.2.2.1 (vN, bs, zs, vP, vR, bR, zR, vV).2.2.2.2.2.2.2 := by
      refine ⟨by rw [erR, if_neg (ne_t c_8)], by rw [erN, if_neg (ne_t c_8)]; exact hN, by rw [c_8]; exact PuQ_no⟩
    exact hret _ (vN, bs, zs, vP, vR, bR, zR, vV) _ _ _ _ (hpost) (rfl) hP hD hS dX7_erases_12

abbrev rX7_mends : Room := { frames := 3, cells := 0, slots := 0, locals := 63 }
set_option maxHeartbeats 4000000 in
set_option maxRecDepth 100000 in
theorem c_X7_mends (l : Launch) (G : kG) (h : Nat) (v : Nat → Int32) (q : Nat → Nat) (vN : Nat → Int32) (qN : Nat → Nat) (bs : Nat → Int32) (zs : Nat → Int32) (vP : Nat → Int32) (qP : Nat → Nat) (rg : Nat → Nat) (vR : Nat → Int32) (qR : Nat → Nat) (bR : Nat → Int32) (zR : Nat → Int32) (vV : Nat → Int32) (qV : Nat → Nat) (x : Int32) (y : Int32) (z : Int32) (NN : NL) (j : Nat) (U : Nat) (hN : NRep NN vN bs zs) (hv1 : vP 1 = nI j) (hj : j < 10) (hv2 : vP 2 = nI U) (hU : U ≤ 10) : Ci l G yX7_mends wsX7_mends rX7_mends [.ref h, .int x, .int y, .int z] [oB h 7 (oF7 v q), oB (q 3) 3 (oF3 vN qN), aI G (qN 0) 8 bs, aI G (qN 1) 8 zs, oB (q 4) 4 (oF4 vP qP), aN G (qP 0) 10 (fun k => some (rg k)), oB (rg j) 3 (oF3 vR qR), aI G (qR 0) 8 bR, aI G (qR 1) 8 zR, oB (q 5) 6 (oF6 vV qV)] (fun r (u : (Nat → Int32) × (Nat → Int32) × (Nat → Int32) × (Nat → Int32) × (Nat → Int32) × (Nat → Int32) × (Nat → Int32) × (Nat → Int32)) => r = meR NN x y z ∧ NRep (meN NN x y z) u.1 u.2.1 u.2.2.1 ∧ PuQ (meD NN x y z) NN j U vP vR bR zR vV u.2.2.2.1 u.2.2.2.2.1 u.2.2.2.2.2.1 u.2.2.2.2.2.2.1 u.2.2.2.2.2.2.2) (fun u => [oB h 7 (oF7 v q), oB (q 3) 3 (oF3 u.1 qN), aI G (qN 0) 8 u.2.1, aI G (qN 1) 8 u.2.2.1, oB (q 4) 4 (oF4 u.2.2.2.1 qP), aN G (qP 0) 10 (fun k => some (rg k)), oB (rg j) 3 (oF3 u.2.2.2.2.1 qR), aI G (qR 0) 8 u.2.2.2.2.2.1, aI G (qR 1) 8 u.2.2.2.2.2.2.1, oB (q 5) 6 (oF6 u.2.2.2.2.2.2.2 qV)]) := by
  refine Ci.of (cc := cX7_mends) (maxL := 4) (by decide) rfl (Nat.le_of_ble_eq_true rfl) ?_
  intro pM eM sM mM bM tM cM Q A hx hb hts hown hml hA hK hP hD hS hret ls hl
  have hown : sM.vm.findClass RX7 = some mM.cls := hown
  have hl : lv_has ls 4 [(0, .ref h), (1, .int x), (2, .int y), (3, .int z)] := hl
  have hin3 : ∀ w ∈ u_ws RX3 TX3 3, w ∈ wsX7_mends := by decide +kernel
  have hin7 : ∀ w ∈ u_ws RX7 TX7 9, w ∈ wsX7_mends := by decide +kernel
  have f29 := hts (.fieldLink RX7 29 "HorizonPeaks" "notches" "LHorizonPeaks$Notches;") (by decide +kernel)
  have f131 := hts (.fieldLink RX7 131 "HorizonPeaks$Notches" "bearings" "[I") (by decide +kernel)
  have f134 := hts (.fieldLink RX7 134 "HorizonPeaks$Notches" "heights" "[I") (by decide +kernel)
  have hn8 := hN.2.1
  refine lv_aload_n hx hb dX7_mends_0 rfl (lv_at hl 0 rfl) ?_
  refine va_get (D := G.1) (ci := 7) (v := .ref (q 3)) (C := RX7) (T := TX7) (N := 9) hx hb hts hin7 hown hK.1 hP 0 rfl rfl 3 (by decide) f29 (fun _ h9 => h9) rfl dX7_mends_1 ?_
  refine lv_iload_n hx hb dX7_mends_4 rfl (lv_at hl 1 rfl) ?_
  refine rd_i (va_runV (As := [.int x]) (rest := []) ⟨hx, hb, hml, hown, hts⟩ (c_X3_has l G (q 3) vN qN x) (cwV 1 hts gX7_mends_X3_has rfl rfl rfl (by decide +kernel) ⟨Nat.le_of_ble_eq_true rfl, Nat.le_of_ble_eq_true rfl⟩) (rPre_V hK hP [1] rfl 0 3 rfl rfl) rfl rfl hl.1 rfl (lv_room (Nat.le_of_ble_eq_true rfl)) dX7_mends_5 ⟨Nat.zero_le _, Nat.zero_le _⟩) (fun r_5 q_5 => ?_)
  obtain rfl : r_5 = b2i (pHas (vN 2) x) := q_5
  refine lv_if_eq (tgt := 19) hx hb dX7_mends_8 (by decide) (fun c_8 => ?_) (fun c_8 => ?_)
  · have c_8 : (pHas (vN 2) x) = false := b2i_0.mp c_8
    rw [hN.1] at c_8
    refine lv_iconst (v := -1) hx hb dX7_mends_19 (by decide) ?_
    have hpost : (-1) = meR NN x y z ∧ NRep (meN NN x y z) (vN, bs, zs, vP, vR, bR, zR, vV).1 (vN, bs, zs, vP, vR, bR, zR, vV).2.1 (vN, bs, zs, vP, vR, bR, zR, vV).2.2.1 ∧ PuQ (meD NN x y z) NN j U vP vR bR zR vV (vN, bs, zs, vP, vR, bR, zR, vV).2.2.2.1 (vN, bs, zs, vP, vR, bR, zR, vV).2.2.2.2.1 (vN, bs, zs, vP, vR, bR, zR, vV).2.2.2.2.2.1 (vN, bs, zs, vP, vR, bR, zR, vV).2.2.2.2.2.2.1 (vN, bs, zs, vP, vR, bR, zR, vV).2.2.2.2.2.2.2 := by
      have e : meO NN x y z = false := by simp [meO, c_8]
      have e2 : meD NN x y z = false := by simp [meD, e]
      refine ⟨by simp [meR, e], by simp [meN, e2]; exact hN, by rw [e2]; exact PuQ_no⟩
    exact hret _ (vN, bs, zs, vP, vR, bR, zR, vV) _ _ _ _ (hpost) (rfl) hP hD hS dX7_mends_20
  · have c_8 : (pHas (vN 2) x) = true := b2i_n0.mp c_8
    rw [hN.1] at c_8
    obtain ⟨p, hp0, rfl⟩ := pHas_of (by omega) c_8
    have hNp := hN.2.2 p hp0
    refine lv_iload_n hx hb dX7_mends_11 rfl (lv_at hl 2 rfl) ?_
    refine lv_iload_n hx hb dX7_mends_12 rfl (lv_at hl 3 rfl) ?_
    refine rd_i (va_runS (As := [.int y, .int z]) (rest := []) ⟨hx, hb, hml, hown, hts⟩ (c_X7_isMark l G y z) (va_cwS 2 hts gX7_mends_X7_isMark rfl rfl rfl (by decide +kernel) ⟨Nat.le_of_ble_eq_true rfl, Nat.le_of_ble_eq_true rfl⟩) (rPre_S hK hP [] rfl) rfl rfl hl.1 rfl (lv_room (Nat.le_of_ble_eq_true rfl)) dX7_mends_13 ⟨Nat.zero_le _, Nat.zero_le _⟩) (fun r_13 q_13 => ?_)
    obtain rfl : r_13 = b2i (pMark y z) := q_13
    refine lv_if_ne (tgt := 21) hx hb dX7_mends_16 (by decide) (fun c_16 => ?_) (fun c_16 => ?_)
    · have c_16 : (pMark y z) = true := b2i_n0.mp c_16
      obtain ⟨a, b, ha, hb0, rfl, rfl⟩ := pMark_of c_16
      refine lv_aload_n hx hb dX7_mends_21 rfl (lv_at hl 0 rfl) ?_
      refine va_get (D := G.1) (ci := 7) (v := .ref (q 3)) (C := RX7) (T := TX7) (N := 9) hx hb hts hin7 hown hK.1 hP 0 rfl rfl 3 (by decide) f29 (fun _ h9 => h9) rfl dX7_mends_22 ?_
      refine va_get (D := G.1) (ci := 3) (v := .ref (qN 0)) (C := RX3) (T := TX3) (N := 3) hx hb hts hin3 hown hK.1 hP 1 rfl rfl 0 (by decide) f131 (fun _ h9 => h9) rfl dX7_mends_25 ?_
      refine lv_iload_n hx hb dX7_mends_28 rfl (lv_at hl 1 rfl) ?_
      refine al_i hx hb hK.1 hP 2 0 rfl rfl (j := p) (by omega) (Nat.le_of_ble_eq_true rfl) dX7_mends_29 ?_
      refine top_i (y := nI (NN.2.1 p)) ((hN.2.2 p hp0).1) ?_
      refine lv_iload_n hx hb dX7_mends_30 rfl (lv_at hl 2 rfl) ?_
      refine lv_icmp_ne (tgt := 50) hx hb dX7_mends_31 (by decide) (fun c_31 => ?_) (fun c_31 => ?_)
      · have c_31 : ¬ (NN.2.1 p) = a := fun hne => c_31 ((c_eq (a := NN.2.1 p) (b := a) rfl rfl (by omega) (by omega)).mpr hne)
        refine lv_aload_n hx hb dX7_mends_50 rfl (lv_at hl 0 rfl) ?_
        refine ca_v (wr := []) (va_runV (As := []) (rest := []) ⟨hx, hb, hml, hown, hts⟩ ((c_X7_beforeDone l G h v q vN qN bs zs vP qP rg vR qR bR zR vV qV NN j U (hN) (hv1) (hj) (hv2) (hU)) _) (cwV 0 hts gX7_mends_X7_beforeDone rfl rfl rfl (by decide +kernel) ⟨Nat.le_of_ble_eq_true rfl, Nat.le_of_ble_eq_true rfl⟩) (cPre_V hK hP hD [0, 1, 2, 3, 4, 5, 6, 7, 8, 9] (by decide) rfl 0 7 rfl rfl) rfl rfl hl.1 rfl (lv_room (Nat.le_of_ble_eq_true rfl)) dX7_mends_51 ⟨Nat.zero_le _, Nat.zero_le _⟩) hP hD hS hA [0, 1, 2, 3, 4, 5, 6, 7, 8, 9] [] rfl rfl (by decide) (by decide) [0, 1, 2, 3, 4, 5, 6, 7, 8, 9] (fun u_51 => [oB h 7 (oF7 v q), oB (q 3) 3 (oF3 vN qN), aI G (qN 0) 8 bs, aI G (qN 1) 8 zs, oB (q 4) 4 (oF4 (upd (upd vP 1 (nI ((j + 1) % 10))) 2 (nI (min (U + 1) 10))) qP), aN G (qP 0) 10 (fun k => some (rg k)), oB (rg j) 3 (oF3 (upd vR 2 (nI NN.1)) qR), aI G (qR 0) 8 u_51.1, aI G (qR 1) 8 u_51.2, oB (q 5) 6 (oF6 (upd vV 4 0) qV)]) (by decide) (fun _ => rfl) (fun u_51 H locs q_51 hP hD hS => ?_)
        have q_51 : NRep NN (upd vR 2 (nI NN.1)) u_51.1 u_51.2 := q_51
        have hP : va_P G.1 vwCl [oB h 7 (oF7 v q), oB (q 3) 3 (oF3 vN qN), aI G (qN 0) 8 bs, aI G (qN 1) 8 zs, oB (q 4) 4 (oF4 (upd (upd vP 1 (nI ((j + 1) % 10))) 2 (nI (min (U + 1) 10))) qP), aN G (qP 0) 10 (fun k => some (rg k)), oB (rg j) 3 (oF3 (upd vR 2 (nI NN.1)) qR), aI G (qR 0) 8 u_51.1, aI G (qR 1) 8 u_51.2, oB (q 5) 6 (oF6 (upd vV 4 0) qV)] H := hP
        have hD : va_D A [oB h 7 (oF7 v q), oB (q 3) 3 (oF3 vN qN), aI G (qN 0) 8 bs, aI G (qN 1) 8 zs, oB (q 4) 4 (oF4 (upd (upd vP 1 (nI ((j + 1) % 10))) 2 (nI (min (U + 1) 10))) qP), aN G (qP 0) 10 (fun k => some (rg k)), oB (rg j) 3 (oF3 (upd vR 2 (nI NN.1)) qR), aI G (qR 0) 8 u_51.1, aI G (qR 1) 8 u_51.2, oB (q 5) 6 (oF6 (upd vV 4 0) qV)] := hD
        refine lv_aload_n hx hb dX7_mends_54 rfl (lv_at hl 0 rfl) ?_
        refine va_get (D := G.1) (ci := 7) (v := .ref (q 3)) (C := RX7) (T := TX7) (N := 9) hx hb hts hin7 hown hK.1 hP 0 rfl rfl 3 (by decide) f29 (fun _ h9 => h9) rfl dX7_mends_55 ?_
        refine va_get (D := G.1) (ci := 3) (v := .ref (qN 0)) (C := RX3) (T := TX3) (N := 3) hx hb hts hin3 hown hK.1 hP 1 rfl rfl 0 (by decide) f131 (fun _ h9 => h9) rfl dX7_mends_58 ?_
        refine lv_iload_n hx hb dX7_mends_61 rfl (lv_at hl 1 rfl) ?_
        refine lv_iload_n hx hb dX7_mends_62 rfl (lv_at hl 2 rfl) ?_
        refine as_i hx hb hK.1 hP hD hS 2 0 rfl rfl (j := p) (by omega) (Nat.le_of_ble_eq_true rfl) dX7_mends_63 (fun H locs hP hD hS => ?_)
        have hP : va_P G.1 vwCl [oB h 7 (oF7 v q), oB (q 3) 3 (oF3 vN qN), aI G (qN 0) 8 (upd bs p (nI a)), aI G (qN 1) 8 zs, oB (q 4) 4 (oF4 (upd (upd vP 1 (nI ((j + 1) % 10))) 2 (nI (min (U + 1) 10))) qP), aN G (qP 0) 10 (fun k => some (rg k)), oB (rg j) 3 (oF3 (upd vR 2 (nI NN.1)) qR), aI G (qR 0) 8 u_51.1, aI G (qR 1) 8 u_51.2, oB (q 5) 6 (oF6 (upd vV 4 0) qV)] H := hP
        have hD : va_D A [oB h 7 (oF7 v q), oB (q 3) 3 (oF3 vN qN), aI G (qN 0) 8 (upd bs p (nI a)), aI G (qN 1) 8 zs, oB (q 4) 4 (oF4 (upd (upd vP 1 (nI ((j + 1) % 10))) 2 (nI (min (U + 1) 10))) qP), aN G (qP 0) 10 (fun k => some (rg k)), oB (rg j) 3 (oF3 (upd vR 2 (nI NN.1)) qR), aI G (qR 0) 8 u_51.1, aI G (qR 1) 8 u_51.2, oB (q 5) 6 (oF6 (upd vV 4 0) qV)] := hD
        refine lv_aload_n hx hb dX7_mends_64 rfl (lv_at hl 0 rfl) ?_
        refine va_get (D := G.1) (ci := 7) (v := .ref (q 3)) (C := RX7) (T := TX7) (N := 9) hx hb hts hin7 hown hK.1 hP 0 rfl rfl 3 (by decide) f29 (fun _ h9 => h9) rfl dX7_mends_65 ?_
        refine va_get (D := G.1) (ci := 3) (v := .ref (qN 1)) (C := RX3) (T := TX3) (N := 3) hx hb hts hin3 hown hK.1 hP 1 rfl rfl 1 (by decide) f134 (fun _ h9 => h9) rfl dX7_mends_68 ?_
        refine lv_iload_n hx hb dX7_mends_71 rfl (lv_at hl 1 rfl) ?_
        refine lv_iload_n hx hb dX7_mends_72 rfl (lv_at hl 3 rfl) ?_
        refine as_i hx hb hK.1 hP hD hS 3 0 rfl rfl (j := p) (by omega) (Nat.le_of_ble_eq_true rfl) dX7_mends_73 (fun H locs hP hD hS => ?_)
        have hP : va_P G.1 vwCl [oB h 7 (oF7 v q), oB (q 3) 3 (oF3 vN qN), aI G (qN 0) 8 (upd bs p (nI a)), aI G (qN 1) 8 (upd zs p (nI b)), oB (q 4) 4 (oF4 (upd (upd vP 1 (nI ((j + 1) % 10))) 2 (nI (min (U + 1) 10))) qP), aN G (qP 0) 10 (fun k => some (rg k)), oB (rg j) 3 (oF3 (upd vR 2 (nI NN.1)) qR), aI G (qR 0) 8 u_51.1, aI G (qR 1) 8 u_51.2, oB (q 5) 6 (oF6 (upd vV 4 0) qV)] H := hP
        have hD : va_D A [oB h 7 (oF7 v q), oB (q 3) 3 (oF3 vN qN), aI G (qN 0) 8 (upd bs p (nI a)), aI G (qN 1) 8 (upd zs p (nI b)), oB (q 4) 4 (oF4 (upd (upd vP 1 (nI ((j + 1) % 10))) 2 (nI (min (U + 1) 10))) qP), aN G (qP 0) 10 (fun k => some (rg k)), oB (rg j) 3 (oF3 (upd vR 2 (nI NN.1)) qR), aI G (qR 0) 8 u_51.1, aI G (qR 1) 8 u_51.2, oB (q 5) 6 (oF6 (upd vV 4 0) qV)] := hD
        refine lv_iconst (v := 1) hx hb dX7_mends_74 (by decide) ?_
        have hpost : 1 = meR NN (nI p) (nI a) (nI b) ∧ NRep (meN NN (nI p) (nI a) (nI b)) (vN, upd bs p (nI a), upd zs p (nI b), upd (upd vP 1 (nI ((j + 1) % 10))) 2 (nI (min (U + 1) 10)), upd vR 2 (nI NN.1), u_51.1, u_51.2, upd vV 4 0).1 (vN, upd bs p (nI a), upd zs p (nI b), upd (upd vP 1 (nI ((j + 1) % 10))) 2 (nI (min (U + 1) 10)), upd vR 2 (nI NN.1), u_51.1, u_51.2, upd vV 4 0).2.1 (vN, upd bs p (nI a), upd zs p (nI b), upd (upd vP 1 (nI ((j + 1) % 10))) 2 (nI (min (U + 1) 10)), upd vR 2 (nI NN.1), u_51.1, u_51.2, upd vV 4 0).2.2.1 ∧ PuQ (meD NN (nI p) (nI a) (nI b)) NN j U vP vR bR zR vV (vN, upd bs p (nI a), upd zs p (nI b), upd (upd vP 1 (nI ((j + 1) % 10))) 2 (nI (min (U + 1) 10)), upd vR 2 (nI NN.1), u_51.1, u_51.2, upd vV 4 0).2.2.2.1 (vN, upd bs p (nI a), upd zs p (nI b), upd (upd vP 1 (nI ((j + 1) % 10))) 2 (nI (min (U + 1) 10)), upd vR 2 (nI NN.1), u_51.1, u_51.2, upd vV 4 0).2.2.2.2.1 (vN, upd bs p (nI a), upd zs p (nI b), upd (upd vP 1 (nI ((j + 1) % 10))) 2 (nI (min (U + 1) 10)), upd vR 2 (nI NN.1), u_51.1, u_51.2, upd vV 4 0).2.2.2.2.2.1 (vN, upd bs p (nI a), upd zs p (nI b), upd (upd vP 1 (nI ((j + 1) % 10))) 2 (nI (min (U + 1) 10)), upd vR 2 (nI NN.1), u_51.1, u_51.2, upd vV 4 0).2.2.2.2.2.2.1 (vN, upd bs p (nI a), upd zs p (nI b), upd (upd vP 1 (nI ((j + 1) % 10))) 2 (nI (min (U + 1) 10)), upd vR 2 (nI NN.1), u_51.1, u_51.2, upd vV 4 0).2.2.2.2.2.2.2 := by
          have e : meO NN (nI p) (nI a) (nI b) = true := by simp [meO, c_8, c_16]
          have e1 : meS NN (nI p) (nI a) (nI b) = false := by
            have h1 : (nI p).toNatClampNeg = p := nI_clamp (by omega)
            simp only [meS, h1]
            by_cases d1 : NN.2.1 p = a
            · by_cases d2 : NN.2.2 p = b
              · exact absurd d2 (by first | exact c_44 | exact absurd d1 c_31)
              · have : ¬ nI (NN.2.2 p) = nI b := fun q => d2 ((nI_eq (by omega) (by omega)).mp q)
                simp [this]
            · have : ¬ nI (NN.2.1 p) = nI a := fun q => d1 ((nI_eq (by omega) (by omega)).mp q)
              simp [this]
          have e2 : meD NN (nI p) (nI a) (nI b) = true := by simp [meD, e, e1]
          refine ⟨by simp [meR, e, e1], ?_, by rw [e2]; exact ⟨fun _ => ⟨rfl, rfl, q_51, rfl⟩, fun h => (by cases h)⟩⟩
          rw [meN, if_pos e2, nI_clamp (by omega), nI_clamp (by omega), nI_clamp (by omega)]
          exact NRep_set hN hp0 ha hb0
        exact hret _ (vN, upd bs p (nI a), upd zs p (nI b), upd (upd vP 1 (nI ((j + 1) % 10))) 2 (nI (min (U + 1) 10)), upd vR 2 (nI NN.1), u_51.1, u_51.2, upd vV 4 0) _ _ _ _ (hpost) (rfl) hP hD hS dX7_mends_75
      · have c_31 : (NN.2.1 p) = a := (c_eq (a := NN.2.1 p) (b := a) rfl rfl (by omega) (by omega)).mp c_31
        refine lv_aload_n hx hb dX7_mends_34 rfl (lv_at hl 0 rfl) ?_
        refine va_get (D := G.1) (ci := 7) (v := .ref (q 3)) (C := RX7) (T := TX7) (N := 9) hx hb hts hin7 hown hK.1 hP 0 rfl rfl 3 (by decide) f29 (fun _ h9 => h9) rfl dX7_mends_35 ?_
        refine va_get (D := G.1) (ci := 3) (v := .ref (qN 1)) (C := RX3) (T := TX3) (N := 3) hx hb hts hin3 hown hK.1 hP 1 rfl rfl 1 (by decide) f134 (fun _ h9 => h9) rfl dX7_mends_38 ?_
        refine lv_iload_n hx hb dX7_mends_41 rfl (lv_at hl 1 rfl) ?_
        refine al_i hx hb hK.1 hP 3 0 rfl rfl (j := p) (by omega) (Nat.le_of_ble_eq_true rfl) dX7_mends_42 ?_
        refine top_i (y := nI (NN.2.2 p)) ((hN.2.2 p hp0).2.2.1) ?_
        refine lv_iload_n hx hb dX7_mends_43 rfl (lv_at hl 3 rfl) ?_
        refine lv_icmp_ne (tgt := 50) hx hb dX7_mends_44 (by decide) (fun c_44 => ?_) (fun c_44 => ?_)
        · have c_44 : ¬ (NN.2.2 p) = b := fun hne => c_44 ((c_eq (a := NN.2.2 p) (b := b) rfl rfl (by omega) (by omega)).mpr hne)
          refine lv_aload_n hx hb dX7_mends_50 rfl (lv_at hl 0 rfl) ?_
          refine ca_v (wr := []) (va_runV (As := []) (rest := []) ⟨hx, hb, hml, hown, hts⟩ ((c_X7_beforeDone l G h v q vN qN bs zs vP qP rg vR qR bR zR vV qV NN j U (hN) (hv1) (hj) (hv2) (hU)) _) (cwV 0 hts gX7_mends_X7_beforeDone rfl rfl rfl (by decide +kernel) ⟨Nat.le_of_ble_eq_true rfl, Nat.le_of_ble_eq_true rfl⟩) (cPre_V hK hP hD [0, 1, 2, 3, 4, 5, 6, 7, 8, 9] (by decide) rfl 0 7 rfl rfl) rfl rfl hl.1 rfl (lv_room (Nat.le_of_ble_eq_true rfl)) dX7_mends_51 ⟨Nat.zero_le _, Nat.zero_le _⟩) hP hD hS hA [0, 1, 2, 3, 4, 5, 6, 7, 8, 9] [] rfl rfl (by decide) (by decide) [0, 1, 2, 3, 4, 5, 6, 7, 8, 9] (fun u_51 => [oB h 7 (oF7 v q), oB (q 3) 3 (oF3 vN qN), aI G (qN 0) 8 bs, aI G (qN 1) 8 zs, oB (q 4) 4 (oF4 (upd (upd vP 1 (nI ((j + 1) % 10))) 2 (nI (min (U + 1) 10))) qP), aN G (qP 0) 10 (fun k => some (rg k)), oB (rg j) 3 (oF3 (upd vR 2 (nI NN.1)) qR), aI G (qR 0) 8 u_51.1, aI G (qR 1) 8 u_51.2, oB (q 5) 6 (oF6 (upd vV 4 0) qV)]) (by decide) (fun _ => rfl) (fun u_51 H locs q_51 hP hD hS => ?_)
          have q_51 : NRep NN (upd vR 2 (nI NN.1)) u_51.1 u_51.2 := q_51
          have hP : va_P G.1 vwCl [oB h 7 (oF7 v q), oB (q 3) 3 (oF3 vN qN), aI G (qN 0) 8 bs, aI G (qN 1) 8 zs, oB (q 4) 4 (oF4 (upd (upd vP 1 (nI ((j + 1) % 10))) 2 (nI (min (U + 1) 10))) qP), aN G (qP 0) 10 (fun k => some (rg k)), oB (rg j) 3 (oF3 (upd vR 2 (nI NN.1)) qR), aI G (qR 0) 8 u_51.1, aI G (qR 1) 8 u_51.2, oB (q 5) 6 (oF6 (upd vV 4 0) qV)] H := hP
          have hD : va_D A [oB h 7 (oF7 v q), oB (q 3) 3 (oF3 vN qN), aI G (qN 0) 8 bs, aI G (qN 1) 8 zs, oB (q 4) 4 (oF4 (upd (upd vP 1 (nI ((j + 1) % 10))) 2 (nI (min (U + 1) 10))) qP), aN G (qP 0) 10 (fun k => some (rg k)), oB (rg j) 3 (oF3 (upd vR 2 (nI NN.1)) qR), aI G (qR 0) 8 u_51.1, aI G (qR 1) 8 u_51.2, oB (q 5) 6 (oF6 (upd vV 4 0) qV)] := hD
          refine lv_aload_n hx hb dX7_mends_54 rfl (lv_at hl 0 rfl) ?_
          refine va_get (D := G.1) (ci := 7) (v := .ref (q 3)) (C := RX7) (T := TX7) (N := 9) hx hb hts hin7 hown hK.1 hP 0 rfl rfl 3 (by decide) f29 (fun _ h9 => h9) rfl dX7_mends_55 ?_
          refine va_get (D := G.1) (ci := 3) (v := .ref (qN 0)) (C := RX3) (T := TX3) (N := 3) hx hb hts hin3 hown hK.1 hP 1 rfl rfl 0 (by decide) f131 (fun _ h9 => h9) rfl dX7_mends_58 ?_
          refine lv_iload_n hx hb dX7_mends_61 rfl (lv_at hl 1 rfl) ?_
          refine lv_iload_n hx hb dX7_mends_62 rfl (lv_at hl 2 rfl) ?_
          refine as_i hx hb hK.1 hP hD hS 2 0 rfl rfl (j := p) (by omega) (Nat.le_of_ble_eq_true rfl) dX7_mends_63 (fun H locs hP hD hS => ?_)
          have hP : va_P G.1 vwCl [oB h 7 (oF7 v q), oB (q 3) 3 (oF3 vN qN), aI G (qN 0) 8 (upd bs p (nI a)), aI G (qN 1) 8 zs, oB (q 4) 4 (oF4 (upd (upd vP 1 (nI ((j + 1) % 10))) 2 (nI (min (U + 1) 10))) qP), aN G (qP 0) 10 (fun k => some (rg k)), oB (rg j) 3 (oF3 (upd vR 2 (nI NN.1)) qR), aI G (qR 0) 8 u_51.1, aI G (qR 1) 8 u_51.2, oB (q 5) 6 (oF6 (upd vV 4 0) qV)] H := hP
          have hD : va_D A [oB h 7 (oF7 v q), oB (q 3) 3 (oF3 vN qN), aI G (qN 0) 8 (upd bs p (nI a)), aI G (qN 1) 8 zs, oB (q 4) 4 (oF4 (upd (upd vP 1 (nI ((j + 1) % 10))) 2 (nI (min (U + 1) 10))) qP), aN G (qP 0) 10 (fun k => some (rg k)), oB (rg j) 3 (oF3 (upd vR 2 (nI NN.1)) qR), aI G (qR 0) 8 u_51.1, aI G (qR 1) 8 u_51.2, oB (q 5) 6 (oF6 (upd vV 4 0) qV)] := hD
          refine lv_aload_n hx hb dX7_mends_64 rfl (lv_at hl 0 rfl) ?_
          refine va_get (D := G.1) (ci := 7) (v := .ref (q 3)) (C := RX7) (T := TX7) (N := 9) hx hb hts hin7 hown hK.1 hP 0 rfl rfl 3 (by decide) f29 (fun _ h9 => h9) rfl dX7_mends_65 ?_
          refine va_get (D := G.1) (ci := 3) (v := .ref (qN 1)) (C := RX3) (T := TX3) (N := 3) hx hb hts hin3 hown hK.1 hP 1 rfl rfl 1 (by decide) f134 (fun _ h9 => h9) rfl dX7_mends_68 ?_
          refine lv_iload_n hx hb dX7_mends_71 rfl (lv_at hl 1 rfl) ?_
          refine lv_iload_n hx hb dX7_mends_72 rfl (lv_at hl 3 rfl) ?_
          refine as_i hx hb hK.1 hP hD hS 3 0 rfl rfl (j := p) (by omega) (Nat.le_of_ble_eq_true rfl) dX7_mends_73 (fun H locs hP hD hS => ?_)
          have hP : va_P G.1 vwCl [oB h 7 (oF7 v q), oB (q 3) 3 (oF3 vN qN), aI G (qN 0) 8 (upd bs p (nI a)), aI G (qN 1) 8 (upd zs p (nI b)), oB (q 4) 4 (oF4 (upd (upd vP 1 (nI ((j + 1) % 10))) 2 (nI (min (U + 1) 10))) qP), aN G (qP 0) 10 (fun k => some (rg k)), oB (rg j) 3 (oF3 (upd vR 2 (nI NN.1)) qR), aI G (qR 0) 8 u_51.1, aI G (qR 1) 8 u_51.2, oB (q 5) 6 (oF6 (upd vV 4 0) qV)] H := hP
          have hD : va_D A [oB h 7 (oF7 v q), oB (q 3) 3 (oF3 vN qN), aI G (qN 0) 8 (upd bs p (nI a)), aI G (qN 1) 8 (upd zs p (nI b)), oB (q 4) 4 (oF4 (upd (upd vP 1 (nI ((j + 1) % 10))) 2 (nI (min (U + 1) 10))) qP), aN G (qP 0) 10 (fun k => some (rg k)), oB (rg j) 3 (oF3 (upd vR 2 (nI NN.1)) qR), aI G (qR 0) 8 u_51.1, aI G (qR 1) 8 u_51.2, oB (q 5) 6 (oF6 (upd vV 4 0) qV)] := hD
          refine lv_iconst (v := 1) hx hb dX7_mends_74 (by decide) ?_
          have hpost : 1 = meR NN (nI p) (nI a) (nI b) ∧ NRep (meN NN (nI p) (nI a) (nI b)) (vN, upd bs p (nI a), upd zs p (nI b), upd (upd vP 1 (nI ((j + 1) % 10))) 2 (nI (min (U + 1) 10)), upd vR 2 (nI NN.1), u_51.1, u_51.2, upd vV 4 0).1 (vN, upd bs p (nI a), upd zs p (nI b), upd (upd vP 1 (nI ((j + 1) % 10))) 2 (nI (min (U + 1) 10)), upd vR 2 (nI NN.1), u_51.1, u_51.2, upd vV 4 0).2.1 (vN, upd bs p (nI a), upd zs p (nI b), upd (upd vP 1 (nI ((j + 1) % 10))) 2 (nI (min (U + 1) 10)), upd vR 2 (nI NN.1), u_51.1, u_51.2, upd vV 4 0).2.2.1 ∧ PuQ (meD NN (nI p) (nI a) (nI b)) NN j U vP vR bR zR vV (vN, upd bs p (nI a), upd zs p (nI b), upd (upd vP 1 (nI ((j + 1) % 10))) 2 (nI (min (U + 1) 10)), upd vR 2 (nI NN.1), u_51.1, u_51.2, upd vV 4 0).2.2.2.1 (vN, upd bs p (nI a), upd zs p (nI b), upd (upd vP 1 (nI ((j + 1) % 10))) 2 (nI (min (U + 1) 10)), upd vR 2 (nI NN.1), u_51.1, u_51.2, upd vV 4 0).2.2.2.2.1 (vN, upd bs p (nI a), upd zs p (nI b), upd (upd vP 1 (nI ((j + 1) % 10))) 2 (nI (min (U + 1) 10)), upd vR 2 (nI NN.1), u_51.1, u_51.2, upd vV 4 0).2.2.2.2.2.1 (vN, upd bs p (nI a), upd zs p (nI b), upd (upd vP 1 (nI ((j + 1) % 10))) 2 (nI (min (U + 1) 10)), upd vR 2 (nI NN.1), u_51.1, u_51.2, upd vV 4 0).2.2.2.2.2.2.1 (vN, upd bs p (nI a), upd zs p (nI b), upd (upd vP 1 (nI ((j + 1) % 10))) 2 (nI (min (U + 1) 10)), upd vR 2 (nI NN.1), u_51.1, u_51.2, upd vV 4 0).2.2.2.2.2.2.2 := by
            have e : meO NN (nI p) (nI a) (nI b) = true := by simp [meO, c_8, c_16]
            have e1 : meS NN (nI p) (nI a) (nI b) = false := by
              have h1 : (nI p).toNatClampNeg = p := nI_clamp (by omega)
              simp only [meS, h1]
              by_cases d1 : NN.2.1 p = a
              · by_cases d2 : NN.2.2 p = b
                · exact absurd d2 (by first | exact c_44 | exact absurd d1 c_31)
                · have : ¬ nI (NN.2.2 p) = nI b := fun q => d2 ((nI_eq (by omega) (by omega)).mp q)
                  simp [this]
              · have : ¬ nI (NN.2.1 p) = nI a := fun q => d1 ((nI_eq (by omega) (by omega)).mp q)
                simp [this]
            have e2 : meD NN (nI p) (nI a) (nI b) = true := by simp [meD, e, e1]
            refine ⟨by simp [meR, e, e1], ?_, by rw [e2]; exact ⟨fun _ => ⟨rfl, rfl, q_51, rfl⟩, fun h => (by cases h)⟩⟩
            rw [meN, if_pos e2, nI_clamp (by omega), nI_clamp (by omega), nI_clamp (by omega)]
            exact NRep_set hN hp0 ha hb0
          exact hret _ (vN, upd bs p (nI a), upd zs p (nI b), upd (upd vP 1 (nI ((j + 1) % 10))) 2 (nI (min (U + 1) 10)), upd vR 2 (nI NN.1), u_51.1, u_51.2, upd vV 4 0) _ _ _ _ (hpost) (rfl) hP hD hS dX7_mends_75
        · have c_44 : (NN.2.2 p) = b := (c_eq (a := NN.2.2 p) (b := b) rfl rfl (by omega) (by omega)).mp c_44
          refine lv_bipush (v := -2) hx hb dX7_mends_47 (by decide) ?_
          have hpost : (-2) = meR NN (nI p) (nI a) (nI b) ∧ NRep (meN NN (nI p) (nI a) (nI b)) (vN, bs, zs, vP, vR, bR, zR, vV).1 (vN, bs, zs, vP, vR, bR, zR, vV).2.1 (vN, bs, zs, vP, vR, bR, zR, vV).2.2.1 ∧ PuQ (meD NN (nI p) (nI a) (nI b)) NN j U vP vR bR zR vV (vN, bs, zs, vP, vR, bR, zR, vV).2.2.2.1 (vN, bs, zs, vP, vR, bR, zR, vV).2.2.2.2.1 (vN, bs, zs, vP, vR, bR, zR, vV).2.2.2.2.2.1 (vN, bs, zs, vP, vR, bR, zR, vV).2.2.2.2.2.2.1 (vN, bs, zs, vP, vR, bR, zR, vV).2.2.2.2.2.2.2 := by
            have e : meO NN (nI p) (nI a) (nI b) = true := by simp [meO, c_8, c_16]
            have e1 : meS NN (nI p) (nI a) (nI b) = true := by simp [meS, nI_clamp (show p < 2147483648 by omega), c_31, c_44]
            have e2 : meD NN (nI p) (nI a) (nI b) = false := by simp [meD, e, e1]
            refine ⟨by simp [meR, e, e1], by simp [meN, e2]; exact hN, by rw [e2]; exact PuQ_no⟩
          exact hret _ (vN, bs, zs, vP, vR, bR, zR, vV) _ _ _ _ (hpost) (rfl) hP hD hS dX7_mends_49
    · have c_16 : (pMark y z) = false := b2i_0.mp c_16
      refine lv_iconst (v := -1) hx hb dX7_mends_19 (by decide) ?_
      have hpost : (-1) = meR NN (nI p) y z ∧ NRep (meN NN (nI p) y z) (vN, bs, zs, vP, vR, bR, zR, vV).1 (vN, bs, zs, vP, vR, bR, zR, vV).2.1 (vN, bs, zs, vP, vR, bR, zR, vV).2.2.1 ∧ PuQ (meD NN (nI p) y z) NN j U vP vR bR zR vV (vN, bs, zs, vP, vR, bR, zR, vV).2.2.2.1 (vN, bs, zs, vP, vR, bR, zR, vV).2.2.2.2.1 (vN, bs, zs, vP, vR, bR, zR, vV).2.2.2.2.2.1 (vN, bs, zs, vP, vR, bR, zR, vV).2.2.2.2.2.2.1 (vN, bs, zs, vP, vR, bR, zR, vV).2.2.2.2.2.2.2 := by
        have e : meO NN (nI p) y z = false := by simp [meO, c_8, c_16]
        have e2 : meD NN (nI p) y z = false := by simp [meD, e]
        refine ⟨by simp [meR, e], by simp [meN, e2]; exact hN, by rw [e2]; exact PuQ_no⟩
      exact hret _ (vN, bs, zs, vP, vR, bR, zR, vV) _ _ _ _ (hpost) (rfl) hP hD hS dX7_mends_20

abbrev rX7_undo : Room := { frames := 2, cells := 0, slots := 0, locals := 43 }
set_option maxHeartbeats 4000000 in
set_option maxRecDepth 100000 in
theorem c_X7_undo (l : Launch) (G : kG) (h : Nat) (v : Nat → Int32) (q : Nat → Nat) (vN : Nat → Int32) (qN : Nat → Nat) (bs : Nat → Int32) (zs : Nat → Int32) (vP : Nat → Int32) (qP : Nat → Nat) (rg : Nat → Nat) (vR : Nat → Int32) (qR : Nat → Nat) (bR : Nat → Int32) (zR : Nat → Int32) (vV : Nat → Int32) (qV : Nat → Nat) (NE : NL) (j : Nat) (j0 : Nat) (U : Nat) (hv1 : vP 1 = nI j0) (hj0 : j0 < 10) (hj2 : (j0 + 9) % 10 = j) (hv2 : vP 2 = nI U) (hU : U ≤ 10) (hNE : 0 < U → NRep NE vR bR zR) : Ci l G yX7_undo wsX7_undo rX7_undo [.ref h] [oB h 7 (oF7 v q), oB (q 3) 3 (oF3 vN qN), aI G (qN 0) 8 bs, aI G (qN 1) 8 zs, oB (q 4) 4 (oF4 vP qP), aN G (qP 0) 10 (fun k => some (rg k)), oB (rg j) 3 (oF3 vR qR), aI G (qR 0) 8 bR, aI G (qR 1) 8 zR, oB (q 5) 6 (oF6 vV qV)] (fun r (u : (Nat → Int32) × (Nat → Int32) × (Nat → Int32) × (Nat → Int32) × (Nat → Int32)) => r = unR U ∧ (0 < U → NRep NE u.1 u.2.1 u.2.2.1 ∧ u.2.2.2.1 1 = nI j ∧ u.2.2.2.1 2 = nI (U - 1) ∧ u.2.2.2.2 4 = 0) ∧ (U = 0 → u.1 = vN ∧ u.2.1 = bs ∧ u.2.2.1 = zs ∧ u.2.2.2.1 = vP ∧ u.2.2.2.2 = vV)) (fun u => [oB h 7 (oF7 v q), oB (q 3) 3 (oF3 u.1 qN), aI G (qN 0) 8 u.2.1, aI G (qN 1) 8 u.2.2.1, oB (q 4) 4 (oF4 u.2.2.2.1 qP), aN G (qP 0) 10 (fun k => some (rg k)), oB (rg j) 3 (oF3 vR qR), aI G (qR 0) 8 bR, aI G (qR 1) 8 zR, oB (q 5) 6 (oF6 u.2.2.2.2 qV)]) := by
  refine Ci.of (cc := cX7_undo) (maxL := 1) (by decide) rfl (Nat.le_of_ble_eq_true rfl) ?_
  intro pM eM sM mM bM tM cM Q A hx hb hts hown hml hA hK hP hD hS hret ls hl
  have hown : sM.vm.findClass RX7 = some mM.cls := hown
  have hl : lv_has ls 1 [(0, .ref h)] := hl
  have hin4 : ∀ w ∈ u_ws RX4 TX4 3, w ∈ wsX7_undo := by decide +kernel
  have hin6 : ∀ w ∈ u_ws RX6 TX6 10, w ∈ wsX7_undo := by decide +kernel
  have hin7 : ∀ w ∈ u_ws RX7 TX7 9, w ∈ wsX7_undo := by decide +kernel
  have f36 := hts (.fieldLink RX7 36 "HorizonPeaks" "past" "LHorizonPeaks$Past;") (by decide +kernel)
  have f86 := hts (.fieldLink RX7 86 "HorizonPeaks$Past" "size" "I") (by decide +kernel)
  have f29 := hts (.fieldLink RX7 29 "HorizonPeaks" "notches" "LHorizonPeaks$Notches;") (by decide +kernel)
  have f45 := hts (.fieldLink RX7 45 "HorizonPeaks" "views" "LHorizonPeaks$Views;") (by decide +kernel)
  have f88 := hts (.fieldLink RX7 88 "HorizonPeaks$Views" "known" "Z") (by decide +kernel)
  refine lv_aload_n hx hb dX7_undo_0 rfl (lv_at hl 0 rfl) ?_
  refine va_get (D := G.1) (ci := 7) (v := .ref (q 4)) (C := RX7) (T := TX7) (N := 9) hx hb hts hin7 hown hK.1 hP 0 rfl rfl 4 (by decide) f36 (fun _ h9 => h9) rfl dX7_undo_1 ?_
  refine va_get (D := G.1) (ci := 4) (v := .int (vP 2)) (C := RX4) (T := TX4) (N := 3) hx hb hts hin4 hown hK.1 hP 4 rfl rfl 2 (by decide) f86 (fun _ h9 => h9) rfl dX7_undo_4 ?_
  refine top_i (y := nI U) (hv2) ?_
  refine lv_if_ne (tgt := 13) hx hb dX7_undo_7 (by decide) (fun c_7 => ?_) (fun c_7 => ?_)
  · have c_7 : ¬ U = 0 := fun hne => c_7 ((c_eq (a := U) (b := 0) rfl rfl (by omega) (by omega)).mpr hne)
    refine lv_aload_n hx hb dX7_undo_13 rfl (lv_at hl 0 rfl) ?_
    refine va_get (D := G.1) (ci := 7) (v := .ref (q 4)) (C := RX7) (T := TX7) (N := 9) hx hb hts hin7 hown hK.1 hP 0 rfl rfl 4 (by decide) f36 (fun _ h9 => h9) rfl dX7_undo_14 ?_
    refine lv_aload_n hx hb dX7_undo_17 rfl (lv_at hl 0 rfl) ?_
    refine va_get (D := G.1) (ci := 7) (v := .ref (q 3)) (C := RX7) (T := TX7) (N := 9) hx hb hts hin7 hown hK.1 hP 0 rfl rfl 3 (by decide) f29 (fun _ h9 => h9) rfl dX7_undo_18 ?_
    refine ca_v (wr := [oB h 7 (oF7 v q), oB (q 5) 6 (oF6 vV qV)]) (va_runV (As := [.ref (q 3)]) (rest := []) ⟨hx, hb, hml, hown, hts⟩ ((c_X4_restore l G (q 4) vP qP rg vR qR bR zR (q 3) vN qN bs zs j U NE.1 j0 (hv1) (hj0) (hj2) (hv2) (hU) (by omega) ((hNE (by omega)).1) ((hNE (by omega)).2.1)) _) (cwV 1 hts gX7_undo_X4_restore rfl rfl rfl (by decide +kernel) ⟨Nat.le_of_ble_eq_true rfl, Nat.le_of_ble_eq_true rfl⟩) (cPre_V hK hP hD [4, 5, 6, 7, 8, 1, 2, 3] (by decide) rfl 0 4 rfl rfl) rfl rfl hl.1 rfl (lv_room (Nat.le_of_ble_eq_true rfl)) dX7_undo_21 ⟨Nat.zero_le _, Nat.zero_le _⟩) hP hD hS hA [4, 5, 6, 7, 8, 1, 2, 3] [0, 9] rfl rfl (by decide) (by decide) [0, 7, 8, 9, 2, 3, 4, 5, 6, 1] (fun u_21 => [oB h 7 (oF7 v q), oB (q 3) 3 (oF3 (upd vN 2 (nI NE.1)) qN), aI G (qN 0) 8 u_21.1, aI G (qN 1) 8 u_21.2, oB (q 4) 4 (oF4 (upd (upd vP 1 (nI j)) 2 (nI (U - 1))) qP), aN G (qP 0) 10 (fun k => some (rg k)), oB (rg j) 3 (oF3 vR qR), aI G (qR 0) 8 bR, aI G (qR 1) 8 zR, oB (q 5) 6 (oF6 vV qV)]) (by decide) (fun _ => rfl) (fun u_21 H locs q_21 hP hD hS => ?_)
    have q_21 : ∀ i, i < NE.1 → u_21.1 i = bR i ∧ u_21.2 i = zR i := q_21
    have hP : va_P G.1 vwCl [oB h 7 (oF7 v q), oB (q 3) 3 (oF3 (upd vN 2 (nI NE.1)) qN), aI G (qN 0) 8 u_21.1, aI G (qN 1) 8 u_21.2, oB (q 4) 4 (oF4 (upd (upd vP 1 (nI j)) 2 (nI (U - 1))) qP), aN G (qP 0) 10 (fun k => some (rg k)), oB (rg j) 3 (oF3 vR qR), aI G (qR 0) 8 bR, aI G (qR 1) 8 zR, oB (q 5) 6 (oF6 vV qV)] H := hP
    have hD : va_D A [oB h 7 (oF7 v q), oB (q 3) 3 (oF3 (upd vN 2 (nI NE.1)) qN), aI G (qN 0) 8 u_21.1, aI G (qN 1) 8 u_21.2, oB (q 4) 4 (oF4 (upd (upd vP 1 (nI j)) 2 (nI (U - 1))) qP), aN G (qP 0) 10 (fun k => some (rg k)), oB (rg j) 3 (oF3 vR qR), aI G (qR 0) 8 bR, aI G (qR 1) 8 zR, oB (q 5) 6 (oF6 vV qV)] := hD
    refine lv_aload_n hx hb dX7_undo_24 rfl (lv_at hl 0 rfl) ?_
    refine va_get (D := G.1) (ci := 7) (v := .ref (q 5)) (C := RX7) (T := TX7) (N := 9) hx hb hts hin7 hown hK.1 hP 0 rfl rfl 5 (by decide) f45 (fun _ h9 => h9) rfl dX7_undo_25 ?_
    refine lv_iconst (v := 0) hx hb dX7_undo_28 (by decide) ?_
    refine va_put (D := G.1) (ci := 6) (v := .int 0) (ty := .boolean) (C := RX6) (T := TX6) (N := 10) hx hb hts hin6 tyX6 tyX6_ok nmX6 hown hK.1 hP hD hS 9 rfl rfl 4 (by decide) f88 (fun _ h9 => h9) rfl (by decide +kernel) rfl rfl (Nat.le_of_ble_eq_true rfl) dX7_undo_29 (fun H locs hP hD hS => ?_)
    have hP : va_P G.1 vwCl [oB h 7 (oF7 v q), oB (q 3) 3 (oF3 (upd vN 2 (nI NE.1)) qN), aI G (qN 0) 8 u_21.1, aI G (qN 1) 8 u_21.2, oB (q 4) 4 (oF4 (upd (upd vP 1 (nI j)) 2 (nI (U - 1))) qP), aN G (qP 0) 10 (fun k => some (rg k)), oB (rg j) 3 (oF3 vR qR), aI G (qR 0) 8 bR, aI G (qR 1) 8 zR, oB (q 5) 6 (oF6 (upd vV 4 0) qV)] H := hP
    have hD : va_D A [oB h 7 (oF7 v q), oB (q 3) 3 (oF3 (upd vN 2 (nI NE.1)) qN), aI G (qN 0) 8 u_21.1, aI G (qN 1) 8 u_21.2, oB (q 4) 4 (oF4 (upd (upd vP 1 (nI j)) 2 (nI (U - 1))) qP), aN G (qP 0) 10 (fun k => some (rg k)), oB (rg j) 3 (oF3 vR qR), aI G (qR 0) 8 bR, aI G (qR 1) 8 zR, oB (q 5) 6 (oF6 (upd vV 4 0) qV)] := hD
    refine lv_aload_n hx hb dX7_undo_32 rfl (lv_at hl 0 rfl) ?_
    refine va_get (D := G.1) (ci := 7) (v := .ref (q 4)) (C := RX7) (T := TX7) (N := 9) hx hb hts hin7 hown hK.1 hP 0 rfl rfl 4 (by decide) f36 (fun _ h9 => h9) rfl dX7_undo_33 ?_
    refine va_get (D := G.1) (ci := 4) (v := .int (nI (U - 1))) (C := RX4) (T := TX4) (N := 3) hx hb hts hin4 hown hK.1 hP 4 rfl rfl 2 (by decide) f86 (fun _ h9 => h9) rfl dX7_undo_36 ?_
    have hpost : (nI (U - 1)) = unR U ∧ (0 < U → NRep NE (upd vN 2 (nI NE.1), u_21.1, u_21.2, upd (upd vP 1 (nI j)) 2 (nI (U - 1)), upd vV 4 0).1 (upd vN 2 (nI NE.1), u_21.1, u_21.2, upd (upd vP 1 (nI j)) 2 (nI (U - 1)), upd vV 4 0).2.1 (upd vN 2 (nI NE.1), u_21.1, u_21.2, upd (upd vP 1 (nI j)) 2 (nI (U - 1)), upd vV 4 0).2.2.1 ∧ (upd vN 2 (nI NE.1), u_21.1, u_21.2, upd (upd vP 1 (nI j)) 2 (nI (U - 1)), upd vV 4 0).2.2.2.1 1 = nI j ∧ (upd vN 2 (nI NE.1), u_21.1, u_21.2, upd (upd vP 1 (nI j)) 2 (nI (U - 1)), upd vV 4 0).2.2.2.1 2 = nI (U - 1) ∧ (upd vN 2 (nI NE.1), u_21.1, u_21.2, upd (upd vP 1 (nI j)) 2 (nI (U - 1)), upd vV 4 0).2.2.2.2 4 = 0) ∧ (U = 0 → (upd vN 2 (nI NE.1), u_21.1, u_21.2, upd (upd vP 1 (nI j)) 2 (nI (U - 1)), upd vV 4 0).1 = vN ∧ (upd vN 2 (nI NE.1), u_21.1, u_21.2, upd (upd vP 1 (nI j)) 2 (nI (U - 1)), upd vV 4 0).2.1 = bs ∧ (upd vN 2 (nI NE.1), u_21.1, u_21.2, upd (upd vP 1 (nI j)) 2 (nI (U - 1)), upd vV 4 0).2.2.1 = zs ∧ (upd vN 2 (nI NE.1), u_21.1, u_21.2, upd (upd vP 1 (nI j)) 2 (nI (U - 1)), upd vV 4 0).2.2.2.1 = vP ∧ (upd vN 2 (nI NE.1), u_21.1, u_21.2, upd (upd vP 1 (nI j)) 2 (nI (U - 1)), upd vV 4 0).2.2.2.2 = vV) := by
      have hE := hNE (by omega)
      exact ⟨by rw [unR, if_neg c_7], fun _ => ⟨hE.copy rfl (fun i hi => q_21 i hi), rfl, rfl, rfl⟩, fun h => absurd h c_7⟩
    exact hret _ (upd vN 2 (nI NE.1), u_21.1, u_21.2, upd (upd vP 1 (nI j)) 2 (nI (U - 1)), upd vV 4 0) _ _ _ _ (hpost) (rfl) hP hD hS dX7_undo_39
  · have c_7 : U = 0 := (c_eq (a := U) (b := 0) rfl rfl (by omega) (by omega)).mp c_7
    refine lv_bipush (v := -2) hx hb dX7_undo_10 (by decide) ?_
    have hpost : (-2) = unR U ∧ (0 < U → NRep NE (vN, bs, zs, vP, vV).1 (vN, bs, zs, vP, vV).2.1 (vN, bs, zs, vP, vV).2.2.1 ∧ (vN, bs, zs, vP, vV).2.2.2.1 1 = nI j ∧ (vN, bs, zs, vP, vV).2.2.2.1 2 = nI (U - 1) ∧ (vN, bs, zs, vP, vV).2.2.2.2 4 = 0) ∧ (U = 0 → (vN, bs, zs, vP, vV).1 = vN ∧ (vN, bs, zs, vP, vV).2.1 = bs ∧ (vN, bs, zs, vP, vV).2.2.1 = zs ∧ (vN, bs, zs, vP, vV).2.2.2.1 = vP ∧ (vN, bs, zs, vP, vV).2.2.2.2 = vV) := by
      exact ⟨by rw [unR, if_pos c_7], fun h => absurd h (by omega), fun _ => ⟨rfl, rfl, rfl, rfl, rfl⟩⟩
    exact hret _ (vN, bs, zs, vP, vV) _ _ _ _ (hpost) (rfl) hP hD hS dX7_undo_12

abbrev rX7_notch : Room := { frames := 1, cells := 0, slots := 0, locals := 21 }
set_option maxHeartbeats 4000000 in
set_option maxRecDepth 100000 in
theorem c_X7_notch (l : Launch) (G : kG) (h : Nat) (v : Nat → Int32) (q : Nat → Nat) (vN : Nat → Int32) (qN : Nat → Nat) (bs : Nat → Int32) (zs : Nat → Int32) (x : Int32) (y : Int32) (NN : NL) (hN : NRep NN vN bs zs) : Ri l G yX7_notch wsX7_notch rX7_notch [.ref h, .int x, .int y] [oB h 7 (oF7 v q), oB (q 3) 3 (oF3 vN qN), aI G (qN 0) 8 bs, aI G (qN 1) 8 zs] (fun r => r = ntR NN x y) := by
  refine Ri.of (cc := cX7_notch) (maxL := 3) (by decide) rfl (Nat.le_of_ble_eq_true rfl) ?_
  intro pM eM sM mM bM tM cM Q hx hb hts hown hml hP hK hret ls hl
  have hown : sM.vm.findClass RX7 = some mM.cls := hown
  have hl : lv_has ls 3 [(0, .ref h), (1, .int x), (2, .int y)] := hl
  have hin3 : ∀ w ∈ u_ws RX3 TX3 3, w ∈ wsX7_notch := by decide +kernel
  have hin7 : ∀ w ∈ u_ws RX7 TX7 9, w ∈ wsX7_notch := by decide +kernel
  have f29 := hts (.fieldLink RX7 29 "HorizonPeaks" "notches" "LHorizonPeaks$Notches;") (by decide +kernel)
  have f131 := hts (.fieldLink RX7 131 "HorizonPeaks$Notches" "bearings" "[I") (by decide +kernel)
  have f134 := hts (.fieldLink RX7 134 "HorizonPeaks$Notches" "heights" "[I") (by decide +kernel)
  have hn8 := hN.2.1
  refine lv_aload_n hx hb dX7_notch_0 rfl (lv_at hl 0 rfl) ?_
  refine va_get (D := G.1) (ci := 7) (v := .ref (q 3)) (C := RX7) (T := TX7) (N := 9) hx hb hts hin7 hown hK.1 hP 0 rfl rfl 3 (by decide) f29 (fun _ h9 => h9) rfl dX7_notch_1 ?_
  refine lv_iload_n hx hb dX7_notch_4 rfl (lv_at hl 1 rfl) ?_
  refine rd_i (va_runV (As := [.int x]) (rest := []) ⟨hx, hb, hml, hown, hts⟩ (c_X3_has l G (q 3) vN qN x) (cwV 1 hts gX7_notch_X3_has rfl rfl rfl (by decide +kernel) ⟨Nat.le_of_ble_eq_true rfl, Nat.le_of_ble_eq_true rfl⟩) (rPre_V hK hP [1] rfl 0 3 rfl rfl) rfl rfl hl.1 rfl (lv_room (Nat.le_of_ble_eq_true rfl)) dX7_notch_5 ⟨Nat.zero_le _, Nat.zero_le _⟩) (fun r_5 q_5 => ?_)
  obtain rfl : r_5 = b2i (pHas (vN 2) x) := q_5
  refine lv_if_ne (tgt := 13) hx hb dX7_notch_8 (by decide) (fun c_8 => ?_) (fun c_8 => ?_)
  · have c_8 : (pHas (vN 2) x) = true := b2i_n0.mp c_8
    rw [hN.1] at c_8
    obtain ⟨p, hp0, rfl⟩ := pHas_of (by omega) c_8
    refine lv_iload_n hx hb dX7_notch_13 rfl (lv_at hl 2 rfl) ?_
    rcases sw2 y with rfl | rfl | c_14
    · refine lv_lookup (off := 26) (tgt := 40) hx hb dX7_notch_14 (by decide) (by decide) (by decide) ?_
      refine lv_aload_n hx hb dX7_notch_40 rfl (lv_at hl 0 rfl) ?_
      refine va_get (D := G.1) (ci := 7) (v := .ref (q 3)) (C := RX7) (T := TX7) (N := 9) hx hb hts hin7 hown hK.1 hP 0 rfl rfl 3 (by decide) f29 (fun _ h9 => h9) rfl dX7_notch_41 ?_
      refine va_get (D := G.1) (ci := 3) (v := .ref (qN 0)) (C := RX3) (T := TX3) (N := 3) hx hb hts hin3 hown hK.1 hP 1 rfl rfl 0 (by decide) f131 (fun _ h9 => h9) rfl dX7_notch_44 ?_
      refine lv_iload_n hx hb dX7_notch_47 rfl (lv_at hl 1 rfl) ?_
      refine al_i hx hb hK.1 hP 2 0 rfl rfl (j := p) (by omega) (Nat.le_of_ble_eq_true rfl) dX7_notch_48 ?_
      refine top_i (y := nI (NN.2.1 p)) ((hN.2.2 p hp0).1) ?_
      have hpost : (nI (NN.2.1 p)) = ntR NN (nI p) 0 := by
        rw [ntR, if_pos c_8, nI_clamp (by omega)]
        rfl
      exact hret _ _ _ (hpost) (rfl) dX7_notch_49
    · refine lv_lookup (off := 36) (tgt := 50) hx hb dX7_notch_14 (by decide) (by decide) (by decide) ?_
      refine lv_aload_n hx hb dX7_notch_50 rfl (lv_at hl 0 rfl) ?_
      refine va_get (D := G.1) (ci := 7) (v := .ref (q 3)) (C := RX7) (T := TX7) (N := 9) hx hb hts hin7 hown hK.1 hP 0 rfl rfl 3 (by decide) f29 (fun _ h9 => h9) rfl dX7_notch_51 ?_
      refine va_get (D := G.1) (ci := 3) (v := .ref (qN 1)) (C := RX3) (T := TX3) (N := 3) hx hb hts hin3 hown hK.1 hP 1 rfl rfl 1 (by decide) f134 (fun _ h9 => h9) rfl dX7_notch_54 ?_
      refine lv_iload_n hx hb dX7_notch_57 rfl (lv_at hl 1 rfl) ?_
      refine al_i hx hb hK.1 hP 3 0 rfl rfl (j := p) (by omega) (Nat.le_of_ble_eq_true rfl) dX7_notch_58 ?_
      refine top_i (y := nI (NN.2.2 p)) ((hN.2.2 p hp0).2.2.1) ?_
      have hpost : (nI (NN.2.2 p)) = ntR NN (nI p) 1 := by
        rw [ntR, if_pos c_8, nI_clamp (by omega)]
        rfl
      exact hret _ _ _ (hpost) (rfl) dX7_notch_59
    · refine lv_lookup (off := 46) (tgt := 60) hx hb dX7_notch_14 (by decide) (sw2_out c_14) (by decide) ?_
      refine lv_iconst (v := -1) hx hb dX7_notch_60 (by decide) ?_
      have hpost : (-1) = ntR NN (nI p) y := by
        rw [ntR, if_pos c_8, if_neg (fun e => c_14 (Or.inl e)), if_neg (fun e => c_14 (Or.inr e))]
      exact hret _ _ _ (hpost) (rfl) dX7_notch_61
  · have c_8 : (pHas (vN 2) x) = false := b2i_0.mp c_8
    rw [hN.1] at c_8
    refine lv_iconst (v := -1) hx hb dX7_notch_11 (by decide) ?_
    have hpost : (-1) = ntR NN x y := by
      rw [ntR, if_neg (ne_t c_8)]
    exact hret _ _ _ (hpost) (rfl) dX7_notch_12
